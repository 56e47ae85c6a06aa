theorem m_6_12 : Cond.fieldLink RX7 22 "PaperBoys$Reader" "ones" "I" ∈ wsL_law := ch_6 _ (List.mem_of_getElem? (i := 12) rfl)
theorem m_6_13 : Cond.fieldLink RX7 25 "PaperBoys$Reader" "oweTold" "Z" ∈ wsL_law := ch_6 _ (List.mem_of_getElem? (i := 13) rfl)
theorem m_22_17 : Cond.fieldLink RX7 39 "PaperBoys$Terms" "lines" "I" ∈ wsL_law := ch_22 _ (List.mem_of_getElem? (i := 17) rfl)
theorem m_22_18 : Cond.fieldLink RX7 44 "PaperBoys$Terms" "steps" "I" ∈ wsL_law := ch_22 _ (List.mem_of_getElem? (i := 18) rfl)
theorem m_26_9 : Cond.methodLink RX7 109 yX7_readMay ∈ wsL_law := ch_26 _ (List.mem_of_getElem? (i := 9) rfl)
theorem m_26_10 : Cond.instanceMethod yX7_readMay ∈ wsL_law := ch_26 _ (List.mem_of_getElem? (i := 10) rfl)
theorem m_26_11 : Cond.selects RX7 yX7_readMay yX7_readMay ∈ wsL_law := ch_26 _ (List.mem_of_getElem? (i := 11) rfl)
theorem m_26_12 : Cond.code yX7_readMay cX7_readMay 1 (some .int) ∈ wsL_law := ch_26 _ (List.mem_of_getElem? (i := 12) rfl)
theorem m_26_13 : Cond.methodLink RX7 112 yX7_readNumber ∈ wsL_law := ch_26 _ (List.mem_of_getElem? (i := 13) rfl)
theorem m_26_14 : Cond.instanceMethod yX7_readNumber ∈ wsL_law := ch_26 _ (List.mem_of_getElem? (i := 14) rfl)
theorem m_26_15 : Cond.selects RX7 yX7_readNumber yX7_readNumber ∈ wsL_law := ch_26 _ (List.mem_of_getElem? (i := 15) rfl)
theorem m_26_16 : Cond.code yX7_readNumber cX7_readNumber 2 (some .int) ∈ wsL_law := ch_26 _ (List.mem_of_getElem? (i := 16) rfl)
theorem m_26_17 : Cond.methodLink RX7 115 yX7_readCond ∈ wsL_law := ch_26 _ (List.mem_of_getElem? (i := 17) rfl)
theorem m_26_18 : Cond.instanceMethod yX7_readCond ∈ wsL_law := ch_26 _ (List.mem_of_getElem? (i := 18) rfl)
theorem m_26_19 : Cond.selects RX7 yX7_readCond yX7_readCond ∈ wsL_law := ch_26 _ (List.mem_of_getElem? (i := 19) rfl)
theorem m_26_20 : Cond.code yX7_readCond cX7_readCond 4 none ∈ wsL_law := ch_26 _ (List.mem_of_getElem? (i := 20) rfl)
theorem m_26_21 : Cond.methodLink RX7 126 yX7_readAll ∈ wsL_law := ch_26 _ (List.mem_of_getElem? (i := 21) rfl)
theorem m_26_22 : Cond.instanceMethod yX7_readAll ∈ wsL_law := ch_26 _ (List.mem_of_getElem? (i := 22) rfl)
theorem m_26_23 : Cond.selects RX7 yX7_readAll yX7_readAll ∈ wsL_law := ch_26 _ (List.mem_of_getElem? (i := 23) rfl)
theorem m_27_0 : Cond.methodLink RX7 129 yX10_addStep ∈ wsL_law := ch_27 _ (List.mem_of_getElem? (i := 0) rfl)
theorem m_27_1 : Cond.instanceMethod yX10_addStep ∈ wsL_law := ch_27 _ (List.mem_of_getElem? (i := 1) rfl)
theorem m_27_2 : Cond.selects RX10 yX10_addStep yX10_addStep ∈ wsL_law := ch_27 _ (List.mem_of_getElem? (i := 2) rfl)
theorem m_27_3 : Cond.code yX10_addStep cX10_addStep 4 none ∈ wsL_law := ch_27 _ (List.mem_of_getElem? (i := 3) rfl)
theorem m_27_4 : Cond.code yX7_readAll cX7_readAll 4 none ∈ wsL_law := ch_27 _ (List.mem_of_getElem? (i := 4) rfl)
theorem m_27_5 : Cond.methodLink RX7 132 yX7_readOne ∈ wsL_law := ch_27 _ (List.mem_of_getElem? (i := 5) rfl)
theorem m_27_6 : Cond.instanceMethod yX7_readOne ∈ wsL_law := ch_27 _ (List.mem_of_getElem? (i := 6) rfl)
theorem m_27_7 : Cond.selects RX7 yX7_readOne yX7_readOne ∈ wsL_law := ch_27 _ (List.mem_of_getElem? (i := 7) rfl)
theorem m_27_8 : Cond.code yX7_readOne cX7_readOne 5 none ∈ wsL_law := ch_27 _ (List.mem_of_getElem? (i := 8) rfl)
theorem m_27_9 : Cond.methodLink RX7 135 yX7_readFact ∈ wsL_law := ch_27 _ (List.mem_of_getElem? (i := 9) rfl)
theorem m_27_10 : Cond.instanceMethod yX7_readFact ∈ wsL_law := ch_27 _ (List.mem_of_getElem? (i := 10) rfl)
theorem m_27_11 : Cond.selects RX7 yX7_readFact yX7_readFact ∈ wsL_law := ch_27 _ (List.mem_of_getElem? (i := 11) rfl)
theorem m_27_12 : Cond.code yX7_readFact cX7_readFact 5 none ∈ wsL_law := ch_27 _ (List.mem_of_getElem? (i := 12) rfl)
theorem m_27_13 : Cond.methodLink RX7 119 yX7_expect ∈ wsL_law := ch_27 _ (List.mem_of_getElem? (i := 13) rfl)
theorem m_27_14 : Cond.instanceMethod yX7_expect ∈ wsL_law := ch_27 _ (List.mem_of_getElem? (i := 14) rfl)
theorem m_27_15 : Cond.selects RX7 yX7_expect yX7_expect ∈ wsL_law := ch_27 _ (List.mem_of_getElem? (i := 15) rfl)
theorem m_27_16 : Cond.code yX7_expect cX7_expect 2 none ∈ wsL_law := ch_27 _ (List.mem_of_getElem? (i := 16) rfl)
theorem m_27_17 : Cond.methodLink RX7 122 yX10_addLine ∈ wsL_law := ch_27 _ (List.mem_of_getElem? (i := 17) rfl)
theorem m_27_18 : Cond.instanceMethod yX10_addLine ∈ wsL_law := ch_27 _ (List.mem_of_getElem? (i := 18) rfl)
theorem m_27_19 : Cond.selects RX10 yX10_addLine yX10_addLine ∈ wsL_law := ch_27 _ (List.mem_of_getElem? (i := 19) rfl)
theorem m_27_20 : Cond.code yX10_addLine cX10_addLine 4 none ∈ wsL_law := ch_27 _ (List.mem_of_getElem? (i := 20) rfl)
theorem kd29_0 : (decode cX7_readAll 0 = .ok (.aload_n 0, 1)) ∧ (decode cX7_readAll 1 = .ok (.aload_n 1, 1)) ∧ (decode cX7_readAll 2 = .ok (.iload_n 2, 1)) ∧ (decode cX7_readAll 3 = .ok (.invokevirtual 132, 3)) ∧ (decode cX7_readAll 6 = .ok (.iconst 0, 1)) ∧ (decode cX7_readAll 7 = .ok (.istore_n 3, 1)) ∧ (decode cX7_readAll 8 = .ok (.iload_n 3, 1)) ∧ (decode cX7_readAll 9 = .ok (.bipush 50, 2)) ∧ (decode cX7_readAll 11 = .ok (.if_icmp .ge 49, 3)) ∧ (decode cX7_readAll 14 = .ok (.aload_n 0, 1)) ∧ (decode cX7_readAll 15 = .ok (.getfield 29, 3)) ∧ (decode cX7_readAll 18 = .ok (.ifCond .ne 42, 3)) := by decide +kernel
theorem kd29_1 : (decode cX7_readAll 21 = .ok (.aload_n 0, 1)) ∧ (decode cX7_readAll 22 = .ok (.invokevirtual 47, 3)) ∧ (decode cX7_readAll 25 = .ok (.bipush 8, 2)) ∧ (decode cX7_readAll 27 = .ok (.if_icmp .ne 33, 3)) ∧ (decode cX7_readAll 30 = .ok (.aload_n 0, 1)) ∧ (decode cX7_readAll 31 = .ok (.dup, 1)) ∧ (decode cX7_readAll 32 = .ok (.getfield 18, 3)) ∧ (decode cX7_readAll 35 = .ok (.iconst 1, 1)) ∧ (decode cX7_readAll 36 = .ok (.iadd, 1)) ∧ (decode cX7_readAll 37 = .ok (.putfield 18, 3)) ∧ (decode cX7_readAll 40 = .ok (.aload_n 0, 1)) ∧ (decode cX7_readAll 41 = .ok (.aload_n 1, 1)) := by decide +kernel
theorem kd29_2 : (decode cX7_readAll 42 = .ok (.iload_n 2, 1)) ∧ (decode cX7_readAll 43 = .ok (.invokevirtual 132, 3)) ∧ (decode cX7_readAll 46 = .ok (.aload_n 1, 1)) ∧ (decode cX7_readAll 47 = .ok (.bipush 13, 2)) ∧ (decode cX7_readAll 49 = .ok (.iconst 0, 1)) ∧ (decode cX7_readAll 50 = .ok (.iconst 0, 1)) ∧ (decode cX7_readAll 51 = .ok (.invokevirtual 129, 3)) ∧ (decode cX7_readAll 54 = .ok (.iinc 3 1, 3)) ∧ (decode cX7_readAll 57 = .ok (.goto (-49), 3)) ∧ (decode cX7_readAll 60 = .ok (.return_, 1)) ∧ (decode cX7_readCond 0 = .ok (.aload_n 0, 1)) ∧ (decode cX7_readCond 1 = .ok (.aload_n 1, 1)) := by decide +kernel
theorem kd29_3 : (decode cX7_readCond 2 = .ok (.iload_n 2, 1)) ∧ (decode cX7_readCond 3 = .ok (.invokevirtual 126, 3)) ∧ (decode cX7_readCond 6 = .ok (.iconst 0, 1)) ∧ (decode cX7_readCond 7 = .ok (.istore_n 3, 1)) ∧ (decode cX7_readCond 8 = .ok (.iload_n 3, 1)) ∧ (decode cX7_readCond 9 = .ok (.bipush 50, 2)) ∧ (decode cX7_readCond 11 = .ok (.if_icmp .ge 49, 3)) ∧ (decode cX7_readCond 14 = .ok (.aload_n 0, 1)) ∧ (decode cX7_readCond 15 = .ok (.getfield 29, 3)) ∧ (decode cX7_readCond 18 = .ok (.ifCond .ne 42, 3)) ∧ (decode cX7_readCond 21 = .ok (.aload_n 0, 1)) ∧ (decode cX7_readCond 22 = .ok (.invokevirtual 47, 3)) := by decide +kernel
theorem kd29_4 : (decode cX7_readCond 25 = .ok (.bipush 9, 2)) ∧ (decode cX7_readCond 27 = .ok (.if_icmp .ne 33, 3)) ∧ (decode cX7_readCond 30 = .ok (.aload_n 0, 1)) ∧ (decode cX7_readCond 31 = .ok (.dup, 1)) ∧ (decode cX7_readCond 32 = .ok (.getfield 18, 3)) ∧ (decode cX7_readCond 35 = .ok (.iconst 1, 1)) ∧ (decode cX7_readCond 36 = .ok (.iadd, 1)) ∧ (decode cX7_readCond 37 = .ok (.putfield 18, 3)) ∧ (decode cX7_readCond 40 = .ok (.aload_n 0, 1)) ∧ (decode cX7_readCond 41 = .ok (.aload_n 1, 1)) ∧ (decode cX7_readCond 42 = .ok (.iload_n 2, 1)) ∧ (decode cX7_readCond 43 = .ok (.invokevirtual 126, 3)) := by decide +kernel
theorem kd29_5 : (decode cX7_readCond 46 = .ok (.aload_n 1, 1)) ∧ (decode cX7_readCond 47 = .ok (.bipush 14, 2)) ∧ (decode cX7_readCond 49 = .ok (.iconst 0, 1)) ∧ (decode cX7_readCond 50 = .ok (.iconst 0, 1)) ∧ (decode cX7_readCond 51 = .ok (.invokevirtual 129, 3)) ∧ (decode cX7_readCond 54 = .ok (.iinc 3 1, 3)) ∧ (decode cX7_readCond 57 = .ok (.goto (-49), 3)) ∧ (decode cX7_readCond 60 = .ok (.return_, 1)) ∧ (decode cX7_readFact 0 = .ok (.iload_n 2, 1)) ∧ (decode cX7_readFact 1 = .ok (.iconst 3, 1)) ∧ (decode cX7_readFact 2 = .ok (.if_icmp .ge 11, 3)) ∧ (decode cX7_readFact 5 = .ok (.aload_n 1, 1)) := by decide +kernel
theorem kd29_6 : (decode cX7_readFact 6 = .ok (.iload_n 2, 1)) ∧ (decode cX7_readFact 7 = .ok (.iconst 2, 1)) ∧ (decode cX7_readFact 8 = .ok (.iconst 0, 1)) ∧ (decode cX7_readFact 9 = .ok (.invokevirtual 129, 3)) ∧ (decode cX7_readFact 12 = .ok (.return_, 1)) ∧ (decode cX7_readFact 13 = .ok (.aload_n 0, 1)) ∧ (decode cX7_readFact 14 = .ok (.invokevirtual 47, 3)) ∧ (decode cX7_readFact 17 = .ok (.istore_n 3, 1)) ∧ (decode cX7_readFact 18 = .ok (.iload_n 3, 1)) ∧ (decode cX7_readFact 19 = .ok (.bipush 27, 2)) ∧ (decode cX7_readFact 21 = .ok (.if_icmp .lt 9, 3)) ∧ (decode cX7_readFact 24 = .ok (.iload_n 3, 1)) := by decide +kernel
theorem kd29_7 : (decode cX7_readFact 25 = .ok (.bipush 29, 2)) ∧ (decode cX7_readFact 27 = .ok (.if_icmp .le 9, 3)) ∧ (decode cX7_readFact 30 = .ok (.aload_n 0, 1)) ∧ (decode cX7_readFact 31 = .ok (.iconst 1, 1)) ∧ (decode cX7_readFact 32 = .ok (.invokevirtual 60, 3)) ∧ (decode cX7_readFact 35 = .ok (.return_, 1)) ∧ (decode cX7_readFact 36 = .ok (.aload_n 0, 1)) ∧ (decode cX7_readFact 37 = .ok (.dup, 1)) ∧ (decode cX7_readFact 38 = .ok (.getfield 18, 3)) ∧ (decode cX7_readFact 41 = .ok (.iconst 1, 1)) ∧ (decode cX7_readFact 42 = .ok (.iadd, 1)) ∧ (decode cX7_readFact 43 = .ok (.putfield 18, 3)) := by decide +kernel
theorem kd29_8 : (decode cX7_readFact 46 = .ok (.aload_n 0, 1)) ∧ (decode cX7_readFact 47 = .ok (.invokevirtual 47, 3)) ∧ (decode cX7_readFact 50 = .ok (.bipush 100, 2)) ∧ (decode cX7_readFact 52 = .ok (.isub, 1)) ∧ (decode cX7_readFact 53 = .ok (.istore 4, 2)) ∧ (decode cX7_readFact 55 = .ok (.iload 4, 2)) ∧ (decode cX7_readFact 57 = .ok (.ifCond .ge 9, 3)) ∧ (decode cX7_readFact 60 = .ok (.aload_n 0, 1)) ∧ (decode cX7_readFact 61 = .ok (.iconst 1, 1)) ∧ (decode cX7_readFact 62 = .ok (.invokevirtual 60, 3)) ∧ (decode cX7_readFact 65 = .ok (.return_, 1)) ∧ (decode cX7_readFact 66 = .ok (.aload_n 0, 1)) := by decide +kernel
theorem kd29_9 : (decode cX7_readFact 67 = .ok (.dup, 1)) ∧ (decode cX7_readFact 68 = .ok (.getfield 18, 3)) ∧ (decode cX7_readFact 71 = .ok (.iconst 1, 1)) ∧ (decode cX7_readFact 72 = .ok (.iadd, 1)) ∧ (decode cX7_readFact 73 = .ok (.putfield 18, 3)) ∧ (decode cX7_readFact 76 = .ok (.aload_n 1, 1)) ∧ (decode cX7_readFact 77 = .ok (.iload_n 2, 1)) ∧ (decode cX7_readFact 78 = .ok (.iload_n 3, 1)) ∧ (decode cX7_readFact 79 = .ok (.bipush 27, 2)) ∧ (decode cX7_readFact 81 = .ok (.isub, 1)) ∧ (decode cX7_readFact 82 = .ok (.iload 4, 2)) ∧ (decode cX7_readFact 84 = .ok (.invokevirtual 129, 3)) := by decide +kernel
theorem kd29_10 : (decode cX7_readFact 87 = .ok (.return_, 1)) ∧ (decode cX7_readLine 0 = .ok (.aload_n 0, 1)) ∧ (decode cX7_readLine 1 = .ok (.invokevirtual 47, 3)) ∧ (decode cX7_readLine 4 = .ok (.istore_n 2, 1)) ∧ (decode cX7_readLine 5 = .ok (.iload_n 2, 1)) ∧ (decode cX7_readLine 6 = .ok (.bipush 6, 2)) ∧ (decode cX7_readLine 8 = .ok (.if_icmp .lt 11, 3)) ∧ (decode cX7_readLine 11 = .ok (.aload_n 0, 1)) ∧ (decode cX7_readLine 12 = .ok (.iconst 1, 1)) ∧ (decode cX7_readLine 13 = .ok (.invokevirtual 60, 3)) ∧ (decode cX7_readLine 16 = .ok (.goto 144, 3)) ∧ (decode cX7_readLine 19 = .ok (.aload_n 1, 1)) := by decide +kernel
theorem kd29_11 : (decode cX7_readLine 20 = .ok (.getfield 39, 3)) ∧ (decode cX7_readLine 23 = .ok (.bipush 16, 2)) ∧ (decode cX7_readLine 25 = .ok (.if_icmp .ge 15, 3)) ∧ (decode cX7_readLine 28 = .ok (.iload_n 2, 1)) ∧ (decode cX7_readLine 29 = .ok (.iconst 5, 1)) ∧ (decode cX7_readLine 30 = .ok (.if_icmp .ne 18, 3)) ∧ (decode cX7_readLine 33 = .ok (.aload_n 0, 1)) ∧ (decode cX7_readLine 34 = .ok (.getfield 25, 3)) ∧ (decode cX7_readLine 37 = .ok (.ifCond .eq 11, 3)) ∧ (decode cX7_readLine 40 = .ok (.aload_n 0, 1)) ∧ (decode cX7_readLine 41 = .ok (.iconst 3, 1)) ∧ (decode cX7_readLine 42 = .ok (.invokevirtual 60, 3)) := by decide +kernel
theorem kd29_12 : (decode cX7_readLine 45 = .ok (.goto 115, 3)) ∧ (decode cX7_readLine 48 = .ok (.aload_n 0, 1)) ∧ (decode cX7_readLine 49 = .ok (.dup, 1)) ∧ (decode cX7_readLine 50 = .ok (.getfield 18, 3)) ∧ (decode cX7_readLine 53 = .ok (.iconst 1, 1)) ∧ (decode cX7_readLine 54 = .ok (.iadd, 1)) ∧ (decode cX7_readLine 55 = .ok (.putfield 18, 3)) ∧ (decode cX7_readLine 58 = .ok (.iload_n 2, 1)) ∧ (decode cX7_readLine 59 = .ok (.iconst 4, 1)) ∧ (decode cX7_readLine 60 = .ok (.if_icmp .ne 10, 3)) ∧ (decode cX7_readLine 63 = .ok (.aload_n 0, 1)) ∧ (decode cX7_readLine 64 = .ok (.invokevirtual 109, 3)) := by decide +kernel
theorem kd29_13 : (decode cX7_readLine 67 = .ok (.goto 7, 3)) ∧ (decode cX7_readLine 70 = .ok (.aload_n 0, 1)) ∧ (decode cX7_readLine 71 = .ok (.invokevirtual 112, 3)) ∧ (decode cX7_readLine 74 = .ok (.istore_n 3, 1)) ∧ (decode cX7_readLine 75 = .ok (.aload_n 1, 1)) ∧ (decode cX7_readLine 76 = .ok (.getfield 44, 3)) ∧ (decode cX7_readLine 79 = .ok (.istore 4, 2)) ∧ (decode cX7_readLine 81 = .ok (.aload_n 0, 1)) ∧ (decode cX7_readLine 82 = .ok (.getfield 29, 3)) ∧ (decode cX7_readLine 85 = .ok (.ifCond .ne 33, 3)) ∧ (decode cX7_readLine 88 = .ok (.iload_n 2, 1)) ∧ (decode cX7_readLine 89 = .ok (.iconst 5, 1)) := by decide +kernel
theorem kd29_14 : (decode cX7_readLine 90 = .ok (.if_icmp .eq 28, 3)) ∧ (decode cX7_readLine 93 = .ok (.aload_n 0, 1)) ∧ (decode cX7_readLine 94 = .ok (.invokevirtual 47, 3)) ∧ (decode cX7_readLine 97 = .ok (.bipush 6, 2)) ∧ (decode cX7_readLine 99 = .ok (.if_icmp .ne 19, 3)) ∧ (decode cX7_readLine 102 = .ok (.aload_n 0, 1)) ∧ (decode cX7_readLine 103 = .ok (.dup, 1)) ∧ (decode cX7_readLine 104 = .ok (.getfield 18, 3)) ∧ (decode cX7_readLine 107 = .ok (.iconst 1, 1)) ∧ (decode cX7_readLine 108 = .ok (.iadd, 1)) ∧ (decode cX7_readLine 109 = .ok (.putfield 18, 3)) ∧ (decode cX7_readLine 112 = .ok (.aload_n 0, 1)) := by decide +kernel
theorem kd29_15 : (decode cX7_readLine 113 = .ok (.aload_n 1, 1)) ∧ (decode cX7_readLine 114 = .ok (.iconst 1, 1)) ∧ (decode cX7_readLine 115 = .ok (.invokevirtual 115, 3)) ∧ (decode cX7_readLine 118 = .ok (.aload_n 0, 1)) ∧ (decode cX7_readLine 119 = .ok (.getfield 29, 3)) ∧ (decode cX7_readLine 122 = .ok (.ifCond .ne 38, 3)) ∧ (decode cX7_readLine 125 = .ok (.aload_n 0, 1)) ∧ (decode cX7_readLine 126 = .ok (.bipush 24, 2)) ∧ (decode cX7_readLine 128 = .ok (.invokevirtual 119, 3)) ∧ (decode cX7_readLine 131 = .ok (.aload_n 0, 1)) ∧ (decode cX7_readLine 132 = .ok (.aload_n 0, 1)) ∧ (decode cX7_readLine 133 = .ok (.getfield 25, 3)) := by decide +kernel
theorem kd29_16 : (decode cX7_readLine 136 = .ok (.ifCond .ne 8, 3)) ∧ (decode cX7_readLine 139 = .ok (.iload_n 2, 1)) ∧ (decode cX7_readLine 140 = .ok (.iconst 5, 1)) ∧ (decode cX7_readLine 141 = .ok (.if_icmp .ne 7, 3)) ∧ (decode cX7_readLine 144 = .ok (.iconst 1, 1)) ∧ (decode cX7_readLine 145 = .ok (.goto 4, 3)) ∧ (decode cX7_readLine 148 = .ok (.iconst 0, 1)) ∧ (decode cX7_readLine 149 = .ok (.putfield 25, 3)) ∧ (decode cX7_readLine 152 = .ok (.aload_n 1, 1)) ∧ (decode cX7_readLine 153 = .ok (.iload_n 2, 1)) ∧ (decode cX7_readLine 154 = .ok (.iload_n 3, 1)) ∧ (decode cX7_readLine 155 = .ok (.iload 4, 2)) := by decide +kernel
theorem kd29_17 : (decode cX7_readLine 157 = .ok (.invokevirtual 122, 3)) ∧ (decode cX7_readLine 160 = .ok (.return_, 1)) ∧ (decode cX7_readMay 0 = .ok (.aload_n 0, 1)) ∧ (decode cX7_readMay 1 = .ok (.invokevirtual 47, 3)) ∧ (decode cX7_readMay 4 = .ok (.bipush 7, 2)) ∧ (decode cX7_readMay 6 = .ok (.if_icmp .ne 15, 3)) ∧ (decode cX7_readMay 9 = .ok (.aload_n 0, 1)) ∧ (decode cX7_readMay 10 = .ok (.dup, 1)) ∧ (decode cX7_readMay 11 = .ok (.getfield 18, 3)) ∧ (decode cX7_readMay 14 = .ok (.iconst 1, 1)) ∧ (decode cX7_readMay 15 = .ok (.iadd, 1)) ∧ (decode cX7_readMay 16 = .ok (.putfield 18, 3)) := by decide +kernel
theorem kd29_18 : (decode cX7_readMay 19 = .ok (.iconst 0, 1)) ∧ (decode cX7_readMay 20 = .ok (.ireturn, 1)) ∧ (decode cX7_readMay 21 = .ok (.iconst 1, 1)) ∧ (decode cX7_readMay 22 = .ok (.ireturn, 1)) ∧ (decode cX7_readNumber 0 = .ok (.aload_n 0, 1)) ∧ (decode cX7_readNumber 1 = .ok (.invokevirtual 47, 3)) ∧ (decode cX7_readNumber 4 = .ok (.bipush 100, 2)) ∧ (decode cX7_readNumber 6 = .ok (.isub, 1)) ∧ (decode cX7_readNumber 7 = .ok (.istore_n 1, 1)) ∧ (decode cX7_readNumber 8 = .ok (.iload_n 1, 1)) ∧ (decode cX7_readNumber 9 = .ok (.ifCond .ge 11, 3)) ∧ (decode cX7_readNumber 12 = .ok (.aload_n 0, 1)) := by decide +kernel
theorem kd29_19 : (decode cX7_readNumber 13 = .ok (.iconst 1, 1)) ∧ (decode cX7_readNumber 14 = .ok (.invokevirtual 60, 3)) ∧ (decode cX7_readNumber 17 = .ok (.goto 28, 3)) ∧ (decode cX7_readNumber 20 = .ok (.iload_n 1, 1)) ∧ (decode cX7_readNumber 21 = .ok (.sipush 1000, 3)) ∧ (decode cX7_readNumber 24 = .ok (.if_icmp .le 11, 3)) ∧ (decode cX7_readNumber 27 = .ok (.aload_n 0, 1)) ∧ (decode cX7_readNumber 28 = .ok (.iconst 2, 1)) ∧ (decode cX7_readNumber 29 = .ok (.invokevirtual 60, 3)) ∧ (decode cX7_readNumber 32 = .ok (.goto 13, 3)) ∧ (decode cX7_readNumber 35 = .ok (.aload_n 0, 1)) ∧ (decode cX7_readNumber 36 = .ok (.dup, 1)) := by decide +kernel
theorem kd29_20 : (decode cX7_readNumber 37 = .ok (.getfield 18, 3)) ∧ (decode cX7_readNumber 40 = .ok (.iconst 1, 1)) ∧ (decode cX7_readNumber 41 = .ok (.iadd, 1)) ∧ (decode cX7_readNumber 42 = .ok (.putfield 18, 3)) ∧ (decode cX7_readNumber 45 = .ok (.iload_n 1, 1)) ∧ (decode cX7_readNumber 46 = .ok (.ireturn, 1)) ∧ (decode cX7_readOne 0 = .ok (.aload_n 0, 1)) ∧ (decode cX7_readOne 1 = .ok (.invokevirtual 47, 3)) ∧ (decode cX7_readOne 4 = .ok (.istore_n 3, 1)) ∧ (decode cX7_readOne 5 = .ok (.iload_n 3, 1)) ∧ (decode cX7_readOne 6 = .ok (.bipush 10, 2)) ∧ (decode cX7_readOne 8 = .ok (.if_icmp .lt 13, 3)) := by decide +kernel
theorem kd29_21 : (decode cX7_readOne 11 = .ok (.iload_n 3, 1)) ∧ (decode cX7_readOne 12 = .ok (.bipush 22, 2)) ∧ (decode cX7_readOne 14 = .ok (.if_icmp .ge 7, 3)) ∧ (decode cX7_readOne 17 = .ok (.iconst 1, 1)) ∧ (decode cX7_readOne 18 = .ok (.goto 4, 3)) ∧ (decode cX7_readOne 21 = .ok (.iconst 0, 1)) ∧ (decode cX7_readOne 22 = .ok (.istore 4, 2)) ∧ (decode cX7_readOne 24 = .ok (.iload 4, 2)) ∧ (decode cX7_readOne 26 = .ok (.ifCond .ne 23, 3)) ∧ (decode cX7_readOne 29 = .ok (.iload_n 3, 1)) ∧ (decode cX7_readOne 30 = .ok (.bipush 7, 2)) ∧ (decode cX7_readOne 32 = .ok (.if_icmp .eq 17, 3)) := by decide +kernel
theorem kd29_22 : (decode cX7_readOne 35 = .ok (.iload_n 3, 1)) ∧ (decode cX7_readOne 36 = .ok (.bipush 25, 2)) ∧ (decode cX7_readOne 38 = .ok (.if_icmp .eq 11, 3)) ∧ (decode cX7_readOne 41 = .ok (.aload_n 0, 1)) ∧ (decode cX7_readOne 42 = .ok (.iconst 1, 1)) ∧ (decode cX7_readOne 43 = .ok (.invokevirtual 60, 3)) ∧ (decode cX7_readOne 46 = .ok (.goto 102, 3)) ∧ (decode cX7_readOne 49 = .ok (.aload_n 0, 1)) ∧ (decode cX7_readOne 50 = .ok (.getfield 22, 3)) ∧ (decode cX7_readOne 53 = .ok (.bipush 50, 2)) ∧ (decode cX7_readOne 55 = .ok (.if_icmp .ge 9, 3)) ∧ (decode cX7_readOne 58 = .ok (.iload_n 2, 1)) := by decide +kernel
theorem kd29_23 : (decode cX7_readOne 59 = .ok (.bipush 10, 2)) ∧ (decode cX7_readOne 61 = .ok (.if_icmp .le 11, 3)) ∧ (decode cX7_readOne 64 = .ok (.aload_n 0, 1)) ∧ (decode cX7_readOne 65 = .ok (.iconst 4, 1)) ∧ (decode cX7_readOne 66 = .ok (.invokevirtual 60, 3)) ∧ (decode cX7_readOne 69 = .ok (.goto 79, 3)) ∧ (decode cX7_readOne 72 = .ok (.aload_n 0, 1)) ∧ (decode cX7_readOne 73 = .ok (.dup, 1)) ∧ (decode cX7_readOne 74 = .ok (.getfield 22, 3)) ∧ (decode cX7_readOne 77 = .ok (.iconst 1, 1)) ∧ (decode cX7_readOne 78 = .ok (.iadd, 1)) ∧ (decode cX7_readOne 79 = .ok (.putfield 22, 3)) := by decide +kernel
theorem kd29_24 : (decode cX7_readOne 82 = .ok (.aload_n 0, 1)) ∧ (decode cX7_readOne 83 = .ok (.dup, 1)) ∧ (decode cX7_readOne 84 = .ok (.getfield 18, 3)) ∧ (decode cX7_readOne 87 = .ok (.iconst 1, 1)) ∧ (decode cX7_readOne 88 = .ok (.iadd, 1)) ∧ (decode cX7_readOne 89 = .ok (.putfield 18, 3)) ∧ (decode cX7_readOne 92 = .ok (.iload 4, 2)) ∧ (decode cX7_readOne 94 = .ok (.ifCond .eq 15, 3)) ∧ (decode cX7_readOne 97 = .ok (.aload_n 0, 1)) ∧ (decode cX7_readOne 98 = .ok (.aload_n 1, 1)) ∧ (decode cX7_readOne 99 = .ok (.iload_n 3, 1)) ∧ (decode cX7_readOne 100 = .ok (.bipush 10, 2)) := by decide +kernel
theorem kd29_25 : (decode cX7_readOne 102 = .ok (.isub, 1)) ∧ (decode cX7_readOne 103 = .ok (.invokevirtual 135, 3)) ∧ (decode cX7_readOne 106 = .ok (.goto 42, 3)) ∧ (decode cX7_readOne 109 = .ok (.iload_n 3, 1)) ∧ (decode cX7_readOne 110 = .ok (.bipush 25, 2)) ∧ (decode cX7_readOne 112 = .ok (.if_icmp .ne 20, 3)) ∧ (decode cX7_readOne 115 = .ok (.aload_n 0, 1)) ∧ (decode cX7_readOne 116 = .ok (.aload_n 1, 1)) ∧ (decode cX7_readOne 117 = .ok (.iload_n 2, 1)) ∧ (decode cX7_readOne 118 = .ok (.iconst 1, 1)) ∧ (decode cX7_readOne 119 = .ok (.iadd, 1)) ∧ (decode cX7_readOne 120 = .ok (.invokevirtual 115, 3)) := by decide +kernel
theorem kd29_26 : (decode cX7_readOne 123 = .ok (.aload_n 0, 1)) ∧ (decode cX7_readOne 124 = .ok (.bipush 26, 2)) ∧ (decode cX7_readOne 126 = .ok (.invokevirtual 119, 3)) ∧ (decode cX7_readOne 129 = .ok (.goto 19, 3)) ∧ (decode cX7_readOne 132 = .ok (.aload_n 0, 1)) ∧ (decode cX7_readOne 133 = .ok (.aload_n 1, 1)) ∧ (decode cX7_readOne 134 = .ok (.iload_n 2, 1)) ∧ (decode cX7_readOne 135 = .ok (.iconst 1, 1)) ∧ (decode cX7_readOne 136 = .ok (.iadd, 1)) ∧ (decode cX7_readOne 137 = .ok (.invokevirtual 132, 3)) ∧ (decode cX7_readOne 140 = .ok (.aload_n 1, 1)) ∧ (decode cX7_readOne 141 = .ok (.bipush 12, 2)) := by decide +kernel
theorem kd29_27 : (decode cX7_readOne 143 = .ok (.iconst 0, 1)) ∧ (decode cX7_readOne 144 = .ok (.iconst 0, 1)) ∧ (decode cX7_readOne 145 = .ok (.invokevirtual 129, 3)) ∧ (decode cX7_readOne 148 = .ok (.return_, 1)) := by decide +kernel
theorem fl_X7_22_8 : xF RX7 22 8 3 .int false := ⟨by decide, RX7, TX7, 7, tyX7, "PaperBoys$Reader", rfl, inlX7, tyX7_ok, nmX7, by decide, rfl, rfl, m_6_12, Or.inl rfl⟩
theorem fl_X7_25_8 : xF RX7 25 8 4 .boolean false := ⟨by decide, RX7, TX7, 7, tyX7, "PaperBoys$Reader", rfl, inlX7, tyX7_ok, nmX7, by decide, rfl, rfl, m_6_13, Or.inl rfl⟩
theorem fl_X7_39_11 : xF RX7 39 11 1 .int false := ⟨by decide, RX10, TX10, 8, tyX10, "PaperBoys$Terms", rfl, inlX10, tyX10_ok, nmX10, by decide, rfl, rfl, m_22_17, Or.inl rfl⟩
theorem fl_X7_44_11 : xF RX7 44 11 2 .int false := ⟨by decide, RX10, TX10, 8, tyX10, "PaperBoys$Terms", rfl, inlX10, tyX10_ok, nmX10, by decide, rfl, rfl, m_22_18, Or.inl rfl⟩
theorem lk_X7_109 : xLV RX7 109 yX7_readMay cX7_readMay 1 (some .int) 0 := ⟨m_26_9, m_26_10, m_26_11, m_2_13, m_26_12, by decide +kernel⟩
theorem lk_X7_112 : xLV RX7 112 yX7_readNumber cX7_readNumber 2 (some .int) 0 := ⟨m_26_13, m_26_14, m_26_15, m_2_13, m_26_16, by decide +kernel⟩
theorem lk_X7_115 : xLV RX7 115 yX7_readCond cX7_readCond 4 none 2 := ⟨m_26_17, m_26_18, m_26_19, m_2_13, m_26_20, by decide +kernel⟩
theorem lk_X7_119 : xLV RX7 119 yX7_expect cX7_expect 2 none 1 := ⟨m_27_13, m_27_14, m_27_15, m_2_13, m_27_16, by decide +kernel⟩
theorem lk_X7_122 : xLV RX7 122 yX10_addLine cX10_addLine 4 none 3 := ⟨m_27_17, m_27_18, m_27_19, m_2_9, m_27_20, by decide +kernel⟩
theorem lk_X7_126 : xLV RX7 126 yX7_readAll cX7_readAll 4 none 2 := ⟨m_26_21, m_26_22, m_26_23, m_2_13, m_27_4, by decide +kernel⟩
theorem lk_X7_129 : xLV RX7 129 yX10_addStep cX10_addStep 4 none 3 := ⟨m_27_0, m_27_1, m_27_2, m_2_9, m_27_3, by decide +kernel⟩
theorem lk_X7_132 : xLV RX7 132 yX7_readOne cX7_readOne 5 none 2 := ⟨m_27_5, m_27_6, m_27_7, m_2_13, m_27_8, by decide +kernel⟩
theorem lk_X7_135 : xLV RX7 135 yX7_readFact cX7_readFact 5 none 2 := ⟨m_27_9, m_27_10, m_27_11, m_2_13, m_27_12, by decide +kernel⟩
set_option maxHeartbeats 4000000 in
set_option maxRecDepth 100000 in
theorem c_X7_readMay (l : Launch) (D : va_G) (kA : Nat → ClassId) (b0 : Nat) (t0 : Nat → Nat) (S : xT) (g : xG) (a0 : Nat) (hs_a0 : S a0 = some (8, 0)) : xMt l yX7_readMay cX7_readMay 1 (some .int) 1 0 0 20 D kA b0 t0 [(8, 2)] [.ref a0] S g (fun (r : Option Value) (S1 : xT) (g1 : xG) => S = S1 ∧ ∃ z : Int, r = some (.int (iI z)) ∧ 0 ≤ z ∧ z ≤ 1) := by
  refine xEnterI (by decide) (by simp [lg_sl, Value.category]) [(0, .ref a0)] rfl ?_
  intro K E hK hret _ _ _
  refine X_aloadn hK (i := 0) 0 kd29_17.2.2.1 rfl rfl ?_
  refine X_know hs_a0 (by decide) sl_8_2 (fun z1 ez1 lz1 uz1 => ?_)
  refine X_callV hK [] [] lk_X7_47 (c_X7_now _ _ _ _ _ S g a0 z1 hs_a0 (by omega) ez1) hs_a0 ⟨by decide, rfl⟩ kd29_17.2.2.2.1 rfl rfl (by simp [Value.category]) (by decide) (by decide) (by decide) (by decide) (fun r2 S4 g3 pr2 qr2 hg3 => ?_)
  obtain ⟨rfl, rfl, z5, rfl, lz5, uz5, k6⟩ := pr2
  refine X_st [.int (iI z5)] rfl ?_
  refine X_bipush hK kd29_17.2.2.2.2.1 (by decide) ?_
  refine X_icmp_ne hK 21 (by omega) (by omega) kd29_17.2.2.2.2.2.1 (by decide) (fun c7 => ?_) (fun c7 => ?_)
  · refine X_iconst hK kd29_18.2.2.1 ?_
    exact hret _ _ _ _ _ _ _ kd29_18.2.2.2.1 ⟨rfl, 1, rfl, (by omega), (by omega)⟩ (Nat.le_refl _) (Nat.le_refl _)
  · refine X_aloadn hK (i := 0) 0 kd29_17.2.2.2.2.2.2.1 rfl rfl ?_
    refine X_dup hK kd29_17.2.2.2.2.2.2.2.1 rfl ?_
    refine X_getK hK fl_X7_18_8 hs_a0 ez1 kd29_17.2.2.2.2.2.2.2.2.1 ?_
    refine X_iconst hK kd29_17.2.2.2.2.2.2.2.2.2.1 ?_
    refine X_iadd hK kd29_17.2.2.2.2.2.2.2.2.2.2.1 ?_
    refine X_puti hK fl_X7_18_8 hs_a0 (by decide) sl_8_2 (by omega) (by omega) kd29_17.2.2.2.2.2.2.2.2.2.2.2 (fun g8 hg8 => ?_)
    refine X_iconst hK kd29_18.1 ?_
    exact hret _ _ _ _ _ _ _ kd29_18.2.1 ⟨rfl, 0, rfl, (by omega), (by omega)⟩ (Nat.le_refl _) (Nat.le_refl _)

set_option maxHeartbeats 4000000 in
set_option maxRecDepth 100000 in
theorem c_X7_readNumber (l : Launch) (D : va_G) (kA : Nat → ClassId) (b0 : Nat) (t0 : Nat → Nat) (S : xT) (g : xG) (a0 : Nat) (hs_a0 : S a0 = some (8, 0)) : xMt l yX7_readNumber cX7_readNumber 2 (some .int) 1 0 0 21 D kA b0 t0 [(8, 2), (8, 5), (8, 6)] [.ref a0] S g (fun (r : Option Value) (S1 : xT) (g1 : xG) => S = S1 ∧ ∃ z : Int, r = some (.int (iI z)) ∧ (-100) ≤ z ∧ z ≤ 9999) := by
  refine xEnterI (by decide) (by simp [lg_sl, Value.category]) [(0, .ref a0)] rfl ?_
  intro K E hK hret _ _ _
  refine X_aloadn hK (i := 0) 0 kd29_18.2.2.2.2.1 rfl rfl ?_
  refine X_know hs_a0 (by decide) sl_8_2 (fun z1 ez1 lz1 uz1 => ?_)
  refine X_callV hK [] [] lk_X7_47 (c_X7_now _ _ _ _ _ S g a0 z1 hs_a0 (by omega) ez1) hs_a0 ⟨by decide, rfl⟩ kd29_18.2.2.2.2.2.1 rfl rfl (by simp [Value.category]) (by decide) (by decide) (by decide) (by decide) (fun r2 S4 g3 pr2 qr2 hg3 => ?_)
  obtain ⟨rfl, rfl, z5, rfl, lz5, uz5, k6⟩ := pr2
  refine X_st [.int (iI z5)] rfl ?_
  refine X_bipush hK kd29_18.2.2.2.2.2.2.1 (by decide) ?_
  refine X_isub hK kd29_18.2.2.2.2.2.2.2.1 ?_
  refine X_istoren hK (i := 1) [(1, .int (iI (z5 - 100))), (0, .ref a0)] kd29_18.2.2.2.2.2.2.2.2.1 rfl (by decide) rfl ?_
  refine X_iloadn hK (i := 1) 0 kd29_18.2.2.2.2.2.2.2.2.2.1 rfl rfl ?_
  refine X_if_ge hK 20 (by omega) kd29_18.2.2.2.2.2.2.2.2.2.2.1 (by decide) (fun c7 => ?_) (fun c7 => ?_)
  · refine X_iloadn hK (i := 1) 0 kd29_19.2.2.2.1 rfl rfl ?_
    refine X_sipush hK kd29_19.2.2.2.2.1 (by decide) ?_
    refine X_icmp_le hK 35 (by omega) (by omega) kd29_19.2.2.2.2.2.1 (by decide) (fun c8 => ?_) (fun c8 => ?_)
    · refine X_aloadn hK (i := 0) 1 kd29_19.2.2.2.2.2.2.2.2.2.2.1 rfl rfl ?_
      refine X_dup hK kd29_19.2.2.2.2.2.2.2.2.2.2.2 rfl ?_
      refine X_getK hK fl_X7_18_8 hs_a0 ez1 kd29_20.1 ?_
      refine X_iconst hK kd29_20.2.1 ?_
      refine X_iadd hK kd29_20.2.2.1 ?_
      refine X_puti hK fl_X7_18_8 hs_a0 (by decide) sl_8_2 (by omega) (by omega) kd29_20.2.2.2.1 (fun g9 hg9 => ?_)
      refine X_iloadn hK (i := 1) 0 kd29_20.2.2.2.2.1 rfl rfl ?_
      exact hret _ _ _ _ _ _ _ kd29_20.2.2.2.2.2.1 ⟨rfl, (z5 - 100), rfl, (by omega), (by omega)⟩ (Nat.le_refl _) (Nat.le_refl _)
    · refine X_aloadn hK (i := 0) 1 kd29_19.2.2.2.2.2.2.1 rfl rfl ?_
      refine X_iconst hK kd29_19.2.2.2.2.2.2.2.1 ?_
      refine X_callV hK [.int (iI 2)] [] lk_X7_60 (c_X7_tell _ _ _ _ _ S g a0 2 hs_a0 (by omega)) hs_a0 ⟨by decide, rfl⟩ kd29_19.2.2.2.2.2.2.2.2.1 rfl rfl (by simp [Value.category]) (by decide) (by decide) (by decide) (by decide) (fun r10 S12 g11 pr10 qr10 hg11 => ?_)
      obtain ⟨rfl, rfl⟩ := pr10
      refine X_st [] rfl ?_
      refine X_goto hK 45 kd29_19.2.2.2.2.2.2.2.2.2.1 (by decide) ?_
      refine X_iloadn hK (i := 1) 0 kd29_20.2.2.2.2.1 rfl rfl ?_
      exact hret _ _ _ _ _ _ _ kd29_20.2.2.2.2.2.1 ⟨rfl, (z5 - 100), rfl, (by omega), (by omega)⟩ (Nat.le_refl _) (Nat.le_refl _)
  · refine X_aloadn hK (i := 0) 1 kd29_18.2.2.2.2.2.2.2.2.2.2.2 rfl rfl ?_
    refine X_iconst hK kd29_19.1 ?_
    refine X_callV hK [.int (iI 1)] [] lk_X7_60 (c_X7_tell _ _ _ _ _ S g a0 1 hs_a0 (by omega)) hs_a0 ⟨by decide, rfl⟩ kd29_19.2.1 rfl rfl (by simp [Value.category]) (by decide) (by decide) (by decide) (by decide) (fun r13 S15 g14 pr13 qr13 hg14 => ?_)
    obtain ⟨rfl, rfl⟩ := pr13
    refine X_st [] rfl ?_
    refine X_goto hK 45 kd29_19.2.2.1 (by decide) ?_
    refine X_iloadn hK (i := 1) 0 kd29_20.2.2.2.2.1 rfl rfl ?_
    exact hret _ _ _ _ _ _ _ kd29_20.2.2.2.2.2.1 ⟨rfl, (z5 - 100), rfl, (by omega), (by omega)⟩ (Nat.le_refl _) (Nat.le_refl _)

set_option maxHeartbeats 4000000 in
set_option maxRecDepth 100000 in
theorem c_X7_readFact (l : Launch) (D : va_G) (kA : Nat → ClassId) (b0 : Nat) (t0 : Nat → Nat) (S : xT) (g : xG) (a0 : Nat) (a1 : Nat) (x2 : Int) (hs_a0 : S a0 = some (8, 0)) (hs_a1 : S a1 = some (11, 0)) (hx2 : 0 ≤ x2 ∧ x2 ≤ 11) : xMt l yX7_readFact cX7_readFact 5 none 1 0 0 23 D kA b0 t0 [(8, 5), (8, 6), (8, 2), (14000, 0), (11, 2)] [.ref a0, .ref a1, .int (iI x2)] S g (fun (r : Option Value) (S1 : xT) (g1 : xG) => S = S1 ∧ r = none) := by
  refine xEnterV (by decide) (by simp [lg_sl, Value.category]) [(0, .ref a0), (1, .ref a1), (2, .int (iI x2))] rfl ?_
  intro K E hK hret _ _ _
  refine X_iloadn hK (i := 2) 2 kd29_5.2.2.2.2.2.2.2.2.1 rfl rfl ?_
  refine X_iconst hK kd29_5.2.2.2.2.2.2.2.2.2.1 ?_
  refine X_icmp_ge hK 13 (by omega) (by omega) kd29_5.2.2.2.2.2.2.2.2.2.2.1 (by decide) (fun c1 => ?_) (fun c1 => ?_)
  · refine X_aloadn hK (i := 0) 0 kd29_6.2.2.2.2.2.1 rfl rfl ?_
    refine X_know hs_a0 (by decide) sl_8_2 (fun z2 ez2 lz2 uz2 => ?_)
    refine X_callV hK [] [] lk_X7_47 (c_X7_now _ _ _ _ _ S g a0 z2 hs_a0 (by omega) ez2) hs_a0 ⟨by decide, rfl⟩ kd29_6.2.2.2.2.2.2.1 rfl rfl (by simp [Value.category]) (by decide) (by decide) (by decide) (by decide) (fun r3 S5 g4 pr3 qr3 hg4 => ?_)
    obtain ⟨rfl, rfl, z6, rfl, lz6, uz6, k7⟩ := pr3
    refine X_st [.int (iI z6)] rfl ?_
    refine X_istoren hK (i := 3) [(3, .int (iI z6)), (0, .ref a0), (1, .ref a1), (2, .int (iI x2))] kd29_6.2.2.2.2.2.2.2.1 rfl (by decide) rfl ?_
    refine X_iloadn hK (i := 3) 0 kd29_6.2.2.2.2.2.2.2.2.1 rfl rfl ?_
    refine X_bipush hK kd29_6.2.2.2.2.2.2.2.2.2.1 (by decide) ?_
    refine X_icmp_lt hK 30 (by omega) (by omega) kd29_6.2.2.2.2.2.2.2.2.2.2.1 (by decide) (fun c8 => ?_) (fun c8 => ?_)
    · refine X_aloadn hK (i := 0) 1 kd29_7.2.2.1 rfl rfl ?_
      refine X_iconst hK kd29_7.2.2.2.1 ?_
      refine X_callV hK [.int (iI 1)] [] lk_X7_60 (c_X7_tell _ _ _ _ _ S g a0 1 hs_a0 (by omega)) hs_a0 ⟨by decide, rfl⟩ kd29_7.2.2.2.2.1 rfl rfl (by simp [Value.category]) (by decide) (by decide) (by decide) (by decide) (fun r9 S11 g10 pr9 qr9 hg10 => ?_)
      obtain ⟨rfl, rfl⟩ := pr9
      refine X_st [] rfl ?_
      exact hret _ _ _ _ _ _ kd29_7.2.2.2.2.2.1 ⟨rfl, rfl⟩ (Nat.le_refl _) (Nat.le_refl _)
    · refine X_iloadn hK (i := 3) 0 kd29_6.2.2.2.2.2.2.2.2.2.2.2 rfl rfl ?_
      refine X_bipush hK kd29_7.1 (by decide) ?_
      refine X_icmp_le hK 36 (by omega) (by omega) kd29_7.2.1 (by decide) (fun c12 => ?_) (fun c12 => ?_)
      · refine X_aloadn hK (i := 0) 1 kd29_7.2.2.2.2.2.2.1 rfl rfl ?_
        refine X_dup hK kd29_7.2.2.2.2.2.2.2.1 rfl ?_
        refine X_getK hK fl_X7_18_8 hs_a0 ez2 kd29_7.2.2.2.2.2.2.2.2.1 ?_
        refine X_iconst hK kd29_7.2.2.2.2.2.2.2.2.2.1 ?_
        refine X_iadd hK kd29_7.2.2.2.2.2.2.2.2.2.2.1 ?_
        refine X_puti hK fl_X7_18_8 hs_a0 (by decide) sl_8_2 (by omega) (by omega) kd29_7.2.2.2.2.2.2.2.2.2.2.2 (fun g13 hg13 => ?_)
        refine X_aloadn hK (i := 0) 1 kd29_8.1 rfl rfl ?_
        refine X_callV hK [] [] lk_X7_47 (c_X7_now _ _ _ _ _ S g13 a0 (z2 + 1) hs_a0 (by omega) (xs_s hg13)) hs_a0 ⟨by decide, rfl⟩ kd29_8.2.1 rfl rfl (by simp [Value.category]) (by decide) (by decide) (by decide) (by decide) (fun r14 S16 g15 pr14 qr14 hg15 => ?_)
        obtain ⟨rfl, rfl, z17, rfl, lz17, uz17, k18⟩ := pr14
        refine X_st [.int (iI z17)] rfl ?_
        refine X_bipush hK kd29_8.2.2.1 (by decide) ?_
        refine X_isub hK kd29_8.2.2.2.1 ?_
        refine X_istore hK (i := 4) [(4, .int (iI (z17 - 100))), (3, .int (iI z6)), (0, .ref a0), (1, .ref a1), (2, .int (iI x2))] kd29_8.2.2.2.2.1 (by decide) rfl ?_
        refine X_iload hK (i := 4) 0 kd29_8.2.2.2.2.2.1 rfl ?_
        refine X_if_ge hK 66 (by omega) kd29_8.2.2.2.2.2.2.1 (by decide) (fun c19 => ?_) (fun c19 => ?_)
        · refine X_aloadn hK (i := 0) 2 kd29_8.2.2.2.2.2.2.2.2.2.2.2 rfl rfl ?_
          refine X_dup hK kd29_9.1 rfl ?_
          refine X_getK hK fl_X7_18_8 hs_a0 (xs_s hg13) kd29_9.2.1 ?_
          refine X_iconst hK kd29_9.2.2.1 ?_
          refine X_iadd hK kd29_9.2.2.2.1 ?_
          refine X_puti hK fl_X7_18_8 hs_a0 (by decide) sl_8_2 (by omega) (by omega) kd29_9.2.2.2.2.1 (fun g20 hg20 => ?_)
          refine X_aloadn hK (i := 1) 3 kd29_9.2.2.2.2.2.1 rfl rfl ?_
          refine X_iloadn hK (i := 2) 4 kd29_9.2.2.2.2.2.2.1 rfl rfl ?_
          refine X_iloadn hK (i := 3) 1 kd29_9.2.2.2.2.2.2.2.1 rfl rfl ?_
          refine X_bipush hK kd29_9.2.2.2.2.2.2.2.2.1 (by decide) ?_
          refine X_isub hK kd29_9.2.2.2.2.2.2.2.2.2.1 ?_
          refine X_iload hK (i := 4) 0 kd29_9.2.2.2.2.2.2.2.2.2.2.1 rfl ?_
          refine X_callV hK [.int (iI x2), .int (iI (z6 - 27)), .int (iI (z17 - 100))] [] lk_X7_129 (c_X10_addStep _ _ _ _ _ S g20 a1 x2 (z6 - 27) (z17 - 100) hs_a1 (by omega) (by omega) (by omega)) hs_a1 ⟨by decide, rfl⟩ kd29_9.2.2.2.2.2.2.2.2.2.2.2 rfl rfl (by simp [Value.category]) (by decide) (by decide) (by decide) (by decide) (fun r21 S23 g22 pr21 qr21 hg22 => ?_)
          obtain ⟨rfl, rfl⟩ := pr21
          refine X_st [] rfl ?_
          exact hret _ _ _ _ _ _ kd29_10.1 ⟨rfl, rfl⟩ (Nat.le_refl _) (Nat.le_refl _)
        · refine X_aloadn hK (i := 0) 2 kd29_8.2.2.2.2.2.2.2.1 rfl rfl ?_
          refine X_iconst hK kd29_8.2.2.2.2.2.2.2.2.1 ?_
          refine X_callV hK [.int (iI 1)] [] lk_X7_60 (c_X7_tell _ _ _ _ _ S g13 a0 1 hs_a0 (by omega)) hs_a0 ⟨by decide, rfl⟩ kd29_8.2.2.2.2.2.2.2.2.2.1 rfl rfl (by simp [Value.category]) (by decide) (by decide) (by decide) (by decide) (fun r24 S26 g25 pr24 qr24 hg25 => ?_)
          obtain ⟨rfl, rfl⟩ := pr24
          refine X_st [] rfl ?_
          exact hret _ _ _ _ _ _ kd29_8.2.2.2.2.2.2.2.2.2.2.1 ⟨rfl, rfl⟩ (Nat.le_refl _) (Nat.le_refl _)
      · refine X_aloadn hK (i := 0) 1 kd29_7.2.2.1 rfl rfl ?_
        refine X_iconst hK kd29_7.2.2.2.1 ?_
        refine X_callV hK [.int (iI 1)] [] lk_X7_60 (c_X7_tell _ _ _ _ _ S g a0 1 hs_a0 (by omega)) hs_a0 ⟨by decide, rfl⟩ kd29_7.2.2.2.2.1 rfl rfl (by simp [Value.category]) (by decide) (by decide) (by decide) (by decide) (fun r27 S29 g28 pr27 qr27 hg28 => ?_)
        obtain ⟨rfl, rfl⟩ := pr27
        refine X_st [] rfl ?_
        exact hret _ _ _ _ _ _ kd29_7.2.2.2.2.2.1 ⟨rfl, rfl⟩ (Nat.le_refl _) (Nat.le_refl _)
  · refine X_aloadn hK (i := 1) 1 kd29_5.2.2.2.2.2.2.2.2.2.2.2 rfl rfl ?_
    refine X_iloadn hK (i := 2) 2 kd29_6.1 rfl rfl ?_
    refine X_iconst hK kd29_6.2.1 ?_
    refine X_iconst hK kd29_6.2.2.1 ?_
    refine X_callV hK [.int (iI x2), .int (iI 2), .int (iI 0)] [] lk_X7_129 (c_X10_addStep _ _ _ _ _ S g a1 x2 2 0 hs_a1 (by omega) (by omega) (by omega)) hs_a1 ⟨by decide, rfl⟩ kd29_6.2.2.2.1 rfl rfl (by simp [Value.category]) (by decide) (by decide) (by decide) (by decide) (fun r30 S32 g31 pr30 qr30 hg31 => ?_)
    obtain ⟨rfl, rfl⟩ := pr30
    refine X_st [] rfl ?_
    exact hret _ _ _ _ _ _ kd29_6.2.2.2.2.1 ⟨rfl, rfl⟩ (Nat.le_refl _) (Nat.le_refl _)

set_option maxHeartbeats 4000000 in
set_option maxRecDepth 100000 in
theorem c_X7_readOne_11 (l : Launch) (D : va_G) (kA : Nat → ClassId) (b0 : Nat) (t0 : Nat → Nat) (S : xT) (g : xG) (a0 : Nat) (a1 : Nat) (x2 : Int) (hs_a0 : S a0 = some (8, 0)) (hs_a1 : S a1 = some (11, 0)) (hx2 : 11 ≤ x2 ∧ x2 ≤ 11) : xMt l yX7_readOne cX7_readOne 5 none 1 0 0 21 D kA b0 t0 [(8, 5), (8, 6)] [.ref a0, .ref a1, .int (iI x2)] S g (fun (r : Option Value) (S1 : xT) (g1 : xG) => S = S1 ∧ r = none) := by
  refine xEnterV (by decide) (by simp [lg_sl, Value.category]) [(0, .ref a0), (1, .ref a1), (2, .int (iI x2))] rfl ?_
  intro K E hK hret _ _ _
  refine X_aloadn hK (i := 0) 0 kd29_20.2.2.2.2.2.2.1 rfl rfl ?_
  refine X_know hs_a0 (by decide) sl_8_2 (fun z1 ez1 lz1 uz1 => ?_)
  refine X_callV hK [] [] lk_X7_47 (c_X7_now _ _ _ _ _ S g a0 z1 hs_a0 (by omega) ez1) hs_a0 ⟨by decide, rfl⟩ kd29_20.2.2.2.2.2.2.2.1 rfl rfl (by simp [Value.category]) (by decide) (by decide) (by decide) (by decide) (fun r2 S4 g3 pr2 qr2 hg3 => ?_)
  obtain ⟨rfl, rfl, z5, rfl, lz5, uz5, k6⟩ := pr2
  refine X_st [.int (iI z5)] rfl ?_
  refine X_istoren hK (i := 3) [(3, .int (iI z5)), (0, .ref a0), (1, .ref a1), (2, .int (iI x2))] kd29_20.2.2.2.2.2.2.2.2.1 rfl (by decide) rfl ?_
  refine X_iloadn hK (i := 3) 0 kd29_20.2.2.2.2.2.2.2.2.2.1 rfl rfl ?_
  refine X_bipush hK kd29_20.2.2.2.2.2.2.2.2.2.2.1 (by decide) ?_
  refine X_icmp_lt hK 21 (by omega) (by omega) kd29_20.2.2.2.2.2.2.2.2.2.2.2 (by decide) (fun c7 => ?_) (fun c7 => ?_)
  · refine X_iconst hK kd29_21.2.2.2.2.2.1 ?_
    refine X_istore hK (i := 4) [(4, .int (iI 0)), (3, .int (iI z5)), (0, .ref a0), (1, .ref a1), (2, .int (iI x2))] kd29_21.2.2.2.2.2.2.1 (by decide) rfl ?_
    refine X_iload hK (i := 4) 0 kd29_21.2.2.2.2.2.2.2.1 rfl ?_
    refine X_if_ne hK 49 (by omega) kd29_21.2.2.2.2.2.2.2.2.1 (by decide) (fun c8 => False.elim (by omega)) (fun c8 => ?_)
    refine X_iloadn hK (i := 3) 1 kd29_21.2.2.2.2.2.2.2.2.2.1 rfl rfl ?_
    refine X_bipush hK kd29_21.2.2.2.2.2.2.2.2.2.2.1 (by decide) ?_
    refine X_icmp_eq hK 49 (by omega) (by omega) kd29_21.2.2.2.2.2.2.2.2.2.2.2 (by decide) (fun c9 => ?_) (fun c9 => ?_)
    · refine X_aloadn hK (i := 0) 2 kd29_22.2.2.2.2.2.2.2.1 rfl rfl ?_
      refine X_geti hK fl_X7_22_8 hs_a0 sl_8_3 kd29_22.2.2.2.2.2.2.2.2.1 (fun z10 ez10 lz10 uz10 => ?_)
      refine X_bipush hK kd29_22.2.2.2.2.2.2.2.2.2.1 (by decide) ?_
      refine X_icmp_ge hK 64 (by omega) (by omega) kd29_22.2.2.2.2.2.2.2.2.2.2.1 (by decide) (fun c11 => ?_) (fun c11 => ?_)
      · refine X_aloadn hK (i := 0) 2 kd29_23.2.2.1 rfl rfl ?_
        refine X_iconst hK kd29_23.2.2.2.1 ?_
        refine X_callV hK [.int (iI 4)] [] lk_X7_60 (c_X7_tell _ _ _ _ _ S g a0 4 hs_a0 (by omega)) hs_a0 ⟨by decide, rfl⟩ kd29_23.2.2.2.2.1 rfl rfl (by simp [Value.category]) (by decide) (by decide) (by decide) (by decide) (fun r12 S14 g13 pr12 qr12 hg13 => ?_)
        obtain ⟨rfl, rfl⟩ := pr12
        refine X_st [] rfl ?_
        refine X_goto hK 148 kd29_23.2.2.2.2.2.1 (by decide) ?_
        exact hret _ _ _ _ _ _ kd29_27.2.2.2 ⟨rfl, rfl⟩ (Nat.le_refl _) (Nat.le_refl _)
      · refine X_iloadn hK (i := 2) 4 kd29_22.2.2.2.2.2.2.2.2.2.2.2 rfl rfl ?_
        refine X_bipush hK kd29_23.1 (by decide) ?_
        refine X_icmp_le hK 72 (by omega) (by omega) kd29_23.2.1 (by decide) (fun c15 => False.elim (by omega)) (fun c15 => ?_)
        refine X_aloadn hK (i := 0) 2 kd29_23.2.2.1 rfl rfl ?_
        refine X_iconst hK kd29_23.2.2.2.1 ?_
        refine X_callV hK [.int (iI 4)] [] lk_X7_60 (c_X7_tell _ _ _ _ _ S g a0 4 hs_a0 (by omega)) hs_a0 ⟨by decide, rfl⟩ kd29_23.2.2.2.2.1 rfl rfl (by simp [Value.category]) (by decide) (by decide) (by decide) (by decide) (fun r16 S18 g17 pr16 qr16 hg17 => ?_)
        obtain ⟨rfl, rfl⟩ := pr16
        refine X_st [] rfl ?_
        refine X_goto hK 148 kd29_23.2.2.2.2.2.1 (by decide) ?_
        exact hret _ _ _ _ _ _ kd29_27.2.2.2 ⟨rfl, rfl⟩ (Nat.le_refl _) (Nat.le_refl _)
    · refine X_iloadn hK (i := 3) 1 kd29_22.1 rfl rfl ?_
      refine X_bipush hK kd29_22.2.1 (by decide) ?_
      refine X_icmp_eq hK 49 (by omega) (by omega) kd29_22.2.2.1 (by decide) (fun c19 => False.elim (by omega)) (fun c19 => ?_)
      refine X_aloadn hK (i := 0) 2 kd29_22.2.2.2.1 rfl rfl ?_
      refine X_iconst hK kd29_22.2.2.2.2.1 ?_
      refine X_callV hK [.int (iI 1)] [] lk_X7_60 (c_X7_tell _ _ _ _ _ S g a0 1 hs_a0 (by omega)) hs_a0 ⟨by decide, rfl⟩ kd29_22.2.2.2.2.2.1 rfl rfl (by simp [Value.category]) (by decide) (by decide) (by decide) (by decide) (fun r20 S22 g21 pr20 qr20 hg21 => ?_)
      obtain ⟨rfl, rfl⟩ := pr20
      refine X_st [] rfl ?_
      refine X_goto hK 148 kd29_22.2.2.2.2.2.2.1 (by decide) ?_
      exact hret _ _ _ _ _ _ kd29_27.2.2.2 ⟨rfl, rfl⟩ (Nat.le_refl _) (Nat.le_refl _)
  · refine X_iloadn hK (i := 3) 0 kd29_21.1 rfl rfl ?_
    refine X_bipush hK kd29_21.2.1 (by decide) ?_
    refine X_icmp_ge hK 21 (by omega) (by omega) kd29_21.2.2.1 (by decide) (fun c23 => ?_) (fun c23 => ?_)
    · refine X_iconst hK kd29_21.2.2.2.2.2.1 ?_
      refine X_istore hK (i := 4) [(4, .int (iI 0)), (3, .int (iI z5)), (0, .ref a0), (1, .ref a1), (2, .int (iI x2))] kd29_21.2.2.2.2.2.2.1 (by decide) rfl ?_
      refine X_iload hK (i := 4) 0 kd29_21.2.2.2.2.2.2.2.1 rfl ?_
      refine X_if_ne hK 49 (by omega) kd29_21.2.2.2.2.2.2.2.2.1 (by decide) (fun c24 => False.elim (by omega)) (fun c24 => ?_)
      refine X_iloadn hK (i := 3) 1 kd29_21.2.2.2.2.2.2.2.2.2.1 rfl rfl ?_
      refine X_bipush hK kd29_21.2.2.2.2.2.2.2.2.2.2.1 (by decide) ?_
      refine X_icmp_eq hK 49 (by omega) (by omega) kd29_21.2.2.2.2.2.2.2.2.2.2.2 (by decide) (fun c25 => False.elim (by omega)) (fun c25 => ?_)
      refine X_iloadn hK (i := 3) 1 kd29_22.1 rfl rfl ?_
      refine X_bipush hK kd29_22.2.1 (by decide) ?_
      refine X_icmp_eq hK 49 (by omega) (by omega) kd29_22.2.2.1 (by decide) (fun c26 => ?_) (fun c26 => ?_)
      · refine X_aloadn hK (i := 0) 2 kd29_22.2.2.2.2.2.2.2.1 rfl rfl ?_
        refine X_geti hK fl_X7_22_8 hs_a0 sl_8_3 kd29_22.2.2.2.2.2.2.2.2.1 (fun z27 ez27 lz27 uz27 => ?_)
        refine X_bipush hK kd29_22.2.2.2.2.2.2.2.2.2.1 (by decide) ?_
        refine X_icmp_ge hK 64 (by omega) (by omega) kd29_22.2.2.2.2.2.2.2.2.2.2.1 (by decide) (fun c28 => ?_) (fun c28 => ?_)
        · refine X_aloadn hK (i := 0) 2 kd29_23.2.2.1 rfl rfl ?_
          refine X_iconst hK kd29_23.2.2.2.1 ?_
          refine X_callV hK [.int (iI 4)] [] lk_X7_60 (c_X7_tell _ _ _ _ _ S g a0 4 hs_a0 (by omega)) hs_a0 ⟨by decide, rfl⟩ kd29_23.2.2.2.2.1 rfl rfl (by simp [Value.category]) (by decide) (by decide) (by decide) (by decide) (fun r29 S31 g30 pr29 qr29 hg30 => ?_)
          obtain ⟨rfl, rfl⟩ := pr29
          refine X_st [] rfl ?_
          refine X_goto hK 148 kd29_23.2.2.2.2.2.1 (by decide) ?_
          exact hret _ _ _ _ _ _ kd29_27.2.2.2 ⟨rfl, rfl⟩ (Nat.le_refl _) (Nat.le_refl _)
        · refine X_iloadn hK (i := 2) 4 kd29_22.2.2.2.2.2.2.2.2.2.2.2 rfl rfl ?_
          refine X_bipush hK kd29_23.1 (by decide) ?_
          refine X_icmp_le hK 72 (by omega) (by omega) kd29_23.2.1 (by decide) (fun c32 => False.elim (by omega)) (fun c32 => ?_)
          refine X_aloadn hK (i := 0) 2 kd29_23.2.2.1 rfl rfl ?_
          refine X_iconst hK kd29_23.2.2.2.1 ?_
          refine X_callV hK [.int (iI 4)] [] lk_X7_60 (c_X7_tell _ _ _ _ _ S g a0 4 hs_a0 (by omega)) hs_a0 ⟨by decide, rfl⟩ kd29_23.2.2.2.2.1 rfl rfl (by simp [Value.category]) (by decide) (by decide) (by decide) (by decide) (fun r33 S35 g34 pr33 qr33 hg34 => ?_)
          obtain ⟨rfl, rfl⟩ := pr33
          refine X_st [] rfl ?_
          refine X_goto hK 148 kd29_23.2.2.2.2.2.1 (by decide) ?_
          exact hret _ _ _ _ _ _ kd29_27.2.2.2 ⟨rfl, rfl⟩ (Nat.le_refl _) (Nat.le_refl _)
      · refine X_aloadn hK (i := 0) 2 kd29_22.2.2.2.1 rfl rfl ?_
        refine X_iconst hK kd29_22.2.2.2.2.1 ?_
        refine X_callV hK [.int (iI 1)] [] lk_X7_60 (c_X7_tell _ _ _ _ _ S g a0 1 hs_a0 (by omega)) hs_a0 ⟨by decide, rfl⟩ kd29_22.2.2.2.2.2.1 rfl rfl (by simp [Value.category]) (by decide) (by decide) (by decide) (by decide) (fun r36 S38 g37 pr36 qr36 hg37 => ?_)
        obtain ⟨rfl, rfl⟩ := pr36
        refine X_st [] rfl ?_
        refine X_goto hK 148 kd29_22.2.2.2.2.2.2.1 (by decide) ?_
        exact hret _ _ _ _ _ _ kd29_27.2.2.2 ⟨rfl, rfl⟩ (Nat.le_refl _) (Nat.le_refl _)
    · refine X_iconst hK kd29_21.2.2.2.1 ?_
      refine X_goto hK 22 kd29_21.2.2.2.2.1 (by decide) ?_
      refine X_istore hK (i := 4) [(4, .int (iI 1)), (3, .int (iI z5)), (0, .ref a0), (1, .ref a1), (2, .int (iI x2))] kd29_21.2.2.2.2.2.2.1 (by decide) rfl ?_
      refine X_iload hK (i := 4) 0 kd29_21.2.2.2.2.2.2.2.1 rfl ?_
      refine X_if_ne hK 49 (by omega) kd29_21.2.2.2.2.2.2.2.2.1 (by decide) (fun c39 => ?_) (fun c39 => False.elim (by omega))
      refine X_aloadn hK (i := 0) 2 kd29_22.2.2.2.2.2.2.2.1 rfl rfl ?_
      refine X_geti hK fl_X7_22_8 hs_a0 sl_8_3 kd29_22.2.2.2.2.2.2.2.2.1 (fun z40 ez40 lz40 uz40 => ?_)
      refine X_bipush hK kd29_22.2.2.2.2.2.2.2.2.2.1 (by decide) ?_
      refine X_icmp_ge hK 64 (by omega) (by omega) kd29_22.2.2.2.2.2.2.2.2.2.2.1 (by decide) (fun c41 => ?_) (fun c41 => ?_)
      · refine X_aloadn hK (i := 0) 2 kd29_23.2.2.1 rfl rfl ?_
        refine X_iconst hK kd29_23.2.2.2.1 ?_
        refine X_callV hK [.int (iI 4)] [] lk_X7_60 (c_X7_tell _ _ _ _ _ S g a0 4 hs_a0 (by omega)) hs_a0 ⟨by decide, rfl⟩ kd29_23.2.2.2.2.1 rfl rfl (by simp [Value.category]) (by decide) (by decide) (by decide) (by decide) (fun r42 S44 g43 pr42 qr42 hg43 => ?_)
        obtain ⟨rfl, rfl⟩ := pr42
        refine X_st [] rfl ?_
        refine X_goto hK 148 kd29_23.2.2.2.2.2.1 (by decide) ?_
        exact hret _ _ _ _ _ _ kd29_27.2.2.2 ⟨rfl, rfl⟩ (Nat.le_refl _) (Nat.le_refl _)
      · refine X_iloadn hK (i := 2) 4 kd29_22.2.2.2.2.2.2.2.2.2.2.2 rfl rfl ?_
        refine X_bipush hK kd29_23.1 (by decide) ?_
        refine X_icmp_le hK 72 (by omega) (by omega) kd29_23.2.1 (by decide) (fun c45 => False.elim (by omega)) (fun c45 => ?_)
        refine X_aloadn hK (i := 0) 2 kd29_23.2.2.1 rfl rfl ?_
        refine X_iconst hK kd29_23.2.2.2.1 ?_
        refine X_callV hK [.int (iI 4)] [] lk_X7_60 (c_X7_tell _ _ _ _ _ S g a0 4 hs_a0 (by omega)) hs_a0 ⟨by decide, rfl⟩ kd29_23.2.2.2.2.1 rfl rfl (by simp [Value.category]) (by decide) (by decide) (by decide) (by decide) (fun r46 S48 g47 pr46 qr46 hg47 => ?_)
        obtain ⟨rfl, rfl⟩ := pr46
        refine X_st [] rfl ?_
        refine X_goto hK 148 kd29_23.2.2.2.2.2.1 (by decide) ?_
        exact hret _ _ _ _ _ _ kd29_27.2.2.2 ⟨rfl, rfl⟩ (Nat.le_refl _) (Nat.le_refl _)

set_option maxHeartbeats 4000000 in
set_option maxRecDepth 100000 in
theorem c_X7_readAll_11 (l : Launch) (D : va_G) (kA : Nat → ClassId) (b0 : Nat) (t0 : Nat → Nat) (S : xT) (g : xG) (a0 : Nat) (a1 : Nat) (x2 : Int) (hs_a0 : S a0 = some (8, 0)) (hs_a1 : S a1 = some (11, 0)) (hx2 : 11 ≤ x2 ∧ x2 ≤ 11) : xMt l yX7_readAll cX7_readAll 4 none 2 0 0 45 D kA b0 t0 [(8, 5), (8, 6), (8, 2), (14000, 0), (11, 2)] [.ref a0, .ref a1, .int (iI x2)] S g (fun (r : Option Value) (S1 : xT) (g1 : xG) => S = S1 ∧ r = none) := by
  refine xEnterV (by decide) (by simp [lg_sl, Value.category]) [(0, .ref a0), (1, .ref a1), (2, .int (iI x2))] rfl ?_
  intro K E hK hret _ _ _
  refine X_aloadn hK (i := 0) 0 kd29_0.1 rfl rfl ?_
  refine X_aloadn hK (i := 1) 1 kd29_0.2.1 rfl rfl ?_
  refine X_iloadn hK (i := 2) 2 kd29_0.2.2.1 rfl rfl ?_
  refine X_callV hK [.ref a1, .int (iI x2)] [] lk_X7_132 (c_X7_readOne_11 _ _ _ _ _ S g a0 a1 x2 hs_a0 hs_a1 (by omega)) hs_a0 ⟨by decide, rfl⟩ kd29_0.2.2.2.1 rfl rfl (by simp [Value.category]) (by decide) (by decide) (by decide) (by decide) (fun r1 S3 g2 pr1 qr1 hg2 => ?_)
  obtain ⟨rfl, rfl⟩ := pr1
  refine X_st [] rfl ?_
  refine X_iconst hK kd29_0.2.2.2.2.1 ?_
  refine X_istoren hK (i := 3) [(3, .int (iI 0)), (0, .ref a0), (1, .ref a1), (2, .int (iI x2))] kd29_0.2.2.2.2.2.1 rfl (by decide) rfl ?_
  have P117 : ∀ (nP117 : Nat) (g99 : xG) (_ : xM [(14000, 0), (11, 2), (8, 5), (8, 6), (8, 2)] S g2 g99) (z98 : Int) (_ : 0 ≤ z98) (_ : z98 ≤ 50) (_ : 66 - z98 < (nP117 : Int)), X K E 8 [(3, .int (iI z98)), (0, .ref a0), (1, .ref a1), (2, .int (iI x2))] [] S g99 0 0 := by
    intro nP117
    induction nP117 with
    | zero => intro g99 hg99 z98 lz98 uz98 mP117; exact False.elim (by omega)
    | succ nP117 ihP117 =>
      intro g99 hg99 z98 lz98 uz98 mP117
      refine X_iloadn hK (i := 3) 0 kd29_0.2.2.2.2.2.2.1 rfl rfl ?_
      refine X_bipush hK kd29_0.2.2.2.2.2.2.2.1 (by decide) ?_
      refine X_icmp_ge hK 60 (by omega) (by omega) kd29_0.2.2.2.2.2.2.2.2.1 (by decide) (fun c118 => ?_) (fun c118 => ?_)
      · exact hret _ _ _ _ _ _ kd29_2.2.2.2.2.2.2.2.2.2.1 ⟨rfl, rfl⟩ (Nat.le_refl _) (Nat.le_refl _)
      · refine X_aloadn hK (i := 0) 1 kd29_0.2.2.2.2.2.2.2.2.2.1 rfl rfl ?_
        refine X_geti hK fl_X7_29_8 hs_a0 sl_8_5 kd29_0.2.2.2.2.2.2.2.2.2.2.1 (fun z119 ez119 lz119 uz119 => ?_)
        refine X_if_ne hK 60 (by omega) kd29_0.2.2.2.2.2.2.2.2.2.2.2 (by decide) (fun c120 => ?_) (fun c120 => ?_)
        · exact hret _ _ _ _ _ _ kd29_2.2.2.2.2.2.2.2.2.2.1 ⟨rfl, rfl⟩ (Nat.le_refl _) (Nat.le_refl _)
        · refine X_aloadn hK (i := 0) 1 kd29_1.1 rfl rfl ?_
          refine X_know hs_a0 (by decide) sl_8_2 (fun z121 ez121 lz121 uz121 => ?_)
          refine X_callV hK [] [] lk_X7_47 (c_X7_now _ _ _ _ _ S g99 a0 z121 hs_a0 (by omega) ez121) hs_a0 ⟨by decide, rfl⟩ kd29_1.2.1 rfl rfl (by simp [Value.category]) (by decide) (by decide) (by decide) (by decide) (fun r122 S124 g123 pr122 qr122 hg123 => ?_)
          obtain ⟨rfl, rfl, z125, rfl, lz125, uz125, k126⟩ := pr122
          refine X_st [.int (iI z125)] rfl ?_
          refine X_bipush hK kd29_1.2.2.1 (by decide) ?_
          refine X_icmp_ne hK 60 (by omega) (by omega) kd29_1.2.2.2.1 (by decide) (fun c127 => ?_) (fun c127 => ?_)
          · exact hret _ _ _ _ _ _ kd29_2.2.2.2.2.2.2.2.2.2.1 ⟨rfl, rfl⟩ (Nat.le_refl _) (Nat.le_refl _)
          · refine X_aloadn hK (i := 0) 1 kd29_1.2.2.2.2.1 rfl rfl ?_
            refine X_dup hK kd29_1.2.2.2.2.2.1 rfl ?_
            refine X_getK hK fl_X7_18_8 hs_a0 ez121 kd29_1.2.2.2.2.2.2.1 ?_
            refine X_iconst hK kd29_1.2.2.2.2.2.2.2.1 ?_
            refine X_iadd hK kd29_1.2.2.2.2.2.2.2.2.1 ?_
            refine X_puti hK fl_X7_18_8 hs_a0 (by decide) sl_8_2 (by omega) (by omega) kd29_1.2.2.2.2.2.2.2.2.2.1 (fun g128 hg128 => ?_)
            refine X_aloadn hK (i := 0) 1 kd29_1.2.2.2.2.2.2.2.2.2.2.1 rfl rfl ?_
            refine X_aloadn hK (i := 1) 2 kd29_1.2.2.2.2.2.2.2.2.2.2.2 rfl rfl ?_
            refine X_iloadn hK (i := 2) 3 kd29_2.1 rfl rfl ?_
            refine X_callV hK [.ref a1, .int (iI x2)] [] lk_X7_132 (c_X7_readOne_11 _ _ _ _ _ S g128 a0 a1 x2 hs_a0 hs_a1 (by omega)) hs_a0 ⟨by decide, rfl⟩ kd29_2.2.1 rfl rfl (by simp [Value.category]) (by decide) (by decide) (by decide) (by decide) (fun r129 S131 g130 pr129 qr129 hg130 => ?_)
            obtain ⟨rfl, rfl⟩ := pr129
            refine X_st [] rfl ?_
            refine X_aloadn hK (i := 1) 2 kd29_2.2.2.1 rfl rfl ?_
            refine X_bipush hK kd29_2.2.2.2.1 (by decide) ?_
            refine X_iconst hK kd29_2.2.2.2.2.1 ?_
            refine X_iconst hK kd29_2.2.2.2.2.2.1 ?_
            refine X_callV hK [.int (iI 13), .int (iI 0), .int (iI 0)] [] lk_X7_129 (c_X10_addStep _ _ _ _ _ S g130 a1 13 0 0 hs_a1 (by omega) (by omega) (by omega)) hs_a1 ⟨by decide, rfl⟩ kd29_2.2.2.2.2.2.2.1 rfl rfl (by simp [Value.category]) (by decide) (by decide) (by decide) (by decide) (fun r132 S134 g133 pr132 qr132 hg133 => ?_)
            obtain ⟨rfl, rfl⟩ := pr132
            refine X_st [] rfl ?_
            refine X_iinc hK (i := 3) (z := z98) (n := 1) 0 [(3, .int (iI (z98 + 1))), (0, .ref a0), (1, .ref a1), (2, .int (iI x2))] kd29_2.2.2.2.2.2.2.2.1 rfl (by decide) rfl ?_
            refine X_goto hK 8 kd29_2.2.2.2.2.2.2.2.2.1 (by decide) ?_
            exact ihP117  g133 (xM.tr (xM.tr (xM_up (xM.tr xM.rf xLe.rf hg99 (by decide)) hg128 hs_a0 (by decide) (by decide)) xLe.rf hg130 (by decide)) xLe.rf hg133 (by decide)) (z98 + 1) (by omega) (by omega) (by omega)
  exact P117 ((66 - 0 : Int).toNat + 1) g2 xM.rf 0 (by omega) (by omega) (by omega)

set_option maxHeartbeats 4000000 in
set_option maxRecDepth 100000 in
theorem c_X7_readCond_11 (l : Launch) (D : va_G) (kA : Nat → ClassId) (b0 : Nat) (t0 : Nat → Nat) (S : xT) (g : xG) (a0 : Nat) (a1 : Nat) (x2 : Int) (hs_a0 : S a0 = some (8, 0)) (hs_a1 : S a1 = some (11, 0)) (hx2 : 11 ≤ x2 ∧ x2 ≤ 11) : xMt l yX7_readCond cX7_readCond 4 none 3 0 0 68 D kA b0 t0 [(8, 5), (8, 6), (8, 2), (14000, 0), (11, 2)] [.ref a0, .ref a1, .int (iI x2)] S g (fun (r : Option Value) (S1 : xT) (g1 : xG) => S = S1 ∧ r = none) := by
  refine xEnterV (by decide) (by simp [lg_sl, Value.category]) [(0, .ref a0), (1, .ref a1), (2, .int (iI x2))] rfl ?_
  intro K E hK hret _ _ _
  refine X_aloadn hK (i := 0) 0 kd29_2.2.2.2.2.2.2.2.2.2.2.1 rfl rfl ?_
  refine X_aloadn hK (i := 1) 1 kd29_2.2.2.2.2.2.2.2.2.2.2.2 rfl rfl ?_
  refine X_iloadn hK (i := 2) 2 kd29_3.1 rfl rfl ?_
  refine X_callV hK [.ref a1, .int (iI x2)] [] lk_X7_126 (c_X7_readAll_11 _ _ _ _ _ S g a0 a1 x2 hs_a0 hs_a1 (by omega)) hs_a0 ⟨by decide, rfl⟩ kd29_3.2.1 rfl rfl (by simp [Value.category]) (by decide) (by decide) (by decide) (by decide) (fun r1 S3 g2 pr1 qr1 hg2 => ?_)
  obtain ⟨rfl, rfl⟩ := pr1
  refine X_st [] rfl ?_
  refine X_iconst hK kd29_3.2.2.1 ?_
  refine X_istoren hK (i := 3) [(3, .int (iI 0)), (0, .ref a0), (1, .ref a1), (2, .int (iI x2))] kd29_3.2.2.2.1 rfl (by decide) rfl ?_
  have P117 : ∀ (nP117 : Nat) (g99 : xG) (_ : xM [(14000, 0), (11, 2), (8, 5), (8, 6), (8, 2)] S g2 g99) (z98 : Int) (_ : 0 ≤ z98) (_ : z98 ≤ 50) (_ : 66 - z98 < (nP117 : Int)), X K E 8 [(3, .int (iI z98)), (0, .ref a0), (1, .ref a1), (2, .int (iI x2))] [] S g99 0 0 := by
    intro nP117
    induction nP117 with
    | zero => intro g99 hg99 z98 lz98 uz98 mP117; exact False.elim (by omega)
    | succ nP117 ihP117 =>
      intro g99 hg99 z98 lz98 uz98 mP117
      refine X_iloadn hK (i := 3) 0 kd29_3.2.2.2.2.1 rfl rfl ?_
      refine X_bipush hK kd29_3.2.2.2.2.2.1 (by decide) ?_
      refine X_icmp_ge hK 60 (by omega) (by omega) kd29_3.2.2.2.2.2.2.1 (by decide) (fun c118 => ?_) (fun c118 => ?_)
      · exact hret _ _ _ _ _ _ kd29_5.2.2.2.2.2.2.2.1 ⟨rfl, rfl⟩ (Nat.le_refl _) (Nat.le_refl _)
      · refine X_aloadn hK (i := 0) 1 kd29_3.2.2.2.2.2.2.2.1 rfl rfl ?_
        refine X_geti hK fl_X7_29_8 hs_a0 sl_8_5 kd29_3.2.2.2.2.2.2.2.2.1 (fun z119 ez119 lz119 uz119 => ?_)
        refine X_if_ne hK 60 (by omega) kd29_3.2.2.2.2.2.2.2.2.2.1 (by decide) (fun c120 => ?_) (fun c120 => ?_)
        · exact hret _ _ _ _ _ _ kd29_5.2.2.2.2.2.2.2.1 ⟨rfl, rfl⟩ (Nat.le_refl _) (Nat.le_refl _)
        · refine X_aloadn hK (i := 0) 1 kd29_3.2.2.2.2.2.2.2.2.2.2.1 rfl rfl ?_
          refine X_know hs_a0 (by decide) sl_8_2 (fun z121 ez121 lz121 uz121 => ?_)
          refine X_callV hK [] [] lk_X7_47 (c_X7_now _ _ _ _ _ S g99 a0 z121 hs_a0 (by omega) ez121) hs_a0 ⟨by decide, rfl⟩ kd29_3.2.2.2.2.2.2.2.2.2.2.2 rfl rfl (by simp [Value.category]) (by decide) (by decide) (by decide) (by decide) (fun r122 S124 g123 pr122 qr122 hg123 => ?_)
          obtain ⟨rfl, rfl, z125, rfl, lz125, uz125, k126⟩ := pr122
          refine X_st [.int (iI z125)] rfl ?_
          refine X_bipush hK kd29_4.1 (by decide) ?_
          refine X_icmp_ne hK 60 (by omega) (by omega) kd29_4.2.1 (by decide) (fun c127 => ?_) (fun c127 => ?_)
          · exact hret _ _ _ _ _ _ kd29_5.2.2.2.2.2.2.2.1 ⟨rfl, rfl⟩ (Nat.le_refl _) (Nat.le_refl _)
          · refine X_aloadn hK (i := 0) 1 kd29_4.2.2.1 rfl rfl ?_
            refine X_dup hK kd29_4.2.2.2.1 rfl ?_
            refine X_getK hK fl_X7_18_8 hs_a0 ez121 kd29_4.2.2.2.2.1 ?_
            refine X_iconst hK kd29_4.2.2.2.2.2.1 ?_
            refine X_iadd hK kd29_4.2.2.2.2.2.2.1 ?_
            refine X_puti hK fl_X7_18_8 hs_a0 (by decide) sl_8_2 (by omega) (by omega) kd29_4.2.2.2.2.2.2.2.1 (fun g128 hg128 => ?_)
            refine X_aloadn hK (i := 0) 1 kd29_4.2.2.2.2.2.2.2.2.1 rfl rfl ?_
            refine X_aloadn hK (i := 1) 2 kd29_4.2.2.2.2.2.2.2.2.2.1 rfl rfl ?_
            refine X_iloadn hK (i := 2) 3 kd29_4.2.2.2.2.2.2.2.2.2.2.1 rfl rfl ?_
            refine X_callV hK [.ref a1, .int (iI x2)] [] lk_X7_126 (c_X7_readAll_11 _ _ _ _ _ S g128 a0 a1 x2 hs_a0 hs_a1 (by omega)) hs_a0 ⟨by decide, rfl⟩ kd29_4.2.2.2.2.2.2.2.2.2.2.2 rfl rfl (by simp [Value.category]) (by decide) (by decide) (by decide) (by decide) (fun r129 S131 g130 pr129 qr129 hg130 => ?_)
            obtain ⟨rfl, rfl⟩ := pr129
            refine X_st [] rfl ?_
            refine X_aloadn hK (i := 1) 2 kd29_5.1 rfl rfl ?_
            refine X_bipush hK kd29_5.2.1 (by decide) ?_
            refine X_iconst hK kd29_5.2.2.1 ?_
            refine X_iconst hK kd29_5.2.2.2.1 ?_
            refine X_callV hK [.int (iI 14), .int (iI 0), .int (iI 0)] [] lk_X7_129 (c_X10_addStep _ _ _ _ _ S g130 a1 14 0 0 hs_a1 (by omega) (by omega) (by omega)) hs_a1 ⟨by decide, rfl⟩ kd29_5.2.2.2.2.1 rfl rfl (by simp [Value.category]) (by decide) (by decide) (by decide) (by decide) (fun r132 S134 g133 pr132 qr132 hg133 => ?_)
            obtain ⟨rfl, rfl⟩ := pr132
            refine X_st [] rfl ?_
            refine X_iinc hK (i := 3) (z := z98) (n := 1) 0 [(3, .int (iI (z98 + 1))), (0, .ref a0), (1, .ref a1), (2, .int (iI x2))] kd29_5.2.2.2.2.2.1 rfl (by decide) rfl ?_
            refine X_goto hK 8 kd29_5.2.2.2.2.2.2.1 (by decide) ?_
            exact ihP117  g133 (xM.tr (xM.tr (xM_up (xM.tr xM.rf xLe.rf hg99 (by decide)) hg128 hs_a0 (by decide) (by decide)) xLe.rf hg130 (by decide)) xLe.rf hg133 (by decide)) (z98 + 1) (by omega) (by omega) (by omega)
  exact P117 ((66 - 0 : Int).toNat + 1) g2 xM.rf 0 (by omega) (by omega) (by omega)

set_option maxHeartbeats 4000000 in
set_option maxRecDepth 100000 in
theorem c_X7_readOne_10 (l : Launch) (D : va_G) (kA : Nat → ClassId) (b0 : Nat) (t0 : Nat → Nat) (S : xT) (g : xG) (a0 : Nat) (a1 : Nat) (x2 : Int) (hs_a0 : S a0 = some (8, 0)) (hs_a1 : S a1 = some (11, 0)) (hx2 : 10 ≤ x2 ∧ x2 ≤ 10) : xMt l yX7_readOne cX7_readOne 5 none 4 0 0 91 D kA b0 t0 [(8, 5), (8, 6), (8, 3), (8, 2), (14000, 0), (11, 2)] [.ref a0, .ref a1, .int (iI x2)] S g (fun (r : Option Value) (S1 : xT) (g1 : xG) => S = S1 ∧ r = none) := by
  refine xEnterV (by decide) (by simp [lg_sl, Value.category]) [(0, .ref a0), (1, .ref a1), (2, .int (iI x2))] rfl ?_
  intro K E hK hret _ _ _
  refine X_aloadn hK (i := 0) 0 kd29_20.2.2.2.2.2.2.1 rfl rfl ?_
  refine X_know hs_a0 (by decide) sl_8_2 (fun z1 ez1 lz1 uz1 => ?_)
  refine X_callV hK [] [] lk_X7_47 (c_X7_now _ _ _ _ _ S g a0 z1 hs_a0 (by omega) ez1) hs_a0 ⟨by decide, rfl⟩ kd29_20.2.2.2.2.2.2.2.1 rfl rfl (by simp [Value.category]) (by decide) (by decide) (by decide) (by decide) (fun r2 S4 g3 pr2 qr2 hg3 => ?_)
  obtain ⟨rfl, rfl, z5, rfl, lz5, uz5, k6⟩ := pr2
  refine X_st [.int (iI z5)] rfl ?_
  refine X_istoren hK (i := 3) [(3, .int (iI z5)), (0, .ref a0), (1, .ref a1), (2, .int (iI x2))] kd29_20.2.2.2.2.2.2.2.2.1 rfl (by decide) rfl ?_
  refine X_iloadn hK (i := 3) 0 kd29_20.2.2.2.2.2.2.2.2.2.1 rfl rfl ?_
  refine X_bipush hK kd29_20.2.2.2.2.2.2.2.2.2.2.1 (by decide) ?_
  refine X_icmp_lt hK 21 (by omega) (by omega) kd29_20.2.2.2.2.2.2.2.2.2.2.2 (by decide) (fun c7 => ?_) (fun c7 => ?_)
  · refine X_iconst hK kd29_21.2.2.2.2.2.1 ?_
    refine X_istore hK (i := 4) [(4, .int (iI 0)), (3, .int (iI z5)), (0, .ref a0), (1, .ref a1), (2, .int (iI x2))] kd29_21.2.2.2.2.2.2.1 (by decide) rfl ?_
    refine X_iload hK (i := 4) 0 kd29_21.2.2.2.2.2.2.2.1 rfl ?_
    refine X_if_ne hK 49 (by omega) kd29_21.2.2.2.2.2.2.2.2.1 (by decide) (fun c8 => False.elim (by omega)) (fun c8 => ?_)
    refine X_iloadn hK (i := 3) 1 kd29_21.2.2.2.2.2.2.2.2.2.1 rfl rfl ?_
    refine X_bipush hK kd29_21.2.2.2.2.2.2.2.2.2.2.1 (by decide) ?_
    refine X_icmp_eq hK 49 (by omega) (by omega) kd29_21.2.2.2.2.2.2.2.2.2.2.2 (by decide) (fun c9 => ?_) (fun c9 => ?_)
    · refine X_aloadn hK (i := 0) 2 kd29_22.2.2.2.2.2.2.2.1 rfl rfl ?_
      refine X_geti hK fl_X7_22_8 hs_a0 sl_8_3 kd29_22.2.2.2.2.2.2.2.2.1 (fun z10 ez10 lz10 uz10 => ?_)
      refine X_bipush hK kd29_22.2.2.2.2.2.2.2.2.2.1 (by decide) ?_
      refine X_icmp_ge hK 64 (by omega) (by omega) kd29_22.2.2.2.2.2.2.2.2.2.2.1 (by decide) (fun c11 => ?_) (fun c11 => ?_)
      · refine X_aloadn hK (i := 0) 2 kd29_23.2.2.1 rfl rfl ?_
        refine X_iconst hK kd29_23.2.2.2.1 ?_
        refine X_callV hK [.int (iI 4)] [] lk_X7_60 (c_X7_tell _ _ _ _ _ S g a0 4 hs_a0 (by omega)) hs_a0 ⟨by decide, rfl⟩ kd29_23.2.2.2.2.1 rfl rfl (by simp [Value.category]) (by decide) (by decide) (by decide) (by decide) (fun r12 S14 g13 pr12 qr12 hg13 => ?_)
        obtain ⟨rfl, rfl⟩ := pr12
        refine X_st [] rfl ?_
        refine X_goto hK 148 kd29_23.2.2.2.2.2.1 (by decide) ?_
        exact hret _ _ _ _ _ _ kd29_27.2.2.2 ⟨rfl, rfl⟩ (Nat.le_refl _) (Nat.le_refl _)
      · refine X_iloadn hK (i := 2) 4 kd29_22.2.2.2.2.2.2.2.2.2.2.2 rfl rfl ?_
        refine X_bipush hK kd29_23.1 (by decide) ?_
        refine X_icmp_le hK 72 (by omega) (by omega) kd29_23.2.1 (by decide) (fun c15 => ?_) (fun c15 => False.elim (by omega))
        refine X_aloadn hK (i := 0) 2 kd29_23.2.2.2.2.2.2.1 rfl rfl ?_
        refine X_dup hK kd29_23.2.2.2.2.2.2.2.1 rfl ?_
        refine X_getK hK fl_X7_22_8 hs_a0 ez10 kd29_23.2.2.2.2.2.2.2.2.1 ?_
        refine X_iconst hK kd29_23.2.2.2.2.2.2.2.2.2.1 ?_
        refine X_iadd hK kd29_23.2.2.2.2.2.2.2.2.2.2.1 ?_
        refine X_puti hK fl_X7_22_8 hs_a0 (by decide) sl_8_3 (by omega) (by omega) kd29_23.2.2.2.2.2.2.2.2.2.2.2 (fun g16 hg16 => ?_)
        refine X_aloadn hK (i := 0) 2 kd29_24.1 rfl rfl ?_
        refine X_dup hK kd29_24.2.1 rfl ?_
        refine X_getK hK fl_X7_18_8 hs_a0 ((xs_k hg16 (by decide)).trans ez1) kd29_24.2.2.1 ?_
        refine X_iconst hK kd29_24.2.2.2.1 ?_
        refine X_iadd hK kd29_24.2.2.2.2.1 ?_
        refine X_puti hK fl_X7_18_8 hs_a0 (by decide) sl_8_2 (by omega) (by omega) kd29_24.2.2.2.2.2.1 (fun g17 hg17 => ?_)
        refine X_iload hK (i := 4) 0 kd29_24.2.2.2.2.2.2.1 rfl ?_
        refine X_if_eq hK 109 (by omega) kd29_24.2.2.2.2.2.2.2.1 (by decide) (fun c18 => ?_) (fun c18 => False.elim (by omega))
        refine X_iloadn hK (i := 3) 1 kd29_25.2.2.2.1 rfl rfl ?_
        refine X_bipush hK kd29_25.2.2.2.2.1 (by decide) ?_
        refine X_icmp_ne hK 132 (by omega) (by omega) kd29_25.2.2.2.2.2.1 (by decide) (fun c19 => ?_) (fun c19 => False.elim (by omega))
        refine X_aloadn hK (i := 0) 2 kd29_26.2.2.2.2.1 rfl rfl ?_
        refine X_aloadn hK (i := 1) 3 kd29_26.2.2.2.2.2.1 rfl rfl ?_
        refine X_iloadn hK (i := 2) 4 kd29_26.2.2.2.2.2.2.1 rfl rfl ?_
        refine X_iconst hK kd29_26.2.2.2.2.2.2.2.1 ?_
        refine X_iadd hK kd29_26.2.2.2.2.2.2.2.2.1 ?_
        refine X_callV hK [.ref a1, .int (iI (x2 + 1))] [] lk_X7_132 (c_X7_readOne_11 _ _ _ _ _ S g17 a0 a1 (x2 + 1) hs_a0 hs_a1 (by omega)) hs_a0 ⟨by decide, rfl⟩ kd29_26.2.2.2.2.2.2.2.2.2.1 rfl rfl (by simp [Value.category]) (by decide) (by decide) (by decide) (by decide) (fun r20 S22 g21 pr20 qr20 hg21 => ?_)
        obtain ⟨rfl, rfl⟩ := pr20
        refine X_st [] rfl ?_
        refine X_aloadn hK (i := 1) 3 kd29_26.2.2.2.2.2.2.2.2.2.2.1 rfl rfl ?_
        refine X_bipush hK kd29_26.2.2.2.2.2.2.2.2.2.2.2 (by decide) ?_
        refine X_iconst hK kd29_27.1 ?_
        refine X_iconst hK kd29_27.2.1 ?_
        refine X_callV hK [.int (iI 12), .int (iI 0), .int (iI 0)] [] lk_X7_129 (c_X10_addStep _ _ _ _ _ S g21 a1 12 0 0 hs_a1 (by omega) (by omega) (by omega)) hs_a1 ⟨by decide, rfl⟩ kd29_27.2.2.1 rfl rfl (by simp [Value.category]) (by decide) (by decide) (by decide) (by decide) (fun r23 S25 g24 pr23 qr23 hg24 => ?_)
        obtain ⟨rfl, rfl⟩ := pr23
        refine X_st [] rfl ?_
        exact hret _ _ _ _ _ _ kd29_27.2.2.2 ⟨rfl, rfl⟩ (Nat.le_refl _) (Nat.le_refl _)
    · refine X_iloadn hK (i := 3) 1 kd29_22.1 rfl rfl ?_
      refine X_bipush hK kd29_22.2.1 (by decide) ?_
      refine X_icmp_eq hK 49 (by omega) (by omega) kd29_22.2.2.1 (by decide) (fun c26 => False.elim (by omega)) (fun c26 => ?_)
      refine X_aloadn hK (i := 0) 2 kd29_22.2.2.2.1 rfl rfl ?_
      refine X_iconst hK kd29_22.2.2.2.2.1 ?_
      refine X_callV hK [.int (iI 1)] [] lk_X7_60 (c_X7_tell _ _ _ _ _ S g a0 1 hs_a0 (by omega)) hs_a0 ⟨by decide, rfl⟩ kd29_22.2.2.2.2.2.1 rfl rfl (by simp [Value.category]) (by decide) (by decide) (by decide) (by decide) (fun r27 S29 g28 pr27 qr27 hg28 => ?_)
      obtain ⟨rfl, rfl⟩ := pr27
      refine X_st [] rfl ?_
      refine X_goto hK 148 kd29_22.2.2.2.2.2.2.1 (by decide) ?_
      exact hret _ _ _ _ _ _ kd29_27.2.2.2 ⟨rfl, rfl⟩ (Nat.le_refl _) (Nat.le_refl _)
  · refine X_iloadn hK (i := 3) 0 kd29_21.1 rfl rfl ?_
    refine X_bipush hK kd29_21.2.1 (by decide) ?_
    refine X_icmp_ge hK 21 (by omega) (by omega) kd29_21.2.2.1 (by decide) (fun c30 => ?_) (fun c30 => ?_)
    · refine X_iconst hK kd29_21.2.2.2.2.2.1 ?_
      refine X_istore hK (i := 4) [(4, .int (iI 0)), (3, .int (iI z5)), (0, .ref a0), (1, .ref a1), (2, .int (iI x2))] kd29_21.2.2.2.2.2.2.1 (by decide) rfl ?_
      refine X_iload hK (i := 4) 0 kd29_21.2.2.2.2.2.2.2.1 rfl ?_
      refine X_if_ne hK 49 (by omega) kd29_21.2.2.2.2.2.2.2.2.1 (by decide) (fun c31 => False.elim (by omega)) (fun c31 => ?_)
      refine X_iloadn hK (i := 3) 1 kd29_21.2.2.2.2.2.2.2.2.2.1 rfl rfl ?_
      refine X_bipush hK kd29_21.2.2.2.2.2.2.2.2.2.2.1 (by decide) ?_
      refine X_icmp_eq hK 49 (by omega) (by omega) kd29_21.2.2.2.2.2.2.2.2.2.2.2 (by decide) (fun c32 => False.elim (by omega)) (fun c32 => ?_)
      refine X_iloadn hK (i := 3) 1 kd29_22.1 rfl rfl ?_
      refine X_bipush hK kd29_22.2.1 (by decide) ?_
      refine X_icmp_eq hK 49 (by omega) (by omega) kd29_22.2.2.1 (by decide) (fun c33 => ?_) (fun c33 => ?_)
      · refine X_aloadn hK (i := 0) 2 kd29_22.2.2.2.2.2.2.2.1 rfl rfl ?_
        refine X_geti hK fl_X7_22_8 hs_a0 sl_8_3 kd29_22.2.2.2.2.2.2.2.2.1 (fun z34 ez34 lz34 uz34 => ?_)
        refine X_bipush hK kd29_22.2.2.2.2.2.2.2.2.2.1 (by decide) ?_
        refine X_icmp_ge hK 64 (by omega) (by omega) kd29_22.2.2.2.2.2.2.2.2.2.2.1 (by decide) (fun c35 => ?_) (fun c35 => ?_)
        · refine X_aloadn hK (i := 0) 2 kd29_23.2.2.1 rfl rfl ?_
          refine X_iconst hK kd29_23.2.2.2.1 ?_
          refine X_callV hK [.int (iI 4)] [] lk_X7_60 (c_X7_tell _ _ _ _ _ S g a0 4 hs_a0 (by omega)) hs_a0 ⟨by decide, rfl⟩ kd29_23.2.2.2.2.1 rfl rfl (by simp [Value.category]) (by decide) (by decide) (by decide) (by decide) (fun r36 S38 g37 pr36 qr36 hg37 => ?_)
          obtain ⟨rfl, rfl⟩ := pr36
          refine X_st [] rfl ?_
          refine X_goto hK 148 kd29_23.2.2.2.2.2.1 (by decide) ?_
          exact hret _ _ _ _ _ _ kd29_27.2.2.2 ⟨rfl, rfl⟩ (Nat.le_refl _) (Nat.le_refl _)
        · refine X_iloadn hK (i := 2) 4 kd29_22.2.2.2.2.2.2.2.2.2.2.2 rfl rfl ?_
          refine X_bipush hK kd29_23.1 (by decide) ?_
          refine X_icmp_le hK 72 (by omega) (by omega) kd29_23.2.1 (by decide) (fun c39 => ?_) (fun c39 => False.elim (by omega))
          refine X_aloadn hK (i := 0) 2 kd29_23.2.2.2.2.2.2.1 rfl rfl ?_
          refine X_dup hK kd29_23.2.2.2.2.2.2.2.1 rfl ?_
          refine X_getK hK fl_X7_22_8 hs_a0 ez34 kd29_23.2.2.2.2.2.2.2.2.1 ?_
          refine X_iconst hK kd29_23.2.2.2.2.2.2.2.2.2.1 ?_
          refine X_iadd hK kd29_23.2.2.2.2.2.2.2.2.2.2.1 ?_
          refine X_puti hK fl_X7_22_8 hs_a0 (by decide) sl_8_3 (by omega) (by omega) kd29_23.2.2.2.2.2.2.2.2.2.2.2 (fun g40 hg40 => ?_)
          refine X_aloadn hK (i := 0) 2 kd29_24.1 rfl rfl ?_
          refine X_dup hK kd29_24.2.1 rfl ?_
          refine X_getK hK fl_X7_18_8 hs_a0 ((xs_k hg40 (by decide)).trans ez1) kd29_24.2.2.1 ?_
          refine X_iconst hK kd29_24.2.2.2.1 ?_
          refine X_iadd hK kd29_24.2.2.2.2.1 ?_
          refine X_puti hK fl_X7_18_8 hs_a0 (by decide) sl_8_2 (by omega) (by omega) kd29_24.2.2.2.2.2.1 (fun g41 hg41 => ?_)
          refine X_iload hK (i := 4) 0 kd29_24.2.2.2.2.2.2.1 rfl ?_
          refine X_if_eq hK 109 (by omega) kd29_24.2.2.2.2.2.2.2.1 (by decide) (fun c42 => ?_) (fun c42 => False.elim (by omega))
          refine X_iloadn hK (i := 3) 1 kd29_25.2.2.2.1 rfl rfl ?_
          refine X_bipush hK kd29_25.2.2.2.2.1 (by decide) ?_
          refine X_icmp_ne hK 132 (by omega) (by omega) kd29_25.2.2.2.2.2.1 (by decide) (fun c43 => False.elim (by omega)) (fun c43 => ?_)
          refine X_aloadn hK (i := 0) 2 kd29_25.2.2.2.2.2.2.1 rfl rfl ?_
          refine X_aloadn hK (i := 1) 3 kd29_25.2.2.2.2.2.2.2.1 rfl rfl ?_
          refine X_iloadn hK (i := 2) 4 kd29_25.2.2.2.2.2.2.2.2.1 rfl rfl ?_
          refine X_iconst hK kd29_25.2.2.2.2.2.2.2.2.2.1 ?_
          refine X_iadd hK kd29_25.2.2.2.2.2.2.2.2.2.2.1 ?_
          refine X_callV hK [.ref a1, .int (iI (x2 + 1))] [] lk_X7_115 (c_X7_readCond_11 _ _ _ _ _ S g41 a0 a1 (x2 + 1) hs_a0 hs_a1 (by omega)) hs_a0 ⟨by decide, rfl⟩ kd29_25.2.2.2.2.2.2.2.2.2.2.2 rfl rfl (by simp [Value.category]) (by decide) (by decide) (by decide) (by decide) (fun r44 S46 g45 pr44 qr44 hg45 => ?_)
          obtain ⟨rfl, rfl⟩ := pr44
          refine X_st [] rfl ?_
          refine X_aloadn hK (i := 0) 2 kd29_26.1 rfl rfl ?_
          refine X_bipush hK kd29_26.2.1 (by decide) ?_
          refine X_callV hK [.int (iI 26)] [] lk_X7_119 (c_X7_expect _ _ _ _ _ S g45 a0 26 hs_a0 (by omega)) hs_a0 ⟨by decide, rfl⟩ kd29_26.2.2.1 rfl rfl (by simp [Value.category]) (by decide) (by decide) (by decide) (by decide) (fun r47 S49 g48 pr47 qr47 hg48 => ?_)
          obtain ⟨rfl, rfl⟩ := pr47
          refine X_st [] rfl ?_
          refine X_goto hK 148 kd29_26.2.2.2.1 (by decide) ?_
          exact hret _ _ _ _ _ _ kd29_27.2.2.2 ⟨rfl, rfl⟩ (Nat.le_refl _) (Nat.le_refl _)
      · refine X_aloadn hK (i := 0) 2 kd29_22.2.2.2.1 rfl rfl ?_
        refine X_iconst hK kd29_22.2.2.2.2.1 ?_
        refine X_callV hK [.int (iI 1)] [] lk_X7_60 (c_X7_tell _ _ _ _ _ S g a0 1 hs_a0 (by omega)) hs_a0 ⟨by decide, rfl⟩ kd29_22.2.2.2.2.2.1 rfl rfl (by simp [Value.category]) (by decide) (by decide) (by decide) (by decide) (fun r50 S52 g51 pr50 qr50 hg51 => ?_)
        obtain ⟨rfl, rfl⟩ := pr50
        refine X_st [] rfl ?_
        refine X_goto hK 148 kd29_22.2.2.2.2.2.2.1 (by decide) ?_
        exact hret _ _ _ _ _ _ kd29_27.2.2.2 ⟨rfl, rfl⟩ (Nat.le_refl _) (Nat.le_refl _)
    · refine X_iconst hK kd29_21.2.2.2.1 ?_
      refine X_goto hK 22 kd29_21.2.2.2.2.1 (by decide) ?_
      refine X_istore hK (i := 4) [(4, .int (iI 1)), (3, .int (iI z5)), (0, .ref a0), (1, .ref a1), (2, .int (iI x2))] kd29_21.2.2.2.2.2.2.1 (by decide) rfl ?_
      refine X_iload hK (i := 4) 0 kd29_21.2.2.2.2.2.2.2.1 rfl ?_
      refine X_if_ne hK 49 (by omega) kd29_21.2.2.2.2.2.2.2.2.1 (by decide) (fun c53 => ?_) (fun c53 => False.elim (by omega))
      refine X_aloadn hK (i := 0) 2 kd29_22.2.2.2.2.2.2.2.1 rfl rfl ?_
      refine X_geti hK fl_X7_22_8 hs_a0 sl_8_3 kd29_22.2.2.2.2.2.2.2.2.1 (fun z54 ez54 lz54 uz54 => ?_)
      refine X_bipush hK kd29_22.2.2.2.2.2.2.2.2.2.1 (by decide) ?_
      refine X_icmp_ge hK 64 (by omega) (by omega) kd29_22.2.2.2.2.2.2.2.2.2.2.1 (by decide) (fun c55 => ?_) (fun c55 => ?_)
      · refine X_aloadn hK (i := 0) 2 kd29_23.2.2.1 rfl rfl ?_
        refine X_iconst hK kd29_23.2.2.2.1 ?_
        refine X_callV hK [.int (iI 4)] [] lk_X7_60 (c_X7_tell _ _ _ _ _ S g a0 4 hs_a0 (by omega)) hs_a0 ⟨by decide, rfl⟩ kd29_23.2.2.2.2.1 rfl rfl (by simp [Value.category]) (by decide) (by decide) (by decide) (by decide) (fun r56 S58 g57 pr56 qr56 hg57 => ?_)
        obtain ⟨rfl, rfl⟩ := pr56
        refine X_st [] rfl ?_
        refine X_goto hK 148 kd29_23.2.2.2.2.2.1 (by decide) ?_
        exact hret _ _ _ _ _ _ kd29_27.2.2.2 ⟨rfl, rfl⟩ (Nat.le_refl _) (Nat.le_refl _)
      · refine X_iloadn hK (i := 2) 4 kd29_22.2.2.2.2.2.2.2.2.2.2.2 rfl rfl ?_
        refine X_bipush hK kd29_23.1 (by decide) ?_
        refine X_icmp_le hK 72 (by omega) (by omega) kd29_23.2.1 (by decide) (fun c59 => ?_) (fun c59 => False.elim (by omega))
        refine X_aloadn hK (i := 0) 2 kd29_23.2.2.2.2.2.2.1 rfl rfl ?_
        refine X_dup hK kd29_23.2.2.2.2.2.2.2.1 rfl ?_
        refine X_getK hK fl_X7_22_8 hs_a0 ez54 kd29_23.2.2.2.2.2.2.2.2.1 ?_
        refine X_iconst hK kd29_23.2.2.2.2.2.2.2.2.2.1 ?_
        refine X_iadd hK kd29_23.2.2.2.2.2.2.2.2.2.2.1 ?_
        refine X_puti hK fl_X7_22_8 hs_a0 (by decide) sl_8_3 (by omega) (by omega) kd29_23.2.2.2.2.2.2.2.2.2.2.2 (fun g60 hg60 => ?_)
        refine X_aloadn hK (i := 0) 2 kd29_24.1 rfl rfl ?_
        refine X_dup hK kd29_24.2.1 rfl ?_
        refine X_getK hK fl_X7_18_8 hs_a0 ((xs_k hg60 (by decide)).trans ez1) kd29_24.2.2.1 ?_
        refine X_iconst hK kd29_24.2.2.2.1 ?_
        refine X_iadd hK kd29_24.2.2.2.2.1 ?_
        refine X_puti hK fl_X7_18_8 hs_a0 (by decide) sl_8_2 (by omega) (by omega) kd29_24.2.2.2.2.2.1 (fun g61 hg61 => ?_)
        refine X_iload hK (i := 4) 0 kd29_24.2.2.2.2.2.2.1 rfl ?_
        refine X_if_eq hK 109 (by omega) kd29_24.2.2.2.2.2.2.2.1 (by decide) (fun c62 => False.elim (by omega)) (fun c62 => ?_)
        refine X_aloadn hK (i := 0) 2 kd29_24.2.2.2.2.2.2.2.2.1 rfl rfl ?_
        refine X_aloadn hK (i := 1) 3 kd29_24.2.2.2.2.2.2.2.2.2.1 rfl rfl ?_
        refine X_iloadn hK (i := 3) 1 kd29_24.2.2.2.2.2.2.2.2.2.2.1 rfl rfl ?_
        refine X_bipush hK kd29_24.2.2.2.2.2.2.2.2.2.2.2 (by decide) ?_
        refine X_isub hK kd29_25.1 ?_
        refine X_callV hK [.ref a1, .int (iI (z5 - 10))] [] lk_X7_135 (c_X7_readFact _ _ _ _ _ S g61 a0 a1 (z5 - 10) hs_a0 hs_a1 (by omega)) hs_a0 ⟨by decide, rfl⟩ kd29_25.2.1 rfl rfl (by simp [Value.category]) (by decide) (by decide) (by decide) (by decide) (fun r63 S65 g64 pr63 qr63 hg64 => ?_)
        obtain ⟨rfl, rfl⟩ := pr63
        refine X_st [] rfl ?_
        refine X_goto hK 148 kd29_25.2.2.1 (by decide) ?_
        exact hret _ _ _ _ _ _ kd29_27.2.2.2 ⟨rfl, rfl⟩ (Nat.le_refl _) (Nat.le_refl _)

set_option maxHeartbeats 4000000 in
set_option maxRecDepth 100000 in
theorem c_X7_readAll_10 (l : Launch) (D : va_G) (kA : Nat → ClassId) (b0 : Nat) (t0 : Nat → Nat) (S : xT) (g : xG) (a0 : Nat) (a1 : Nat) (x2 : Int) (hs_a0 : S a0 = some (8, 0)) (hs_a1 : S a1 = some (11, 0)) (hx2 : 10 ≤ x2 ∧ x2 ≤ 10) : xMt l yX7_readAll cX7_readAll 4 none 5 0 0 115 D kA b0 t0 [(8, 5), (8, 6), (8, 3), (8, 2), (14000, 0), (11, 2)] [.ref a0, .ref a1, .int (iI x2)] S g (fun (r : Option Value) (S1 : xT) (g1 : xG) => S = S1 ∧ r = none) := by
  refine xEnterV (by decide) (by simp [lg_sl, Value.category]) [(0, .ref a0), (1, .ref a1), (2, .int (iI x2))] rfl ?_
  intro K E hK hret _ _ _
  refine X_aloadn hK (i := 0) 0 kd29_0.1 rfl rfl ?_
  refine X_aloadn hK (i := 1) 1 kd29_0.2.1 rfl rfl ?_
  refine X_iloadn hK (i := 2) 2 kd29_0.2.2.1 rfl rfl ?_
  refine X_callV hK [.ref a1, .int (iI x2)] [] lk_X7_132 (c_X7_readOne_10 _ _ _ _ _ S g a0 a1 x2 hs_a0 hs_a1 (by omega)) hs_a0 ⟨by decide, rfl⟩ kd29_0.2.2.2.1 rfl rfl (by simp [Value.category]) (by decide) (by decide) (by decide) (by decide) (fun r1 S3 g2 pr1 qr1 hg2 => ?_)
  obtain ⟨rfl, rfl⟩ := pr1
  refine X_st [] rfl ?_
  refine X_iconst hK kd29_0.2.2.2.2.1 ?_
  refine X_istoren hK (i := 3) [(3, .int (iI 0)), (0, .ref a0), (1, .ref a1), (2, .int (iI x2))] kd29_0.2.2.2.2.2.1 rfl (by decide) rfl ?_
  have P117 : ∀ (nP117 : Nat) (g99 : xG) (_ : xM [(14000, 0), (11, 2), (8, 5), (8, 6), (8, 3), (8, 2)] S g2 g99) (z98 : Int) (_ : 0 ≤ z98) (_ : z98 ≤ 50) (_ : 66 - z98 < (nP117 : Int)), X K E 8 [(3, .int (iI z98)), (0, .ref a0), (1, .ref a1), (2, .int (iI x2))] [] S g99 0 0 := by
    intro nP117
    induction nP117 with
    | zero => intro g99 hg99 z98 lz98 uz98 mP117; exact False.elim (by omega)
    | succ nP117 ihP117 =>
      intro g99 hg99 z98 lz98 uz98 mP117
      refine X_iloadn hK (i := 3) 0 kd29_0.2.2.2.2.2.2.1 rfl rfl ?_
      refine X_bipush hK kd29_0.2.2.2.2.2.2.2.1 (by decide) ?_
      refine X_icmp_ge hK 60 (by omega) (by omega) kd29_0.2.2.2.2.2.2.2.2.1 (by decide) (fun c118 => ?_) (fun c118 => ?_)
      · exact hret _ _ _ _ _ _ kd29_2.2.2.2.2.2.2.2.2.2.1 ⟨rfl, rfl⟩ (Nat.le_refl _) (Nat.le_refl _)
      · refine X_aloadn hK (i := 0) 1 kd29_0.2.2.2.2.2.2.2.2.2.1 rfl rfl ?_
        refine X_geti hK fl_X7_29_8 hs_a0 sl_8_5 kd29_0.2.2.2.2.2.2.2.2.2.2.1 (fun z119 ez119 lz119 uz119 => ?_)
        refine X_if_ne hK 60 (by omega) kd29_0.2.2.2.2.2.2.2.2.2.2.2 (by decide) (fun c120 => ?_) (fun c120 => ?_)
        · exact hret _ _ _ _ _ _ kd29_2.2.2.2.2.2.2.2.2.2.1 ⟨rfl, rfl⟩ (Nat.le_refl _) (Nat.le_refl _)
        · refine X_aloadn hK (i := 0) 1 kd29_1.1 rfl rfl ?_
          refine X_know hs_a0 (by decide) sl_8_2 (fun z121 ez121 lz121 uz121 => ?_)
          refine X_callV hK [] [] lk_X7_47 (c_X7_now _ _ _ _ _ S g99 a0 z121 hs_a0 (by omega) ez121) hs_a0 ⟨by decide, rfl⟩ kd29_1.2.1 rfl rfl (by simp [Value.category]) (by decide) (by decide) (by decide) (by decide) (fun r122 S124 g123 pr122 qr122 hg123 => ?_)
          obtain ⟨rfl, rfl, z125, rfl, lz125, uz125, k126⟩ := pr122
          refine X_st [.int (iI z125)] rfl ?_
          refine X_bipush hK kd29_1.2.2.1 (by decide) ?_
          refine X_icmp_ne hK 60 (by omega) (by omega) kd29_1.2.2.2.1 (by decide) (fun c127 => ?_) (fun c127 => ?_)
          · exact hret _ _ _ _ _ _ kd29_2.2.2.2.2.2.2.2.2.2.1 ⟨rfl, rfl⟩ (Nat.le_refl _) (Nat.le_refl _)
          · refine X_aloadn hK (i := 0) 1 kd29_1.2.2.2.2.1 rfl rfl ?_
            refine X_dup hK kd29_1.2.2.2.2.2.1 rfl ?_
            refine X_getK hK fl_X7_18_8 hs_a0 ez121 kd29_1.2.2.2.2.2.2.1 ?_
            refine X_iconst hK kd29_1.2.2.2.2.2.2.2.1 ?_
            refine X_iadd hK kd29_1.2.2.2.2.2.2.2.2.1 ?_
            refine X_puti hK fl_X7_18_8 hs_a0 (by decide) sl_8_2 (by omega) (by omega) kd29_1.2.2.2.2.2.2.2.2.2.1 (fun g128 hg128 => ?_)
            refine X_aloadn hK (i := 0) 1 kd29_1.2.2.2.2.2.2.2.2.2.2.1 rfl rfl ?_
            refine X_aloadn hK (i := 1) 2 kd29_1.2.2.2.2.2.2.2.2.2.2.2 rfl rfl ?_
            refine X_iloadn hK (i := 2) 3 kd29_2.1 rfl rfl ?_
            refine X_callV hK [.ref a1, .int (iI x2)] [] lk_X7_132 (c_X7_readOne_10 _ _ _ _ _ S g128 a0 a1 x2 hs_a0 hs_a1 (by omega)) hs_a0 ⟨by decide, rfl⟩ kd29_2.2.1 rfl rfl (by simp [Value.category]) (by decide) (by decide) (by decide) (by decide) (fun r129 S131 g130 pr129 qr129 hg130 => ?_)
            obtain ⟨rfl, rfl⟩ := pr129
            refine X_st [] rfl ?_
            refine X_aloadn hK (i := 1) 2 kd29_2.2.2.1 rfl rfl ?_
            refine X_bipush hK kd29_2.2.2.2.1 (by decide) ?_
            refine X_iconst hK kd29_2.2.2.2.2.1 ?_
            refine X_iconst hK kd29_2.2.2.2.2.2.1 ?_
            refine X_callV hK [.int (iI 13), .int (iI 0), .int (iI 0)] [] lk_X7_129 (c_X10_addStep _ _ _ _ _ S g130 a1 13 0 0 hs_a1 (by omega) (by omega) (by omega)) hs_a1 ⟨by decide, rfl⟩ kd29_2.2.2.2.2.2.2.1 rfl rfl (by simp [Value.category]) (by decide) (by decide) (by decide) (by decide) (fun r132 S134 g133 pr132 qr132 hg133 => ?_)
            obtain ⟨rfl, rfl⟩ := pr132
            refine X_st [] rfl ?_
            refine X_iinc hK (i := 3) (z := z98) (n := 1) 0 [(3, .int (iI (z98 + 1))), (0, .ref a0), (1, .ref a1), (2, .int (iI x2))] kd29_2.2.2.2.2.2.2.2.1 rfl (by decide) rfl ?_
            refine X_goto hK 8 kd29_2.2.2.2.2.2.2.2.2.1 (by decide) ?_
            exact ihP117  g133 (xM.tr (xM.tr (xM_up (xM.tr xM.rf xLe.rf hg99 (by decide)) hg128 hs_a0 (by decide) (by decide)) xLe.rf hg130 (by decide)) xLe.rf hg133 (by decide)) (z98 + 1) (by omega) (by omega) (by omega)
  exact P117 ((66 - 0 : Int).toNat + 1) g2 xM.rf 0 (by omega) (by omega) (by omega)

set_option maxHeartbeats 4000000 in
set_option maxRecDepth 100000 in
theorem c_X7_readCond_10 (l : Launch) (D : va_G) (kA : Nat → ClassId) (b0 : Nat) (t0 : Nat → Nat) (S : xT) (g : xG) (a0 : Nat) (a1 : Nat) (x2 : Int) (hs_a0 : S a0 = some (8, 0)) (hs_a1 : S a1 = some (11, 0)) (hx2 : 10 ≤ x2 ∧ x2 ≤ 10) : xMt l yX7_readCond cX7_readCond 4 none 6 0 0 138 D kA b0 t0 [(8, 5), (8, 6), (8, 3), (8, 2), (14000, 0), (11, 2)] [.ref a0, .ref a1, .int (iI x2)] S g (fun (r : Option Value) (S1 : xT) (g1 : xG) => S = S1 ∧ r = none) := by
  refine xEnterV (by decide) (by simp [lg_sl, Value.category]) [(0, .ref a0), (1, .ref a1), (2, .int (iI x2))] rfl ?_
  intro K E hK hret _ _ _
  refine X_aloadn hK (i := 0) 0 kd29_2.2.2.2.2.2.2.2.2.2.2.1 rfl rfl ?_
  refine X_aloadn hK (i := 1) 1 kd29_2.2.2.2.2.2.2.2.2.2.2.2 rfl rfl ?_
  refine X_iloadn hK (i := 2) 2 kd29_3.1 rfl rfl ?_
  refine X_callV hK [.ref a1, .int (iI x2)] [] lk_X7_126 (c_X7_readAll_10 _ _ _ _ _ S g a0 a1 x2 hs_a0 hs_a1 (by omega)) hs_a0 ⟨by decide, rfl⟩ kd29_3.2.1 rfl rfl (by simp [Value.category]) (by decide) (by decide) (by decide) (by decide) (fun r1 S3 g2 pr1 qr1 hg2 => ?_)
  obtain ⟨rfl, rfl⟩ := pr1
  refine X_st [] rfl ?_
  refine X_iconst hK kd29_3.2.2.1 ?_
  refine X_istoren hK (i := 3) [(3, .int (iI 0)), (0, .ref a0), (1, .ref a1), (2, .int (iI x2))] kd29_3.2.2.2.1 rfl (by decide) rfl ?_
  have P117 : ∀ (nP117 : Nat) (g99 : xG) (_ : xM [(14000, 0), (11, 2), (8, 5), (8, 6), (8, 3), (8, 2)] S g2 g99) (z98 : Int) (_ : 0 ≤ z98) (_ : z98 ≤ 50) (_ : 66 - z98 < (nP117 : Int)), X K E 8 [(3, .int (iI z98)), (0, .ref a0), (1, .ref a1), (2, .int (iI x2))] [] S g99 0 0 := by
    intro nP117
    induction nP117 with
    | zero => intro g99 hg99 z98 lz98 uz98 mP117; exact False.elim (by omega)
    | succ nP117 ihP117 =>
      intro g99 hg99 z98 lz98 uz98 mP117
      refine X_iloadn hK (i := 3) 0 kd29_3.2.2.2.2.1 rfl rfl ?_
      refine X_bipush hK kd29_3.2.2.2.2.2.1 (by decide) ?_
      refine X_icmp_ge hK 60 (by omega) (by omega) kd29_3.2.2.2.2.2.2.1 (by decide) (fun c118 => ?_) (fun c118 => ?_)
      · exact hret _ _ _ _ _ _ kd29_5.2.2.2.2.2.2.2.1 ⟨rfl, rfl⟩ (Nat.le_refl _) (Nat.le_refl _)
      · refine X_aloadn hK (i := 0) 1 kd29_3.2.2.2.2.2.2.2.1 rfl rfl ?_
        refine X_geti hK fl_X7_29_8 hs_a0 sl_8_5 kd29_3.2.2.2.2.2.2.2.2.1 (fun z119 ez119 lz119 uz119 => ?_)
        refine X_if_ne hK 60 (by omega) kd29_3.2.2.2.2.2.2.2.2.2.1 (by decide) (fun c120 => ?_) (fun c120 => ?_)
        · exact hret _ _ _ _ _ _ kd29_5.2.2.2.2.2.2.2.1 ⟨rfl, rfl⟩ (Nat.le_refl _) (Nat.le_refl _)
        · refine X_aloadn hK (i := 0) 1 kd29_3.2.2.2.2.2.2.2.2.2.2.1 rfl rfl ?_
          refine X_know hs_a0 (by decide) sl_8_2 (fun z121 ez121 lz121 uz121 => ?_)
          refine X_callV hK [] [] lk_X7_47 (c_X7_now _ _ _ _ _ S g99 a0 z121 hs_a0 (by omega) ez121) hs_a0 ⟨by decide, rfl⟩ kd29_3.2.2.2.2.2.2.2.2.2.2.2 rfl rfl (by simp [Value.category]) (by decide) (by decide) (by decide) (by decide) (fun r122 S124 g123 pr122 qr122 hg123 => ?_)
          obtain ⟨rfl, rfl, z125, rfl, lz125, uz125, k126⟩ := pr122
          refine X_st [.int (iI z125)] rfl ?_
          refine X_bipush hK kd29_4.1 (by decide) ?_
          refine X_icmp_ne hK 60 (by omega) (by omega) kd29_4.2.1 (by decide) (fun c127 => ?_) (fun c127 => ?_)
          · exact hret _ _ _ _ _ _ kd29_5.2.2.2.2.2.2.2.1 ⟨rfl, rfl⟩ (Nat.le_refl _) (Nat.le_refl _)
          · refine X_aloadn hK (i := 0) 1 kd29_4.2.2.1 rfl rfl ?_
            refine X_dup hK kd29_4.2.2.2.1 rfl ?_
            refine X_getK hK fl_X7_18_8 hs_a0 ez121 kd29_4.2.2.2.2.1 ?_
            refine X_iconst hK kd29_4.2.2.2.2.2.1 ?_
            refine X_iadd hK kd29_4.2.2.2.2.2.2.1 ?_
            refine X_puti hK fl_X7_18_8 hs_a0 (by decide) sl_8_2 (by omega) (by omega) kd29_4.2.2.2.2.2.2.2.1 (fun g128 hg128 => ?_)
            refine X_aloadn hK (i := 0) 1 kd29_4.2.2.2.2.2.2.2.2.1 rfl rfl ?_
            refine X_aloadn hK (i := 1) 2 kd29_4.2.2.2.2.2.2.2.2.2.1 rfl rfl ?_
            refine X_iloadn hK (i := 2) 3 kd29_4.2.2.2.2.2.2.2.2.2.2.1 rfl rfl ?_
            refine X_callV hK [.ref a1, .int (iI x2)] [] lk_X7_126 (c_X7_readAll_10 _ _ _ _ _ S g128 a0 a1 x2 hs_a0 hs_a1 (by omega)) hs_a0 ⟨by decide, rfl⟩ kd29_4.2.2.2.2.2.2.2.2.2.2.2 rfl rfl (by simp [Value.category]) (by decide) (by decide) (by decide) (by decide) (fun r129 S131 g130 pr129 qr129 hg130 => ?_)
            obtain ⟨rfl, rfl⟩ := pr129
            refine X_st [] rfl ?_
            refine X_aloadn hK (i := 1) 2 kd29_5.1 rfl rfl ?_
            refine X_bipush hK kd29_5.2.1 (by decide) ?_
            refine X_iconst hK kd29_5.2.2.1 ?_
            refine X_iconst hK kd29_5.2.2.2.1 ?_
            refine X_callV hK [.int (iI 14), .int (iI 0), .int (iI 0)] [] lk_X7_129 (c_X10_addStep _ _ _ _ _ S g130 a1 14 0 0 hs_a1 (by omega) (by omega) (by omega)) hs_a1 ⟨by decide, rfl⟩ kd29_5.2.2.2.2.1 rfl rfl (by simp [Value.category]) (by decide) (by decide) (by decide) (by decide) (fun r132 S134 g133 pr132 qr132 hg133 => ?_)
            obtain ⟨rfl, rfl⟩ := pr132
            refine X_st [] rfl ?_
            refine X_iinc hK (i := 3) (z := z98) (n := 1) 0 [(3, .int (iI (z98 + 1))), (0, .ref a0), (1, .ref a1), (2, .int (iI x2))] kd29_5.2.2.2.2.2.1 rfl (by decide) rfl ?_
            refine X_goto hK 8 kd29_5.2.2.2.2.2.2.1 (by decide) ?_
            exact ihP117  g133 (xM.tr (xM.tr (xM_up (xM.tr xM.rf xLe.rf hg99 (by decide)) hg128 hs_a0 (by decide) (by decide)) xLe.rf hg130 (by decide)) xLe.rf hg133 (by decide)) (z98 + 1) (by omega) (by omega) (by omega)
  exact P117 ((66 - 0 : Int).toNat + 1) g2 xM.rf 0 (by omega) (by omega) (by omega)

set_option maxHeartbeats 4000000 in
set_option maxRecDepth 100000 in
theorem c_X7_readOne_9 (l : Launch) (D : va_G) (kA : Nat → ClassId) (b0 : Nat) (t0 : Nat → Nat) (S : xT) (g : xG) (a0 : Nat) (a1 : Nat) (x2 : Int) (hs_a0 : S a0 = some (8, 0)) (hs_a1 : S a1 = some (11, 0)) (hx2 : 9 ≤ x2 ∧ x2 ≤ 9) : xMt l yX7_readOne cX7_readOne 5 none 7 0 0 161 D kA b0 t0 [(8, 5), (8, 6), (8, 3), (8, 2), (14000, 0), (11, 2)] [.ref a0, .ref a1, .int (iI x2)] S g (fun (r : Option Value) (S1 : xT) (g1 : xG) => S = S1 ∧ r = none) := by
  refine xEnterV (by decide) (by simp [lg_sl, Value.category]) [(0, .ref a0), (1, .ref a1), (2, .int (iI x2))] rfl ?_
  intro K E hK hret _ _ _
  refine X_aloadn hK (i := 0) 0 kd29_20.2.2.2.2.2.2.1 rfl rfl ?_
  refine X_know hs_a0 (by decide) sl_8_2 (fun z1 ez1 lz1 uz1 => ?_)
  refine X_callV hK [] [] lk_X7_47 (c_X7_now _ _ _ _ _ S g a0 z1 hs_a0 (by omega) ez1) hs_a0 ⟨by decide, rfl⟩ kd29_20.2.2.2.2.2.2.2.1 rfl rfl (by simp [Value.category]) (by decide) (by decide) (by decide) (by decide) (fun r2 S4 g3 pr2 qr2 hg3 => ?_)
  obtain ⟨rfl, rfl, z5, rfl, lz5, uz5, k6⟩ := pr2
  refine X_st [.int (iI z5)] rfl ?_
  refine X_istoren hK (i := 3) [(3, .int (iI z5)), (0, .ref a0), (1, .ref a1), (2, .int (iI x2))] kd29_20.2.2.2.2.2.2.2.2.1 rfl (by decide) rfl ?_
  refine X_iloadn hK (i := 3) 0 kd29_20.2.2.2.2.2.2.2.2.2.1 rfl rfl ?_
  refine X_bipush hK kd29_20.2.2.2.2.2.2.2.2.2.2.1 (by decide) ?_
  refine X_icmp_lt hK 21 (by omega) (by omega) kd29_20.2.2.2.2.2.2.2.2.2.2.2 (by decide) (fun c7 => ?_) (fun c7 => ?_)
  · refine X_iconst hK kd29_21.2.2.2.2.2.1 ?_
    refine X_istore hK (i := 4) [(4, .int (iI 0)), (3, .int (iI z5)), (0, .ref a0), (1, .ref a1), (2, .int (iI x2))] kd29_21.2.2.2.2.2.2.1 (by decide) rfl ?_
    refine X_iload hK (i := 4) 0 kd29_21.2.2.2.2.2.2.2.1 rfl ?_
    refine X_if_ne hK 49 (by omega) kd29_21.2.2.2.2.2.2.2.2.1 (by decide) (fun c8 => False.elim (by omega)) (fun c8 => ?_)
    refine X_iloadn hK (i := 3) 1 kd29_21.2.2.2.2.2.2.2.2.2.1 rfl rfl ?_
    refine X_bipush hK kd29_21.2.2.2.2.2.2.2.2.2.2.1 (by decide) ?_
    refine X_icmp_eq hK 49 (by omega) (by omega) kd29_21.2.2.2.2.2.2.2.2.2.2.2 (by decide) (fun c9 => ?_) (fun c9 => ?_)
    · refine X_aloadn hK (i := 0) 2 kd29_22.2.2.2.2.2.2.2.1 rfl rfl ?_
      refine X_geti hK fl_X7_22_8 hs_a0 sl_8_3 kd29_22.2.2.2.2.2.2.2.2.1 (fun z10 ez10 lz10 uz10 => ?_)
      refine X_bipush hK kd29_22.2.2.2.2.2.2.2.2.2.1 (by decide) ?_
      refine X_icmp_ge hK 64 (by omega) (by omega) kd29_22.2.2.2.2.2.2.2.2.2.2.1 (by decide) (fun c11 => ?_) (fun c11 => ?_)
      · refine X_aloadn hK (i := 0) 2 kd29_23.2.2.1 rfl rfl ?_
        refine X_iconst hK kd29_23.2.2.2.1 ?_
        refine X_callV hK [.int (iI 4)] [] lk_X7_60 (c_X7_tell _ _ _ _ _ S g a0 4 hs_a0 (by omega)) hs_a0 ⟨by decide, rfl⟩ kd29_23.2.2.2.2.1 rfl rfl (by simp [Value.category]) (by decide) (by decide) (by decide) (by decide) (fun r12 S14 g13 pr12 qr12 hg13 => ?_)
        obtain ⟨rfl, rfl⟩ := pr12
        refine X_st [] rfl ?_
        refine X_goto hK 148 kd29_23.2.2.2.2.2.1 (by decide) ?_
        exact hret _ _ _ _ _ _ kd29_27.2.2.2 ⟨rfl, rfl⟩ (Nat.le_refl _) (Nat.le_refl _)
      · refine X_iloadn hK (i := 2) 4 kd29_22.2.2.2.2.2.2.2.2.2.2.2 rfl rfl ?_
        refine X_bipush hK kd29_23.1 (by decide) ?_
        refine X_icmp_le hK 72 (by omega) (by omega) kd29_23.2.1 (by decide) (fun c15 => ?_) (fun c15 => False.elim (by omega))
        refine X_aloadn hK (i := 0) 2 kd29_23.2.2.2.2.2.2.1 rfl rfl ?_
        refine X_dup hK kd29_23.2.2.2.2.2.2.2.1 rfl ?_
        refine X_getK hK fl_X7_22_8 hs_a0 ez10 kd29_23.2.2.2.2.2.2.2.2.1 ?_
        refine X_iconst hK kd29_23.2.2.2.2.2.2.2.2.2.1 ?_
        refine X_iadd hK kd29_23.2.2.2.2.2.2.2.2.2.2.1 ?_
        refine X_puti hK fl_X7_22_8 hs_a0 (by decide) sl_8_3 (by omega) (by omega) kd29_23.2.2.2.2.2.2.2.2.2.2.2 (fun g16 hg16 => ?_)
        refine X_aloadn hK (i := 0) 2 kd29_24.1 rfl rfl ?_
        refine X_dup hK kd29_24.2.1 rfl ?_
        refine X_getK hK fl_X7_18_8 hs_a0 ((xs_k hg16 (by decide)).trans ez1) kd29_24.2.2.1 ?_
        refine X_iconst hK kd29_24.2.2.2.1 ?_
        refine X_iadd hK kd29_24.2.2.2.2.1 ?_
        refine X_puti hK fl_X7_18_8 hs_a0 (by decide) sl_8_2 (by omega) (by omega) kd29_24.2.2.2.2.2.1 (fun g17 hg17 => ?_)
        refine X_iload hK (i := 4) 0 kd29_24.2.2.2.2.2.2.1 rfl ?_
        refine X_if_eq hK 109 (by omega) kd29_24.2.2.2.2.2.2.2.1 (by decide) (fun c18 => ?_) (fun c18 => False.elim (by omega))
        refine X_iloadn hK (i := 3) 1 kd29_25.2.2.2.1 rfl rfl ?_
        refine X_bipush hK kd29_25.2.2.2.2.1 (by decide) ?_
        refine X_icmp_ne hK 132 (by omega) (by omega) kd29_25.2.2.2.2.2.1 (by decide) (fun c19 => ?_) (fun c19 => False.elim (by omega))
        refine X_aloadn hK (i := 0) 2 kd29_26.2.2.2.2.1 rfl rfl ?_
        refine X_aloadn hK (i := 1) 3 kd29_26.2.2.2.2.2.1 rfl rfl ?_
        refine X_iloadn hK (i := 2) 4 kd29_26.2.2.2.2.2.2.1 rfl rfl ?_
        refine X_iconst hK kd29_26.2.2.2.2.2.2.2.1 ?_
        refine X_iadd hK kd29_26.2.2.2.2.2.2.2.2.1 ?_
        refine X_callV hK [.ref a1, .int (iI (x2 + 1))] [] lk_X7_132 (c_X7_readOne_10 _ _ _ _ _ S g17 a0 a1 (x2 + 1) hs_a0 hs_a1 (by omega)) hs_a0 ⟨by decide, rfl⟩ kd29_26.2.2.2.2.2.2.2.2.2.1 rfl rfl (by simp [Value.category]) (by decide) (by decide) (by decide) (by decide) (fun r20 S22 g21 pr20 qr20 hg21 => ?_)
        obtain ⟨rfl, rfl⟩ := pr20
        refine X_st [] rfl ?_
        refine X_aloadn hK (i := 1) 3 kd29_26.2.2.2.2.2.2.2.2.2.2.1 rfl rfl ?_
        refine X_bipush hK kd29_26.2.2.2.2.2.2.2.2.2.2.2 (by decide) ?_
        refine X_iconst hK kd29_27.1 ?_
        refine X_iconst hK kd29_27.2.1 ?_
        refine X_callV hK [.int (iI 12), .int (iI 0), .int (iI 0)] [] lk_X7_129 (c_X10_addStep _ _ _ _ _ S g21 a1 12 0 0 hs_a1 (by omega) (by omega) (by omega)) hs_a1 ⟨by decide, rfl⟩ kd29_27.2.2.1 rfl rfl (by simp [Value.category]) (by decide) (by decide) (by decide) (by decide) (fun r23 S25 g24 pr23 qr23 hg24 => ?_)
        obtain ⟨rfl, rfl⟩ := pr23
        refine X_st [] rfl ?_
        exact hret _ _ _ _ _ _ kd29_27.2.2.2 ⟨rfl, rfl⟩ (Nat.le_refl _) (Nat.le_refl _)
    · refine X_iloadn hK (i := 3) 1 kd29_22.1 rfl rfl ?_
      refine X_bipush hK kd29_22.2.1 (by decide) ?_
      refine X_icmp_eq hK 49 (by omega) (by omega) kd29_22.2.2.1 (by decide) (fun c26 => False.elim (by omega)) (fun c26 => ?_)
      refine X_aloadn hK (i := 0) 2 kd29_22.2.2.2.1 rfl rfl ?_
      refine X_iconst hK kd29_22.2.2.2.2.1 ?_
      refine X_callV hK [.int (iI 1)] [] lk_X7_60 (c_X7_tell _ _ _ _ _ S g a0 1 hs_a0 (by omega)) hs_a0 ⟨by decide, rfl⟩ kd29_22.2.2.2.2.2.1 rfl rfl (by simp [Value.category]) (by decide) (by decide) (by decide) (by decide) (fun r27 S29 g28 pr27 qr27 hg28 => ?_)
      obtain ⟨rfl, rfl⟩ := pr27
      refine X_st [] rfl ?_
      refine X_goto hK 148 kd29_22.2.2.2.2.2.2.1 (by decide) ?_
      exact hret _ _ _ _ _ _ kd29_27.2.2.2 ⟨rfl, rfl⟩ (Nat.le_refl _) (Nat.le_refl _)
  · refine X_iloadn hK (i := 3) 0 kd29_21.1 rfl rfl ?_
    refine X_bipush hK kd29_21.2.1 (by decide) ?_
    refine X_icmp_ge hK 21 (by omega) (by omega) kd29_21.2.2.1 (by decide) (fun c30 => ?_) (fun c30 => ?_)
    · refine X_iconst hK kd29_21.2.2.2.2.2.1 ?_
      refine X_istore hK (i := 4) [(4, .int (iI 0)), (3, .int (iI z5)), (0, .ref a0), (1, .ref a1), (2, .int (iI x2))] kd29_21.2.2.2.2.2.2.1 (by decide) rfl ?_
      refine X_iload hK (i := 4) 0 kd29_21.2.2.2.2.2.2.2.1 rfl ?_
      refine X_if_ne hK 49 (by omega) kd29_21.2.2.2.2.2.2.2.2.1 (by decide) (fun c31 => False.elim (by omega)) (fun c31 => ?_)
      refine X_iloadn hK (i := 3) 1 kd29_21.2.2.2.2.2.2.2.2.2.1 rfl rfl ?_
      refine X_bipush hK kd29_21.2.2.2.2.2.2.2.2.2.2.1 (by decide) ?_
      refine X_icmp_eq hK 49 (by omega) (by omega) kd29_21.2.2.2.2.2.2.2.2.2.2.2 (by decide) (fun c32 => False.elim (by omega)) (fun c32 => ?_)
      refine X_iloadn hK (i := 3) 1 kd29_22.1 rfl rfl ?_
      refine X_bipush hK kd29_22.2.1 (by decide) ?_
      refine X_icmp_eq hK 49 (by omega) (by omega) kd29_22.2.2.1 (by decide) (fun c33 => ?_) (fun c33 => ?_)
      · refine X_aloadn hK (i := 0) 2 kd29_22.2.2.2.2.2.2.2.1 rfl rfl ?_
        refine X_geti hK fl_X7_22_8 hs_a0 sl_8_3 kd29_22.2.2.2.2.2.2.2.2.1 (fun z34 ez34 lz34 uz34 => ?_)
        refine X_bipush hK kd29_22.2.2.2.2.2.2.2.2.2.1 (by decide) ?_
        refine X_icmp_ge hK 64 (by omega) (by omega) kd29_22.2.2.2.2.2.2.2.2.2.2.1 (by decide) (fun c35 => ?_) (fun c35 => ?_)
        · refine X_aloadn hK (i := 0) 2 kd29_23.2.2.1 rfl rfl ?_
          refine X_iconst hK kd29_23.2.2.2.1 ?_
          refine X_callV hK [.int (iI 4)] [] lk_X7_60 (c_X7_tell _ _ _ _ _ S g a0 4 hs_a0 (by omega)) hs_a0 ⟨by decide, rfl⟩ kd29_23.2.2.2.2.1 rfl rfl (by simp [Value.category]) (by decide) (by decide) (by decide) (by decide) (fun r36 S38 g37 pr36 qr36 hg37 => ?_)
          obtain ⟨rfl, rfl⟩ := pr36
          refine X_st [] rfl ?_
          refine X_goto hK 148 kd29_23.2.2.2.2.2.1 (by decide) ?_
          exact hret _ _ _ _ _ _ kd29_27.2.2.2 ⟨rfl, rfl⟩ (Nat.le_refl _) (Nat.le_refl _)
        · refine X_iloadn hK (i := 2) 4 kd29_22.2.2.2.2.2.2.2.2.2.2.2 rfl rfl ?_
          refine X_bipush hK kd29_23.1 (by decide) ?_
          refine X_icmp_le hK 72 (by omega) (by omega) kd29_23.2.1 (by decide) (fun c39 => ?_) (fun c39 => False.elim (by omega))
          refine X_aloadn hK (i := 0) 2 kd29_23.2.2.2.2.2.2.1 rfl rfl ?_
          refine X_dup hK kd29_23.2.2.2.2.2.2.2.1 rfl ?_
          refine X_getK hK fl_X7_22_8 hs_a0 ez34 kd29_23.2.2.2.2.2.2.2.2.1 ?_
          refine X_iconst hK kd29_23.2.2.2.2.2.2.2.2.2.1 ?_
          refine X_iadd hK kd29_23.2.2.2.2.2.2.2.2.2.2.1 ?_
          refine X_puti hK fl_X7_22_8 hs_a0 (by decide) sl_8_3 (by omega) (by omega) kd29_23.2.2.2.2.2.2.2.2.2.2.2 (fun g40 hg40 => ?_)
          refine X_aloadn hK (i := 0) 2 kd29_24.1 rfl rfl ?_
          refine X_dup hK kd29_24.2.1 rfl ?_
          refine X_getK hK fl_X7_18_8 hs_a0 ((xs_k hg40 (by decide)).trans ez1) kd29_24.2.2.1 ?_
          refine X_iconst hK kd29_24.2.2.2.1 ?_
          refine X_iadd hK kd29_24.2.2.2.2.1 ?_
          refine X_puti hK fl_X7_18_8 hs_a0 (by decide) sl_8_2 (by omega) (by omega) kd29_24.2.2.2.2.2.1 (fun g41 hg41 => ?_)
          refine X_iload hK (i := 4) 0 kd29_24.2.2.2.2.2.2.1 rfl ?_
          refine X_if_eq hK 109 (by omega) kd29_24.2.2.2.2.2.2.2.1 (by decide) (fun c42 => ?_) (fun c42 => False.elim (by omega))
          refine X_iloadn hK (i := 3) 1 kd29_25.2.2.2.1 rfl rfl ?_
          refine X_bipush hK kd29_25.2.2.2.2.1 (by decide) ?_
          refine X_icmp_ne hK 132 (by omega) (by omega) kd29_25.2.2.2.2.2.1 (by decide) (fun c43 => False.elim (by omega)) (fun c43 => ?_)
          refine X_aloadn hK (i := 0) 2 kd29_25.2.2.2.2.2.2.1 rfl rfl ?_
          refine X_aloadn hK (i := 1) 3 kd29_25.2.2.2.2.2.2.2.1 rfl rfl ?_
          refine X_iloadn hK (i := 2) 4 kd29_25.2.2.2.2.2.2.2.2.1 rfl rfl ?_
          refine X_iconst hK kd29_25.2.2.2.2.2.2.2.2.2.1 ?_
          refine X_iadd hK kd29_25.2.2.2.2.2.2.2.2.2.2.1 ?_
          refine X_callV hK [.ref a1, .int (iI (x2 + 1))] [] lk_X7_115 (c_X7_readCond_10 _ _ _ _ _ S g41 a0 a1 (x2 + 1) hs_a0 hs_a1 (by omega)) hs_a0 ⟨by decide, rfl⟩ kd29_25.2.2.2.2.2.2.2.2.2.2.2 rfl rfl (by simp [Value.category]) (by decide) (by decide) (by decide) (by decide) (fun r44 S46 g45 pr44 qr44 hg45 => ?_)
          obtain ⟨rfl, rfl⟩ := pr44
          refine X_st [] rfl ?_
          refine X_aloadn hK (i := 0) 2 kd29_26.1 rfl rfl ?_
          refine X_bipush hK kd29_26.2.1 (by decide) ?_
          refine X_callV hK [.int (iI 26)] [] lk_X7_119 (c_X7_expect _ _ _ _ _ S g45 a0 26 hs_a0 (by omega)) hs_a0 ⟨by decide, rfl⟩ kd29_26.2.2.1 rfl rfl (by simp [Value.category]) (by decide) (by decide) (by decide) (by decide) (fun r47 S49 g48 pr47 qr47 hg48 => ?_)
          obtain ⟨rfl, rfl⟩ := pr47
          refine X_st [] rfl ?_
          refine X_goto hK 148 kd29_26.2.2.2.1 (by decide) ?_
          exact hret _ _ _ _ _ _ kd29_27.2.2.2 ⟨rfl, rfl⟩ (Nat.le_refl _) (Nat.le_refl _)
      · refine X_aloadn hK (i := 0) 2 kd29_22.2.2.2.1 rfl rfl ?_
        refine X_iconst hK kd29_22.2.2.2.2.1 ?_
        refine X_callV hK [.int (iI 1)] [] lk_X7_60 (c_X7_tell _ _ _ _ _ S g a0 1 hs_a0 (by omega)) hs_a0 ⟨by decide, rfl⟩ kd29_22.2.2.2.2.2.1 rfl rfl (by simp [Value.category]) (by decide) (by decide) (by decide) (by decide) (fun r50 S52 g51 pr50 qr50 hg51 => ?_)
        obtain ⟨rfl, rfl⟩ := pr50
        refine X_st [] rfl ?_
        refine X_goto hK 148 kd29_22.2.2.2.2.2.2.1 (by decide) ?_
        exact hret _ _ _ _ _ _ kd29_27.2.2.2 ⟨rfl, rfl⟩ (Nat.le_refl _) (Nat.le_refl _)
    · refine X_iconst hK kd29_21.2.2.2.1 ?_
      refine X_goto hK 22 kd29_21.2.2.2.2.1 (by decide) ?_
      refine X_istore hK (i := 4) [(4, .int (iI 1)), (3, .int (iI z5)), (0, .ref a0), (1, .ref a1), (2, .int (iI x2))] kd29_21.2.2.2.2.2.2.1 (by decide) rfl ?_
      refine X_iload hK (i := 4) 0 kd29_21.2.2.2.2.2.2.2.1 rfl ?_
      refine X_if_ne hK 49 (by omega) kd29_21.2.2.2.2.2.2.2.2.1 (by decide) (fun c53 => ?_) (fun c53 => False.elim (by omega))
      refine X_aloadn hK (i := 0) 2 kd29_22.2.2.2.2.2.2.2.1 rfl rfl ?_
      refine X_geti hK fl_X7_22_8 hs_a0 sl_8_3 kd29_22.2.2.2.2.2.2.2.2.1 (fun z54 ez54 lz54 uz54 => ?_)
      refine X_bipush hK kd29_22.2.2.2.2.2.2.2.2.2.1 (by decide) ?_
      refine X_icmp_ge hK 64 (by omega) (by omega) kd29_22.2.2.2.2.2.2.2.2.2.2.1 (by decide) (fun c55 => ?_) (fun c55 => ?_)
      · refine X_aloadn hK (i := 0) 2 kd29_23.2.2.1 rfl rfl ?_
        refine X_iconst hK kd29_23.2.2.2.1 ?_
        refine X_callV hK [.int (iI 4)] [] lk_X7_60 (c_X7_tell _ _ _ _ _ S g a0 4 hs_a0 (by omega)) hs_a0 ⟨by decide, rfl⟩ kd29_23.2.2.2.2.1 rfl rfl (by simp [Value.category]) (by decide) (by decide) (by decide) (by decide) (fun r56 S58 g57 pr56 qr56 hg57 => ?_)
        obtain ⟨rfl, rfl⟩ := pr56
        refine X_st [] rfl ?_
        refine X_goto hK 148 kd29_23.2.2.2.2.2.1 (by decide) ?_
        exact hret _ _ _ _ _ _ kd29_27.2.2.2 ⟨rfl, rfl⟩ (Nat.le_refl _) (Nat.le_refl _)
      · refine X_iloadn hK (i := 2) 4 kd29_22.2.2.2.2.2.2.2.2.2.2.2 rfl rfl ?_
        refine X_bipush hK kd29_23.1 (by decide) ?_
        refine X_icmp_le hK 72 (by omega) (by omega) kd29_23.2.1 (by decide) (fun c59 => ?_) (fun c59 => False.elim (by omega))
        refine X_aloadn hK (i := 0) 2 kd29_23.2.2.2.2.2.2.1 rfl rfl ?_
        refine X_dup hK kd29_23.2.2.2.2.2.2.2.1 rfl ?_
        refine X_getK hK fl_X7_22_8 hs_a0 ez54 kd29_23.2.2.2.2.2.2.2.2.1 ?_
        refine X_iconst hK kd29_23.2.2.2.2.2.2.2.2.2.1 ?_
        refine X_iadd hK kd29_23.2.2.2.2.2.2.2.2.2.2.1 ?_
        refine X_puti hK fl_X7_22_8 hs_a0 (by decide) sl_8_3 (by omega) (by omega) kd29_23.2.2.2.2.2.2.2.2.2.2.2 (fun g60 hg60 => ?_)
        refine X_aloadn hK (i := 0) 2 kd29_24.1 rfl rfl ?_
        refine X_dup hK kd29_24.2.1 rfl ?_
        refine X_getK hK fl_X7_18_8 hs_a0 ((xs_k hg60 (by decide)).trans ez1) kd29_24.2.2.1 ?_
        refine X_iconst hK kd29_24.2.2.2.1 ?_
        refine X_iadd hK kd29_24.2.2.2.2.1 ?_
        refine X_puti hK fl_X7_18_8 hs_a0 (by decide) sl_8_2 (by omega) (by omega) kd29_24.2.2.2.2.2.1 (fun g61 hg61 => ?_)
        refine X_iload hK (i := 4) 0 kd29_24.2.2.2.2.2.2.1 rfl ?_
        refine X_if_eq hK 109 (by omega) kd29_24.2.2.2.2.2.2.2.1 (by decide) (fun c62 => False.elim (by omega)) (fun c62 => ?_)
        refine X_aloadn hK (i := 0) 2 kd29_24.2.2.2.2.2.2.2.2.1 rfl rfl ?_
        refine X_aloadn hK (i := 1) 3 kd29_24.2.2.2.2.2.2.2.2.2.1 rfl rfl ?_
        refine X_iloadn hK (i := 3) 1 kd29_24.2.2.2.2.2.2.2.2.2.2.1 rfl rfl ?_
        refine X_bipush hK kd29_24.2.2.2.2.2.2.2.2.2.2.2 (by decide) ?_
        refine X_isub hK kd29_25.1 ?_
        refine X_callV hK [.ref a1, .int (iI (z5 - 10))] [] lk_X7_135 (c_X7_readFact _ _ _ _ _ S g61 a0 a1 (z5 - 10) hs_a0 hs_a1 (by omega)) hs_a0 ⟨by decide, rfl⟩ kd29_25.2.1 rfl rfl (by simp [Value.category]) (by decide) (by decide) (by decide) (by decide) (fun r63 S65 g64 pr63 qr63 hg64 => ?_)
        obtain ⟨rfl, rfl⟩ := pr63
        refine X_st [] rfl ?_
        refine X_goto hK 148 kd29_25.2.2.1 (by decide) ?_
        exact hret _ _ _ _ _ _ kd29_27.2.2.2 ⟨rfl, rfl⟩ (Nat.le_refl _) (Nat.le_refl _)

set_option maxHeartbeats 4000000 in
set_option maxRecDepth 100000 in
theorem c_X7_readAll_9 (l : Launch) (D : va_G) (kA : Nat → ClassId) (b0 : Nat) (t0 : Nat → Nat) (S : xT) (g : xG) (a0 : Nat) (a1 : Nat) (x2 : Int) (hs_a0 : S a0 = some (8, 0)) (hs_a1 : S a1 = some (11, 0)) (hx2 : 9 ≤ x2 ∧ x2 ≤ 9) : xMt l yX7_readAll cX7_readAll 4 none 8 0 0 185 D kA b0 t0 [(8, 5), (8, 6), (8, 3), (8, 2), (14000, 0), (11, 2)] [.ref a0, .ref a1, .int (iI x2)] S g (fun (r : Option Value) (S1 : xT) (g1 : xG) => S = S1 ∧ r = none) := by
  refine xEnterV (by decide) (by simp [lg_sl, Value.category]) [(0, .ref a0), (1, .ref a1), (2, .int (iI x2))] rfl ?_
  intro K E hK hret _ _ _
  refine X_aloadn hK (i := 0) 0 kd29_0.1 rfl rfl ?_
  refine X_aloadn hK (i := 1) 1 kd29_0.2.1 rfl rfl ?_
  refine X_iloadn hK (i := 2) 2 kd29_0.2.2.1 rfl rfl ?_
  refine X_callV hK [.ref a1, .int (iI x2)] [] lk_X7_132 (c_X7_readOne_9 _ _ _ _ _ S g a0 a1 x2 hs_a0 hs_a1 (by omega)) hs_a0 ⟨by decide, rfl⟩ kd29_0.2.2.2.1 rfl rfl (by simp [Value.category]) (by decide) (by decide) (by decide) (by decide) (fun r1 S3 g2 pr1 qr1 hg2 => ?_)
  obtain ⟨rfl, rfl⟩ := pr1
  refine X_st [] rfl ?_
  refine X_iconst hK kd29_0.2.2.2.2.1 ?_
  refine X_istoren hK (i := 3) [(3, .int (iI 0)), (0, .ref a0), (1, .ref a1), (2, .int (iI x2))] kd29_0.2.2.2.2.2.1 rfl (by decide) rfl ?_
  have P117 : ∀ (nP117 : Nat) (g99 : xG) (_ : xM [(14000, 0), (11, 2), (8, 5), (8, 6), (8, 3), (8, 2)] S g2 g99) (z98 : Int) (_ : 0 ≤ z98) (_ : z98 ≤ 50) (_ : 66 - z98 < (nP117 : Int)), X K E 8 [(3, .int (iI z98)), (0, .ref a0), (1, .ref a1), (2, .int (iI x2))] [] S g99 0 0 := by
    intro nP117
    induction nP117 with
    | zero => intro g99 hg99 z98 lz98 uz98 mP117; exact False.elim (by omega)
    | succ nP117 ihP117 =>
      intro g99 hg99 z98 lz98 uz98 mP117
      refine X_iloadn hK (i := 3) 0 kd29_0.2.2.2.2.2.2.1 rfl rfl ?_
      refine X_bipush hK kd29_0.2.2.2.2.2.2.2.1 (by decide) ?_
      refine X_icmp_ge hK 60 (by omega) (by omega) kd29_0.2.2.2.2.2.2.2.2.1 (by decide) (fun c118 => ?_) (fun c118 => ?_)
      · exact hret _ _ _ _ _ _ kd29_2.2.2.2.2.2.2.2.2.2.1 ⟨rfl, rfl⟩ (Nat.le_refl _) (Nat.le_refl _)
      · refine X_aloadn hK (i := 0) 1 kd29_0.2.2.2.2.2.2.2.2.2.1 rfl rfl ?_
        refine X_geti hK fl_X7_29_8 hs_a0 sl_8_5 kd29_0.2.2.2.2.2.2.2.2.2.2.1 (fun z119 ez119 lz119 uz119 => ?_)
        refine X_if_ne hK 60 (by omega) kd29_0.2.2.2.2.2.2.2.2.2.2.2 (by decide) (fun c120 => ?_) (fun c120 => ?_)
        · exact hret _ _ _ _ _ _ kd29_2.2.2.2.2.2.2.2.2.2.1 ⟨rfl, rfl⟩ (Nat.le_refl _) (Nat.le_refl _)
        · refine X_aloadn hK (i := 0) 1 kd29_1.1 rfl rfl ?_
          refine X_know hs_a0 (by decide) sl_8_2 (fun z121 ez121 lz121 uz121 => ?_)
          refine X_callV hK [] [] lk_X7_47 (c_X7_now _ _ _ _ _ S g99 a0 z121 hs_a0 (by omega) ez121) hs_a0 ⟨by decide, rfl⟩ kd29_1.2.1 rfl rfl (by simp [Value.category]) (by decide) (by decide) (by decide) (by decide) (fun r122 S124 g123 pr122 qr122 hg123 => ?_)
          obtain ⟨rfl, rfl, z125, rfl, lz125, uz125, k126⟩ := pr122
          refine X_st [.int (iI z125)] rfl ?_
          refine X_bipush hK kd29_1.2.2.1 (by decide) ?_
          refine X_icmp_ne hK 60 (by omega) (by omega) kd29_1.2.2.2.1 (by decide) (fun c127 => ?_) (fun c127 => ?_)
          · exact hret _ _ _ _ _ _ kd29_2.2.2.2.2.2.2.2.2.2.1 ⟨rfl, rfl⟩ (Nat.le_refl _) (Nat.le_refl _)
          · refine X_aloadn hK (i := 0) 1 kd29_1.2.2.2.2.1 rfl rfl ?_
            refine X_dup hK kd29_1.2.2.2.2.2.1 rfl ?_
            refine X_getK hK fl_X7_18_8 hs_a0 ez121 kd29_1.2.2.2.2.2.2.1 ?_
            refine X_iconst hK kd29_1.2.2.2.2.2.2.2.1 ?_
            refine X_iadd hK kd29_1.2.2.2.2.2.2.2.2.1 ?_
            refine X_puti hK fl_X7_18_8 hs_a0 (by decide) sl_8_2 (by omega) (by omega) kd29_1.2.2.2.2.2.2.2.2.2.1 (fun g128 hg128 => ?_)
            refine X_aloadn hK (i := 0) 1 kd29_1.2.2.2.2.2.2.2.2.2.2.1 rfl rfl ?_
            refine X_aloadn hK (i := 1) 2 kd29_1.2.2.2.2.2.2.2.2.2.2.2 rfl rfl ?_
            refine X_iloadn hK (i := 2) 3 kd29_2.1 rfl rfl ?_
            refine X_callV hK [.ref a1, .int (iI x2)] [] lk_X7_132 (c_X7_readOne_9 _ _ _ _ _ S g128 a0 a1 x2 hs_a0 hs_a1 (by omega)) hs_a0 ⟨by decide, rfl⟩ kd29_2.2.1 rfl rfl (by simp [Value.category]) (by decide) (by decide) (by decide) (by decide) (fun r129 S131 g130 pr129 qr129 hg130 => ?_)
            obtain ⟨rfl, rfl⟩ := pr129
            refine X_st [] rfl ?_
            refine X_aloadn hK (i := 1) 2 kd29_2.2.2.1 rfl rfl ?_
            refine X_bipush hK kd29_2.2.2.2.1 (by decide) ?_
            refine X_iconst hK kd29_2.2.2.2.2.1 ?_
            refine X_iconst hK kd29_2.2.2.2.2.2.1 ?_
            refine X_callV hK [.int (iI 13), .int (iI 0), .int (iI 0)] [] lk_X7_129 (c_X10_addStep _ _ _ _ _ S g130 a1 13 0 0 hs_a1 (by omega) (by omega) (by omega)) hs_a1 ⟨by decide, rfl⟩ kd29_2.2.2.2.2.2.2.1 rfl rfl (by simp [Value.category]) (by decide) (by decide) (by decide) (by decide) (fun r132 S134 g133 pr132 qr132 hg133 => ?_)
            obtain ⟨rfl, rfl⟩ := pr132
            refine X_st [] rfl ?_
            refine X_iinc hK (i := 3) (z := z98) (n := 1) 0 [(3, .int (iI (z98 + 1))), (0, .ref a0), (1, .ref a1), (2, .int (iI x2))] kd29_2.2.2.2.2.2.2.2.1 rfl (by decide) rfl ?_
            refine X_goto hK 8 kd29_2.2.2.2.2.2.2.2.2.1 (by decide) ?_
            exact ihP117  g133 (xM.tr (xM.tr (xM_up (xM.tr xM.rf xLe.rf hg99 (by decide)) hg128 hs_a0 (by decide) (by decide)) xLe.rf hg130 (by decide)) xLe.rf hg133 (by decide)) (z98 + 1) (by omega) (by omega) (by omega)
  exact P117 ((66 - 0 : Int).toNat + 1) g2 xM.rf 0 (by omega) (by omega) (by omega)

set_option maxHeartbeats 4000000 in
set_option maxRecDepth 100000 in
theorem c_X7_readCond_9 (l : Launch) (D : va_G) (kA : Nat → ClassId) (b0 : Nat) (t0 : Nat → Nat) (S : xT) (g : xG) (a0 : Nat) (a1 : Nat) (x2 : Int) (hs_a0 : S a0 = some (8, 0)) (hs_a1 : S a1 = some (11, 0)) (hx2 : 9 ≤ x2 ∧ x2 ≤ 9) : xMt l yX7_readCond cX7_readCond 4 none 9 0 0 208 D kA b0 t0 [(8, 5), (8, 6), (8, 3), (8, 2), (14000, 0), (11, 2)] [.ref a0, .ref a1, .int (iI x2)] S g (fun (r : Option Value) (S1 : xT) (g1 : xG) => S = S1 ∧ r = none) := by
  refine xEnterV (by decide) (by simp [lg_sl, Value.category]) [(0, .ref a0), (1, .ref a1), (2, .int (iI x2))] rfl ?_
  intro K E hK hret _ _ _
  refine X_aloadn hK (i := 0) 0 kd29_2.2.2.2.2.2.2.2.2.2.2.1 rfl rfl ?_
  refine X_aloadn hK (i := 1) 1 kd29_2.2.2.2.2.2.2.2.2.2.2.2 rfl rfl ?_
  refine X_iloadn hK (i := 2) 2 kd29_3.1 rfl rfl ?_
  refine X_callV hK [.ref a1, .int (iI x2)] [] lk_X7_126 (c_X7_readAll_9 _ _ _ _ _ S g a0 a1 x2 hs_a0 hs_a1 (by omega)) hs_a0 ⟨by decide, rfl⟩ kd29_3.2.1 rfl rfl (by simp [Value.category]) (by decide) (by decide) (by decide) (by decide) (fun r1 S3 g2 pr1 qr1 hg2 => ?_)
  obtain ⟨rfl, rfl⟩ := pr1
  refine X_st [] rfl ?_
  refine X_iconst hK kd29_3.2.2.1 ?_
  refine X_istoren hK (i := 3) [(3, .int (iI 0)), (0, .ref a0), (1, .ref a1), (2, .int (iI x2))] kd29_3.2.2.2.1 rfl (by decide) rfl ?_
  have P117 : ∀ (nP117 : Nat) (g99 : xG) (_ : xM [(14000, 0), (11, 2), (8, 5), (8, 6), (8, 3), (8, 2)] S g2 g99) (z98 : Int) (_ : 0 ≤ z98) (_ : z98 ≤ 50) (_ : 66 - z98 < (nP117 : Int)), X K E 8 [(3, .int (iI z98)), (0, .ref a0), (1, .ref a1), (2, .int (iI x2))] [] S g99 0 0 := by
    intro nP117
    induction nP117 with
    | zero => intro g99 hg99 z98 lz98 uz98 mP117; exact False.elim (by omega)
    | succ nP117 ihP117 =>
      intro g99 hg99 z98 lz98 uz98 mP117
      refine X_iloadn hK (i := 3) 0 kd29_3.2.2.2.2.1 rfl rfl ?_
      refine X_bipush hK kd29_3.2.2.2.2.2.1 (by decide) ?_
      refine X_icmp_ge hK 60 (by omega) (by omega) kd29_3.2.2.2.2.2.2.1 (by decide) (fun c118 => ?_) (fun c118 => ?_)
      · exact hret _ _ _ _ _ _ kd29_5.2.2.2.2.2.2.2.1 ⟨rfl, rfl⟩ (Nat.le_refl _) (Nat.le_refl _)
      · refine X_aloadn hK (i := 0) 1 kd29_3.2.2.2.2.2.2.2.1 rfl rfl ?_
        refine X_geti hK fl_X7_29_8 hs_a0 sl_8_5 kd29_3.2.2.2.2.2.2.2.2.1 (fun z119 ez119 lz119 uz119 => ?_)
        refine X_if_ne hK 60 (by omega) kd29_3.2.2.2.2.2.2.2.2.2.1 (by decide) (fun c120 => ?_) (fun c120 => ?_)
        · exact hret _ _ _ _ _ _ kd29_5.2.2.2.2.2.2.2.1 ⟨rfl, rfl⟩ (Nat.le_refl _) (Nat.le_refl _)
        · refine X_aloadn hK (i := 0) 1 kd29_3.2.2.2.2.2.2.2.2.2.2.1 rfl rfl ?_
          refine X_know hs_a0 (by decide) sl_8_2 (fun z121 ez121 lz121 uz121 => ?_)
          refine X_callV hK [] [] lk_X7_47 (c_X7_now _ _ _ _ _ S g99 a0 z121 hs_a0 (by omega) ez121) hs_a0 ⟨by decide, rfl⟩ kd29_3.2.2.2.2.2.2.2.2.2.2.2 rfl rfl (by simp [Value.category]) (by decide) (by decide) (by decide) (by decide) (fun r122 S124 g123 pr122 qr122 hg123 => ?_)
          obtain ⟨rfl, rfl, z125, rfl, lz125, uz125, k126⟩ := pr122
          refine X_st [.int (iI z125)] rfl ?_
          refine X_bipush hK kd29_4.1 (by decide) ?_
          refine X_icmp_ne hK 60 (by omega) (by omega) kd29_4.2.1 (by decide) (fun c127 => ?_) (fun c127 => ?_)
          · exact hret _ _ _ _ _ _ kd29_5.2.2.2.2.2.2.2.1 ⟨rfl, rfl⟩ (Nat.le_refl _) (Nat.le_refl _)
          · refine X_aloadn hK (i := 0) 1 kd29_4.2.2.1 rfl rfl ?_
            refine X_dup hK kd29_4.2.2.2.1 rfl ?_
            refine X_getK hK fl_X7_18_8 hs_a0 ez121 kd29_4.2.2.2.2.1 ?_
            refine X_iconst hK kd29_4.2.2.2.2.2.1 ?_
            refine X_iadd hK kd29_4.2.2.2.2.2.2.1 ?_
            refine X_puti hK fl_X7_18_8 hs_a0 (by decide) sl_8_2 (by omega) (by omega) kd29_4.2.2.2.2.2.2.2.1 (fun g128 hg128 => ?_)
            refine X_aloadn hK (i := 0) 1 kd29_4.2.2.2.2.2.2.2.2.1 rfl rfl ?_
            refine X_aloadn hK (i := 1) 2 kd29_4.2.2.2.2.2.2.2.2.2.1 rfl rfl ?_
            refine X_iloadn hK (i := 2) 3 kd29_4.2.2.2.2.2.2.2.2.2.2.1 rfl rfl ?_
            refine X_callV hK [.ref a1, .int (iI x2)] [] lk_X7_126 (c_X7_readAll_9 _ _ _ _ _ S g128 a0 a1 x2 hs_a0 hs_a1 (by omega)) hs_a0 ⟨by decide, rfl⟩ kd29_4.2.2.2.2.2.2.2.2.2.2.2 rfl rfl (by simp [Value.category]) (by decide) (by decide) (by decide) (by decide) (fun r129 S131 g130 pr129 qr129 hg130 => ?_)
            obtain ⟨rfl, rfl⟩ := pr129
            refine X_st [] rfl ?_
            refine X_aloadn hK (i := 1) 2 kd29_5.1 rfl rfl ?_
            refine X_bipush hK kd29_5.2.1 (by decide) ?_
            refine X_iconst hK kd29_5.2.2.1 ?_
            refine X_iconst hK kd29_5.2.2.2.1 ?_
            refine X_callV hK [.int (iI 14), .int (iI 0), .int (iI 0)] [] lk_X7_129 (c_X10_addStep _ _ _ _ _ S g130 a1 14 0 0 hs_a1 (by omega) (by omega) (by omega)) hs_a1 ⟨by decide, rfl⟩ kd29_5.2.2.2.2.1 rfl rfl (by simp [Value.category]) (by decide) (by decide) (by decide) (by decide) (fun r132 S134 g133 pr132 qr132 hg133 => ?_)
            obtain ⟨rfl, rfl⟩ := pr132
            refine X_st [] rfl ?_
            refine X_iinc hK (i := 3) (z := z98) (n := 1) 0 [(3, .int (iI (z98 + 1))), (0, .ref a0), (1, .ref a1), (2, .int (iI x2))] kd29_5.2.2.2.2.2.1 rfl (by decide) rfl ?_
            refine X_goto hK 8 kd29_5.2.2.2.2.2.2.1 (by decide) ?_
            exact ihP117  g133 (xM.tr (xM.tr (xM_up (xM.tr xM.rf xLe.rf hg99 (by decide)) hg128 hs_a0 (by decide) (by decide)) xLe.rf hg130 (by decide)) xLe.rf hg133 (by decide)) (z98 + 1) (by omega) (by omega) (by omega)
  exact P117 ((66 - 0 : Int).toNat + 1) g2 xM.rf 0 (by omega) (by omega) (by omega)

set_option maxHeartbeats 4000000 in
set_option maxRecDepth 100000 in
theorem c_X7_readOne_8 (l : Launch) (D : va_G) (kA : Nat → ClassId) (b0 : Nat) (t0 : Nat → Nat) (S : xT) (g : xG) (a0 : Nat) (a1 : Nat) (x2 : Int) (hs_a0 : S a0 = some (8, 0)) (hs_a1 : S a1 = some (11, 0)) (hx2 : 8 ≤ x2 ∧ x2 ≤ 8) : xMt l yX7_readOne cX7_readOne 5 none 10 0 0 231 D kA b0 t0 [(8, 5), (8, 6), (8, 3), (8, 2), (14000, 0), (11, 2)] [.ref a0, .ref a1, .int (iI x2)] S g (fun (r : Option Value) (S1 : xT) (g1 : xG) => S = S1 ∧ r = none) := by
  refine xEnterV (by decide) (by simp [lg_sl, Value.category]) [(0, .ref a0), (1, .ref a1), (2, .int (iI x2))] rfl ?_
  intro K E hK hret _ _ _
  refine X_aloadn hK (i := 0) 0 kd29_20.2.2.2.2.2.2.1 rfl rfl ?_
  refine X_know hs_a0 (by decide) sl_8_2 (fun z1 ez1 lz1 uz1 => ?_)
  refine X_callV hK [] [] lk_X7_47 (c_X7_now _ _ _ _ _ S g a0 z1 hs_a0 (by omega) ez1) hs_a0 ⟨by decide, rfl⟩ kd29_20.2.2.2.2.2.2.2.1 rfl rfl (by simp [Value.category]) (by decide) (by decide) (by decide) (by decide) (fun r2 S4 g3 pr2 qr2 hg3 => ?_)
  obtain ⟨rfl, rfl, z5, rfl, lz5, uz5, k6⟩ := pr2
  refine X_st [.int (iI z5)] rfl ?_
  refine X_istoren hK (i := 3) [(3, .int (iI z5)), (0, .ref a0), (1, .ref a1), (2, .int (iI x2))] kd29_20.2.2.2.2.2.2.2.2.1 rfl (by decide) rfl ?_
  refine X_iloadn hK (i := 3) 0 kd29_20.2.2.2.2.2.2.2.2.2.1 rfl rfl ?_
  refine X_bipush hK kd29_20.2.2.2.2.2.2.2.2.2.2.1 (by decide) ?_
  refine X_icmp_lt hK 21 (by omega) (by omega) kd29_20.2.2.2.2.2.2.2.2.2.2.2 (by decide) (fun c7 => ?_) (fun c7 => ?_)
  · refine X_iconst hK kd29_21.2.2.2.2.2.1 ?_
    refine X_istore hK (i := 4) [(4, .int (iI 0)), (3, .int (iI z5)), (0, .ref a0), (1, .ref a1), (2, .int (iI x2))] kd29_21.2.2.2.2.2.2.1 (by decide) rfl ?_
    refine X_iload hK (i := 4) 0 kd29_21.2.2.2.2.2.2.2.1 rfl ?_
    refine X_if_ne hK 49 (by omega) kd29_21.2.2.2.2.2.2.2.2.1 (by decide) (fun c8 => False.elim (by omega)) (fun c8 => ?_)
    refine X_iloadn hK (i := 3) 1 kd29_21.2.2.2.2.2.2.2.2.2.1 rfl rfl ?_
    refine X_bipush hK kd29_21.2.2.2.2.2.2.2.2.2.2.1 (by decide) ?_
    refine X_icmp_eq hK 49 (by omega) (by omega) kd29_21.2.2.2.2.2.2.2.2.2.2.2 (by decide) (fun c9 => ?_) (fun c9 => ?_)
    · refine X_aloadn hK (i := 0) 2 kd29_22.2.2.2.2.2.2.2.1 rfl rfl ?_
      refine X_geti hK fl_X7_22_8 hs_a0 sl_8_3 kd29_22.2.2.2.2.2.2.2.2.1 (fun z10 ez10 lz10 uz10 => ?_)
      refine X_bipush hK kd29_22.2.2.2.2.2.2.2.2.2.1 (by decide) ?_
      refine X_icmp_ge hK 64 (by omega) (by omega) kd29_22.2.2.2.2.2.2.2.2.2.2.1 (by decide) (fun c11 => ?_) (fun c11 => ?_)
      · refine X_aloadn hK (i := 0) 2 kd29_23.2.2.1 rfl rfl ?_
        refine X_iconst hK kd29_23.2.2.2.1 ?_
        refine X_callV hK [.int (iI 4)] [] lk_X7_60 (c_X7_tell _ _ _ _ _ S g a0 4 hs_a0 (by omega)) hs_a0 ⟨by decide, rfl⟩ kd29_23.2.2.2.2.1 rfl rfl (by simp [Value.category]) (by decide) (by decide) (by decide) (by decide) (fun r12 S14 g13 pr12 qr12 hg13 => ?_)
        obtain ⟨rfl, rfl⟩ := pr12
        refine X_st [] rfl ?_
        refine X_goto hK 148 kd29_23.2.2.2.2.2.1 (by decide) ?_
        exact hret _ _ _ _ _ _ kd29_27.2.2.2 ⟨rfl, rfl⟩ (Nat.le_refl _) (Nat.le_refl _)
      · refine X_iloadn hK (i := 2) 4 kd29_22.2.2.2.2.2.2.2.2.2.2.2 rfl rfl ?_
        refine X_bipush hK kd29_23.1 (by decide) ?_
        refine X_icmp_le hK 72 (by omega) (by omega) kd29_23.2.1 (by decide) (fun c15 => ?_) (fun c15 => False.elim (by omega))
        refine X_aloadn hK (i := 0) 2 kd29_23.2.2.2.2.2.2.1 rfl rfl ?_
        refine X_dup hK kd29_23.2.2.2.2.2.2.2.1 rfl ?_
        refine X_getK hK fl_X7_22_8 hs_a0 ez10 kd29_23.2.2.2.2.2.2.2.2.1 ?_
        refine X_iconst hK kd29_23.2.2.2.2.2.2.2.2.2.1 ?_
        refine X_iadd hK kd29_23.2.2.2.2.2.2.2.2.2.2.1 ?_
        refine X_puti hK fl_X7_22_8 hs_a0 (by decide) sl_8_3 (by omega) (by omega) kd29_23.2.2.2.2.2.2.2.2.2.2.2 (fun g16 hg16 => ?_)
        refine X_aloadn hK (i := 0) 2 kd29_24.1 rfl rfl ?_
        refine X_dup hK kd29_24.2.1 rfl ?_
        refine X_getK hK fl_X7_18_8 hs_a0 ((xs_k hg16 (by decide)).trans ez1) kd29_24.2.2.1 ?_
        refine X_iconst hK kd29_24.2.2.2.1 ?_
        refine X_iadd hK kd29_24.2.2.2.2.1 ?_
        refine X_puti hK fl_X7_18_8 hs_a0 (by decide) sl_8_2 (by omega) (by omega) kd29_24.2.2.2.2.2.1 (fun g17 hg17 => ?_)
        refine X_iload hK (i := 4) 0 kd29_24.2.2.2.2.2.2.1 rfl ?_
        refine X_if_eq hK 109 (by omega) kd29_24.2.2.2.2.2.2.2.1 (by decide) (fun c18 => ?_) (fun c18 => False.elim (by omega))
        refine X_iloadn hK (i := 3) 1 kd29_25.2.2.2.1 rfl rfl ?_
        refine X_bipush hK kd29_25.2.2.2.2.1 (by decide) ?_
        refine X_icmp_ne hK 132 (by omega) (by omega) kd29_25.2.2.2.2.2.1 (by decide) (fun c19 => ?_) (fun c19 => False.elim (by omega))
        refine X_aloadn hK (i := 0) 2 kd29_26.2.2.2.2.1 rfl rfl ?_
        refine X_aloadn hK (i := 1) 3 kd29_26.2.2.2.2.2.1 rfl rfl ?_
        refine X_iloadn hK (i := 2) 4 kd29_26.2.2.2.2.2.2.1 rfl rfl ?_
        refine X_iconst hK kd29_26.2.2.2.2.2.2.2.1 ?_
        refine X_iadd hK kd29_26.2.2.2.2.2.2.2.2.1 ?_
        refine X_callV hK [.ref a1, .int (iI (x2 + 1))] [] lk_X7_132 (c_X7_readOne_9 _ _ _ _ _ S g17 a0 a1 (x2 + 1) hs_a0 hs_a1 (by omega)) hs_a0 ⟨by decide, rfl⟩ kd29_26.2.2.2.2.2.2.2.2.2.1 rfl rfl (by simp [Value.category]) (by decide) (by decide) (by decide) (by decide) (fun r20 S22 g21 pr20 qr20 hg21 => ?_)
        obtain ⟨rfl, rfl⟩ := pr20
        refine X_st [] rfl ?_
        refine X_aloadn hK (i := 1) 3 kd29_26.2.2.2.2.2.2.2.2.2.2.1 rfl rfl ?_
        refine X_bipush hK kd29_26.2.2.2.2.2.2.2.2.2.2.2 (by decide) ?_
        refine X_iconst hK kd29_27.1 ?_
        refine X_iconst hK kd29_27.2.1 ?_
        refine X_callV hK [.int (iI 12), .int (iI 0), .int (iI 0)] [] lk_X7_129 (c_X10_addStep _ _ _ _ _ S g21 a1 12 0 0 hs_a1 (by omega) (by omega) (by omega)) hs_a1 ⟨by decide, rfl⟩ kd29_27.2.2.1 rfl rfl (by simp [Value.category]) (by decide) (by decide) (by decide) (by decide) (fun r23 S25 g24 pr23 qr23 hg24 => ?_)
        obtain ⟨rfl, rfl⟩ := pr23
        refine X_st [] rfl ?_
        exact hret _ _ _ _ _ _ kd29_27.2.2.2 ⟨rfl, rfl⟩ (Nat.le_refl _) (Nat.le_refl _)
    · refine X_iloadn hK (i := 3) 1 kd29_22.1 rfl rfl ?_
      refine X_bipush hK kd29_22.2.1 (by decide) ?_
      refine X_icmp_eq hK 49 (by omega) (by omega) kd29_22.2.2.1 (by decide) (fun c26 => False.elim (by omega)) (fun c26 => ?_)
      refine X_aloadn hK (i := 0) 2 kd29_22.2.2.2.1 rfl rfl ?_
      refine X_iconst hK kd29_22.2.2.2.2.1 ?_
      refine X_callV hK [.int (iI 1)] [] lk_X7_60 (c_X7_tell _ _ _ _ _ S g a0 1 hs_a0 (by omega)) hs_a0 ⟨by decide, rfl⟩ kd29_22.2.2.2.2.2.1 rfl rfl (by simp [Value.category]) (by decide) (by decide) (by decide) (by decide) (fun r27 S29 g28 pr27 qr27 hg28 => ?_)
      obtain ⟨rfl, rfl⟩ := pr27
      refine X_st [] rfl ?_
      refine X_goto hK 148 kd29_22.2.2.2.2.2.2.1 (by decide) ?_
      exact hret _ _ _ _ _ _ kd29_27.2.2.2 ⟨rfl, rfl⟩ (Nat.le_refl _) (Nat.le_refl _)
  · refine X_iloadn hK (i := 3) 0 kd29_21.1 rfl rfl ?_
    refine X_bipush hK kd29_21.2.1 (by decide) ?_
    refine X_icmp_ge hK 21 (by omega) (by omega) kd29_21.2.2.1 (by decide) (fun c30 => ?_) (fun c30 => ?_)
    · refine X_iconst hK kd29_21.2.2.2.2.2.1 ?_
      refine X_istore hK (i := 4) [(4, .int (iI 0)), (3, .int (iI z5)), (0, .ref a0), (1, .ref a1), (2, .int (iI x2))] kd29_21.2.2.2.2.2.2.1 (by decide) rfl ?_
      refine X_iload hK (i := 4) 0 kd29_21.2.2.2.2.2.2.2.1 rfl ?_
      refine X_if_ne hK 49 (by omega) kd29_21.2.2.2.2.2.2.2.2.1 (by decide) (fun c31 => False.elim (by omega)) (fun c31 => ?_)
      refine X_iloadn hK (i := 3) 1 kd29_21.2.2.2.2.2.2.2.2.2.1 rfl rfl ?_
      refine X_bipush hK kd29_21.2.2.2.2.2.2.2.2.2.2.1 (by decide) ?_
      refine X_icmp_eq hK 49 (by omega) (by omega) kd29_21.2.2.2.2.2.2.2.2.2.2.2 (by decide) (fun c32 => False.elim (by omega)) (fun c32 => ?_)
      refine X_iloadn hK (i := 3) 1 kd29_22.1 rfl rfl ?_
      refine X_bipush hK kd29_22.2.1 (by decide) ?_
      refine X_icmp_eq hK 49 (by omega) (by omega) kd29_22.2.2.1 (by decide) (fun c33 => ?_) (fun c33 => ?_)
      · refine X_aloadn hK (i := 0) 2 kd29_22.2.2.2.2.2.2.2.1 rfl rfl ?_
        refine X_geti hK fl_X7_22_8 hs_a0 sl_8_3 kd29_22.2.2.2.2.2.2.2.2.1 (fun z34 ez34 lz34 uz34 => ?_)
        refine X_bipush hK kd29_22.2.2.2.2.2.2.2.2.2.1 (by decide) ?_
        refine X_icmp_ge hK 64 (by omega) (by omega) kd29_22.2.2.2.2.2.2.2.2.2.2.1 (by decide) (fun c35 => ?_) (fun c35 => ?_)
        · refine X_aloadn hK (i := 0) 2 kd29_23.2.2.1 rfl rfl ?_
          refine X_iconst hK kd29_23.2.2.2.1 ?_
          refine X_callV hK [.int (iI 4)] [] lk_X7_60 (c_X7_tell _ _ _ _ _ S g a0 4 hs_a0 (by omega)) hs_a0 ⟨by decide, rfl⟩ kd29_23.2.2.2.2.1 rfl rfl (by simp [Value.category]) (by decide) (by decide) (by decide) (by decide) (fun r36 S38 g37 pr36 qr36 hg37 => ?_)
          obtain ⟨rfl, rfl⟩ := pr36
          refine X_st [] rfl ?_
          refine X_goto hK 148 kd29_23.2.2.2.2.2.1 (by decide) ?_
          exact hret _ _ _ _ _ _ kd29_27.2.2.2 ⟨rfl, rfl⟩ (Nat.le_refl _) (Nat.le_refl _)
        · refine X_iloadn hK (i := 2) 4 kd29_22.2.2.2.2.2.2.2.2.2.2.2 rfl rfl ?_
          refine X_bipush hK kd29_23.1 (by decide) ?_
          refine X_icmp_le hK 72 (by omega) (by omega) kd29_23.2.1 (by decide) (fun c39 => ?_) (fun c39 => False.elim (by omega))
          refine X_aloadn hK (i := 0) 2 kd29_23.2.2.2.2.2.2.1 rfl rfl ?_
          refine X_dup hK kd29_23.2.2.2.2.2.2.2.1 rfl ?_
          refine X_getK hK fl_X7_22_8 hs_a0 ez34 kd29_23.2.2.2.2.2.2.2.2.1 ?_
          refine X_iconst hK kd29_23.2.2.2.2.2.2.2.2.2.1 ?_
          refine X_iadd hK kd29_23.2.2.2.2.2.2.2.2.2.2.1 ?_
          refine X_puti hK fl_X7_22_8 hs_a0 (by decide) sl_8_3 (by omega) (by omega) kd29_23.2.2.2.2.2.2.2.2.2.2.2 (fun g40 hg40 => ?_)
          refine X_aloadn hK (i := 0) 2 kd29_24.1 rfl rfl ?_
          refine X_dup hK kd29_24.2.1 rfl ?_
          refine X_getK hK fl_X7_18_8 hs_a0 ((xs_k hg40 (by decide)).trans ez1) kd29_24.2.2.1 ?_
          refine X_iconst hK kd29_24.2.2.2.1 ?_
          refine X_iadd hK kd29_24.2.2.2.2.1 ?_
          refine X_puti hK fl_X7_18_8 hs_a0 (by decide) sl_8_2 (by omega) (by omega) kd29_24.2.2.2.2.2.1 (fun g41 hg41 => ?_)
          refine X_iload hK (i := 4) 0 kd29_24.2.2.2.2.2.2.1 rfl ?_
          refine X_if_eq hK 109 (by omega) kd29_24.2.2.2.2.2.2.2.1 (by decide) (fun c42 => ?_) (fun c42 => False.elim (by omega))
          refine X_iloadn hK (i := 3) 1 kd29_25.2.2.2.1 rfl rfl ?_
          refine X_bipush hK kd29_25.2.2.2.2.1 (by decide) ?_
          refine X_icmp_ne hK 132 (by omega) (by omega) kd29_25.2.2.2.2.2.1 (by decide) (fun c43 => False.elim (by omega)) (fun c43 => ?_)
          refine X_aloadn hK (i := 0) 2 kd29_25.2.2.2.2.2.2.1 rfl rfl ?_
          refine X_aloadn hK (i := 1) 3 kd29_25.2.2.2.2.2.2.2.1 rfl rfl ?_
          refine X_iloadn hK (i := 2) 4 kd29_25.2.2.2.2.2.2.2.2.1 rfl rfl ?_
          refine X_iconst hK kd29_25.2.2.2.2.2.2.2.2.2.1 ?_
          refine X_iadd hK kd29_25.2.2.2.2.2.2.2.2.2.2.1 ?_
          refine X_callV hK [.ref a1, .int (iI (x2 + 1))] [] lk_X7_115 (c_X7_readCond_9 _ _ _ _ _ S g41 a0 a1 (x2 + 1) hs_a0 hs_a1 (by omega)) hs_a0 ⟨by decide, rfl⟩ kd29_25.2.2.2.2.2.2.2.2.2.2.2 rfl rfl (by simp [Value.category]) (by decide) (by decide) (by decide) (by decide) (fun r44 S46 g45 pr44 qr44 hg45 => ?_)
          obtain ⟨rfl, rfl⟩ := pr44
          refine X_st [] rfl ?_
          refine X_aloadn hK (i := 0) 2 kd29_26.1 rfl rfl ?_
          refine X_bipush hK kd29_26.2.1 (by decide) ?_
          refine X_callV hK [.int (iI 26)] [] lk_X7_119 (c_X7_expect _ _ _ _ _ S g45 a0 26 hs_a0 (by omega)) hs_a0 ⟨by decide, rfl⟩ kd29_26.2.2.1 rfl rfl (by simp [Value.category]) (by decide) (by decide) (by decide) (by decide) (fun r47 S49 g48 pr47 qr47 hg48 => ?_)
          obtain ⟨rfl, rfl⟩ := pr47
          refine X_st [] rfl ?_
          refine X_goto hK 148 kd29_26.2.2.2.1 (by decide) ?_
          exact hret _ _ _ _ _ _ kd29_27.2.2.2 ⟨rfl, rfl⟩ (Nat.le_refl _) (Nat.le_refl _)
      · refine X_aloadn hK (i := 0) 2 kd29_22.2.2.2.1 rfl rfl ?_
        refine X_iconst hK kd29_22.2.2.2.2.1 ?_
        refine X_callV hK [.int (iI 1)] [] lk_X7_60 (c_X7_tell _ _ _ _ _ S g a0 1 hs_a0 (by omega)) hs_a0 ⟨by decide, rfl⟩ kd29_22.2.2.2.2.2.1 rfl rfl (by simp [Value.category]) (by decide) (by decide) (by decide) (by decide) (fun r50 S52 g51 pr50 qr50 hg51 => ?_)
        obtain ⟨rfl, rfl⟩ := pr50
        refine X_st [] rfl ?_
        refine X_goto hK 148 kd29_22.2.2.2.2.2.2.1 (by decide) ?_
        exact hret _ _ _ _ _ _ kd29_27.2.2.2 ⟨rfl, rfl⟩ (Nat.le_refl _) (Nat.le_refl _)
    · refine X_iconst hK kd29_21.2.2.2.1 ?_
      refine X_goto hK 22 kd29_21.2.2.2.2.1 (by decide) ?_
      refine X_istore hK (i := 4) [(4, .int (iI 1)), (3, .int (iI z5)), (0, .ref a0), (1, .ref a1), (2, .int (iI x2))] kd29_21.2.2.2.2.2.2.1 (by decide) rfl ?_
      refine X_iload hK (i := 4) 0 kd29_21.2.2.2.2.2.2.2.1 rfl ?_
      refine X_if_ne hK 49 (by omega) kd29_21.2.2.2.2.2.2.2.2.1 (by decide) (fun c53 => ?_) (fun c53 => False.elim (by omega))
      refine X_aloadn hK (i := 0) 2 kd29_22.2.2.2.2.2.2.2.1 rfl rfl ?_
      refine X_geti hK fl_X7_22_8 hs_a0 sl_8_3 kd29_22.2.2.2.2.2.2.2.2.1 (fun z54 ez54 lz54 uz54 => ?_)
      refine X_bipush hK kd29_22.2.2.2.2.2.2.2.2.2.1 (by decide) ?_
      refine X_icmp_ge hK 64 (by omega) (by omega) kd29_22.2.2.2.2.2.2.2.2.2.2.1 (by decide) (fun c55 => ?_) (fun c55 => ?_)
      · refine X_aloadn hK (i := 0) 2 kd29_23.2.2.1 rfl rfl ?_
        refine X_iconst hK kd29_23.2.2.2.1 ?_
        refine X_callV hK [.int (iI 4)] [] lk_X7_60 (c_X7_tell _ _ _ _ _ S g a0 4 hs_a0 (by omega)) hs_a0 ⟨by decide, rfl⟩ kd29_23.2.2.2.2.1 rfl rfl (by simp [Value.category]) (by decide) (by decide) (by decide) (by decide) (fun r56 S58 g57 pr56 qr56 hg57 => ?_)
        obtain ⟨rfl, rfl⟩ := pr56
        refine X_st [] rfl ?_
        refine X_goto hK 148 kd29_23.2.2.2.2.2.1 (by decide) ?_
        exact hret _ _ _ _ _ _ kd29_27.2.2.2 ⟨rfl, rfl⟩ (Nat.le_refl _) (Nat.le_refl _)
      · refine X_iloadn hK (i := 2) 4 kd29_22.2.2.2.2.2.2.2.2.2.2.2 rfl rfl ?_
        refine X_bipush hK kd29_23.1 (by decide) ?_
        refine X_icmp_le hK 72 (by omega) (by omega) kd29_23.2.1 (by decide) (fun c59 => ?_) (fun c59 => False.elim (by omega))
        refine X_aloadn hK (i := 0) 2 kd29_23.2.2.2.2.2.2.1 rfl rfl ?_
        refine X_dup hK kd29_23.2.2.2.2.2.2.2.1 rfl ?_
        refine X_getK hK fl_X7_22_8 hs_a0 ez54 kd29_23.2.2.2.2.2.2.2.2.1 ?_
        refine X_iconst hK kd29_23.2.2.2.2.2.2.2.2.2.1 ?_
        refine X_iadd hK kd29_23.2.2.2.2.2.2.2.2.2.2.1 ?_
        refine X_puti hK fl_X7_22_8 hs_a0 (by decide) sl_8_3 (by omega) (by omega) kd29_23.2.2.2.2.2.2.2.2.2.2.2 (fun g60 hg60 => ?_)
        refine X_aloadn hK (i := 0) 2 kd29_24.1 rfl rfl ?_
        refine X_dup hK kd29_24.2.1 rfl ?_
        refine X_getK hK fl_X7_18_8 hs_a0 ((xs_k hg60 (by decide)).trans ez1) kd29_24.2.2.1 ?_
        refine X_iconst hK kd29_24.2.2.2.1 ?_
        refine X_iadd hK kd29_24.2.2.2.2.1 ?_
        refine X_puti hK fl_X7_18_8 hs_a0 (by decide) sl_8_2 (by omega) (by omega) kd29_24.2.2.2.2.2.1 (fun g61 hg61 => ?_)
        refine X_iload hK (i := 4) 0 kd29_24.2.2.2.2.2.2.1 rfl ?_
        refine X_if_eq hK 109 (by omega) kd29_24.2.2.2.2.2.2.2.1 (by decide) (fun c62 => False.elim (by omega)) (fun c62 => ?_)
        refine X_aloadn hK (i := 0) 2 kd29_24.2.2.2.2.2.2.2.2.1 rfl rfl ?_
        refine X_aloadn hK (i := 1) 3 kd29_24.2.2.2.2.2.2.2.2.2.1 rfl rfl ?_
        refine X_iloadn hK (i := 3) 1 kd29_24.2.2.2.2.2.2.2.2.2.2.1 rfl rfl ?_
        refine X_bipush hK kd29_24.2.2.2.2.2.2.2.2.2.2.2 (by decide) ?_
        refine X_isub hK kd29_25.1 ?_
        refine X_callV hK [.ref a1, .int (iI (z5 - 10))] [] lk_X7_135 (c_X7_readFact _ _ _ _ _ S g61 a0 a1 (z5 - 10) hs_a0 hs_a1 (by omega)) hs_a0 ⟨by decide, rfl⟩ kd29_25.2.1 rfl rfl (by simp [Value.category]) (by decide) (by decide) (by decide) (by decide) (fun r63 S65 g64 pr63 qr63 hg64 => ?_)
        obtain ⟨rfl, rfl⟩ := pr63
        refine X_st [] rfl ?_
        refine X_goto hK 148 kd29_25.2.2.1 (by decide) ?_
        exact hret _ _ _ _ _ _ kd29_27.2.2.2 ⟨rfl, rfl⟩ (Nat.le_refl _) (Nat.le_refl _)

set_option maxHeartbeats 4000000 in
set_option maxRecDepth 100000 in
theorem c_X7_readAll_8 (l : Launch) (D : va_G) (kA : Nat → ClassId) (b0 : Nat) (t0 : Nat → Nat) (S : xT) (g : xG) (a0 : Nat) (a1 : Nat) (x2 : Int) (hs_a0 : S a0 = some (8, 0)) (hs_a1 : S a1 = some (11, 0)) (hx2 : 8 ≤ x2 ∧ x2 ≤ 8) : xMt l yX7_readAll cX7_readAll 4 none 11 0 0 255 D kA b0 t0 [(8, 5), (8, 6), (8, 3), (8, 2), (14000, 0), (11, 2)] [.ref a0, .ref a1, .int (iI x2)] S g (fun (r : Option Value) (S1 : xT) (g1 : xG) => S = S1 ∧ r = none) := by
  refine xEnterV (by decide) (by simp [lg_sl, Value.category]) [(0, .ref a0), (1, .ref a1), (2, .int (iI x2))] rfl ?_
  intro K E hK hret _ _ _
  refine X_aloadn hK (i := 0) 0 kd29_0.1 rfl rfl ?_
  refine X_aloadn hK (i := 1) 1 kd29_0.2.1 rfl rfl ?_
  refine X_iloadn hK (i := 2) 2 kd29_0.2.2.1 rfl rfl ?_
  refine X_callV hK [.ref a1, .int (iI x2)] [] lk_X7_132 (c_X7_readOne_8 _ _ _ _ _ S g a0 a1 x2 hs_a0 hs_a1 (by omega)) hs_a0 ⟨by decide, rfl⟩ kd29_0.2.2.2.1 rfl rfl (by simp [Value.category]) (by decide) (by decide) (by decide) (by decide) (fun r1 S3 g2 pr1 qr1 hg2 => ?_)
  obtain ⟨rfl, rfl⟩ := pr1
  refine X_st [] rfl ?_
  refine X_iconst hK kd29_0.2.2.2.2.1 ?_
  refine X_istoren hK (i := 3) [(3, .int (iI 0)), (0, .ref a0), (1, .ref a1), (2, .int (iI x2))] kd29_0.2.2.2.2.2.1 rfl (by decide) rfl ?_
  have P117 : ∀ (nP117 : Nat) (g99 : xG) (_ : xM [(14000, 0), (11, 2), (8, 5), (8, 6), (8, 3), (8, 2)] S g2 g99) (z98 : Int) (_ : 0 ≤ z98) (_ : z98 ≤ 50) (_ : 66 - z98 < (nP117 : Int)), X K E 8 [(3, .int (iI z98)), (0, .ref a0), (1, .ref a1), (2, .int (iI x2))] [] S g99 0 0 := by
    intro nP117
    induction nP117 with
    | zero => intro g99 hg99 z98 lz98 uz98 mP117; exact False.elim (by omega)
    | succ nP117 ihP117 =>
      intro g99 hg99 z98 lz98 uz98 mP117
      refine X_iloadn hK (i := 3) 0 kd29_0.2.2.2.2.2.2.1 rfl rfl ?_
      refine X_bipush hK kd29_0.2.2.2.2.2.2.2.1 (by decide) ?_
      refine X_icmp_ge hK 60 (by omega) (by omega) kd29_0.2.2.2.2.2.2.2.2.1 (by decide) (fun c118 => ?_) (fun c118 => ?_)
      · exact hret _ _ _ _ _ _ kd29_2.2.2.2.2.2.2.2.2.2.1 ⟨rfl, rfl⟩ (Nat.le_refl _) (Nat.le_refl _)
      · refine X_aloadn hK (i := 0) 1 kd29_0.2.2.2.2.2.2.2.2.2.1 rfl rfl ?_
        refine X_geti hK fl_X7_29_8 hs_a0 sl_8_5 kd29_0.2.2.2.2.2.2.2.2.2.2.1 (fun z119 ez119 lz119 uz119 => ?_)
        refine X_if_ne hK 60 (by omega) kd29_0.2.2.2.2.2.2.2.2.2.2.2 (by decide) (fun c120 => ?_) (fun c120 => ?_)
        · exact hret _ _ _ _ _ _ kd29_2.2.2.2.2.2.2.2.2.2.1 ⟨rfl, rfl⟩ (Nat.le_refl _) (Nat.le_refl _)
        · refine X_aloadn hK (i := 0) 1 kd29_1.1 rfl rfl ?_
          refine X_know hs_a0 (by decide) sl_8_2 (fun z121 ez121 lz121 uz121 => ?_)
          refine X_callV hK [] [] lk_X7_47 (c_X7_now _ _ _ _ _ S g99 a0 z121 hs_a0 (by omega) ez121) hs_a0 ⟨by decide, rfl⟩ kd29_1.2.1 rfl rfl (by simp [Value.category]) (by decide) (by decide) (by decide) (by decide) (fun r122 S124 g123 pr122 qr122 hg123 => ?_)
          obtain ⟨rfl, rfl, z125, rfl, lz125, uz125, k126⟩ := pr122
          refine X_st [.int (iI z125)] rfl ?_
          refine X_bipush hK kd29_1.2.2.1 (by decide) ?_
          refine X_icmp_ne hK 60 (by omega) (by omega) kd29_1.2.2.2.1 (by decide) (fun c127 => ?_) (fun c127 => ?_)
          · exact hret _ _ _ _ _ _ kd29_2.2.2.2.2.2.2.2.2.2.1 ⟨rfl, rfl⟩ (Nat.le_refl _) (Nat.le_refl _)
          · refine X_aloadn hK (i := 0) 1 kd29_1.2.2.2.2.1 rfl rfl ?_
            refine X_dup hK kd29_1.2.2.2.2.2.1 rfl ?_
            refine X_getK hK fl_X7_18_8 hs_a0 ez121 kd29_1.2.2.2.2.2.2.1 ?_
            refine X_iconst hK kd29_1.2.2.2.2.2.2.2.1 ?_
            refine X_iadd hK kd29_1.2.2.2.2.2.2.2.2.1 ?_
            refine X_puti hK fl_X7_18_8 hs_a0 (by decide) sl_8_2 (by omega) (by omega) kd29_1.2.2.2.2.2.2.2.2.2.1 (fun g128 hg128 => ?_)
            refine X_aloadn hK (i := 0) 1 kd29_1.2.2.2.2.2.2.2.2.2.2.1 rfl rfl ?_
            refine X_aloadn hK (i := 1) 2 kd29_1.2.2.2.2.2.2.2.2.2.2.2 rfl rfl ?_
            refine X_iloadn hK (i := 2) 3 kd29_2.1 rfl rfl ?_
            refine X_callV hK [.ref a1, .int (iI x2)] [] lk_X7_132 (c_X7_readOne_8 _ _ _ _ _ S g128 a0 a1 x2 hs_a0 hs_a1 (by omega)) hs_a0 ⟨by decide, rfl⟩ kd29_2.2.1 rfl rfl (by simp [Value.category]) (by decide) (by decide) (by decide) (by decide) (fun r129 S131 g130 pr129 qr129 hg130 => ?_)
            obtain ⟨rfl, rfl⟩ := pr129
            refine X_st [] rfl ?_
            refine X_aloadn hK (i := 1) 2 kd29_2.2.2.1 rfl rfl ?_
            refine X_bipush hK kd29_2.2.2.2.1 (by decide) ?_
            refine X_iconst hK kd29_2.2.2.2.2.1 ?_
            refine X_iconst hK kd29_2.2.2.2.2.2.1 ?_
            refine X_callV hK [.int (iI 13), .int (iI 0), .int (iI 0)] [] lk_X7_129 (c_X10_addStep _ _ _ _ _ S g130 a1 13 0 0 hs_a1 (by omega) (by omega) (by omega)) hs_a1 ⟨by decide, rfl⟩ kd29_2.2.2.2.2.2.2.1 rfl rfl (by simp [Value.category]) (by decide) (by decide) (by decide) (by decide) (fun r132 S134 g133 pr132 qr132 hg133 => ?_)
            obtain ⟨rfl, rfl⟩ := pr132
            refine X_st [] rfl ?_
            refine X_iinc hK (i := 3) (z := z98) (n := 1) 0 [(3, .int (iI (z98 + 1))), (0, .ref a0), (1, .ref a1), (2, .int (iI x2))] kd29_2.2.2.2.2.2.2.2.1 rfl (by decide) rfl ?_
            refine X_goto hK 8 kd29_2.2.2.2.2.2.2.2.2.1 (by decide) ?_
            exact ihP117  g133 (xM.tr (xM.tr (xM_up (xM.tr xM.rf xLe.rf hg99 (by decide)) hg128 hs_a0 (by decide) (by decide)) xLe.rf hg130 (by decide)) xLe.rf hg133 (by decide)) (z98 + 1) (by omega) (by omega) (by omega)
  exact P117 ((66 - 0 : Int).toNat + 1) g2 xM.rf 0 (by omega) (by omega) (by omega)

set_option maxHeartbeats 4000000 in
set_option maxRecDepth 100000 in
theorem c_X7_readCond_8 (l : Launch) (D : va_G) (kA : Nat → ClassId) (b0 : Nat) (t0 : Nat → Nat) (S : xT) (g : xG) (a0 : Nat) (a1 : Nat) (x2 : Int) (hs_a0 : S a0 = some (8, 0)) (hs_a1 : S a1 = some (11, 0)) (hx2 : 8 ≤ x2 ∧ x2 ≤ 8) : xMt l yX7_readCond cX7_readCond 4 none 12 0 0 278 D kA b0 t0 [(8, 5), (8, 6), (8, 3), (8, 2), (14000, 0), (11, 2)] [.ref a0, .ref a1, .int (iI x2)] S g (fun (r : Option Value) (S1 : xT) (g1 : xG) => S = S1 ∧ r = none) := by
  refine xEnterV (by decide) (by simp [lg_sl, Value.category]) [(0, .ref a0), (1, .ref a1), (2, .int (iI x2))] rfl ?_
  intro K E hK hret _ _ _
  refine X_aloadn hK (i := 0) 0 kd29_2.2.2.2.2.2.2.2.2.2.2.1 rfl rfl ?_
  refine X_aloadn hK (i := 1) 1 kd29_2.2.2.2.2.2.2.2.2.2.2.2 rfl rfl ?_
  refine X_iloadn hK (i := 2) 2 kd29_3.1 rfl rfl ?_
  refine X_callV hK [.ref a1, .int (iI x2)] [] lk_X7_126 (c_X7_readAll_8 _ _ _ _ _ S g a0 a1 x2 hs_a0 hs_a1 (by omega)) hs_a0 ⟨by decide, rfl⟩ kd29_3.2.1 rfl rfl (by simp [Value.category]) (by decide) (by decide) (by decide) (by decide) (fun r1 S3 g2 pr1 qr1 hg2 => ?_)
  obtain ⟨rfl, rfl⟩ := pr1
  refine X_st [] rfl ?_
  refine X_iconst hK kd29_3.2.2.1 ?_
  refine X_istoren hK (i := 3) [(3, .int (iI 0)), (0, .ref a0), (1, .ref a1), (2, .int (iI x2))] kd29_3.2.2.2.1 rfl (by decide) rfl ?_
  have P117 : ∀ (nP117 : Nat) (g99 : xG) (_ : xM [(14000, 0), (11, 2), (8, 5), (8, 6), (8, 3), (8, 2)] S g2 g99) (z98 : Int) (_ : 0 ≤ z98) (_ : z98 ≤ 50) (_ : 66 - z98 < (nP117 : Int)), X K E 8 [(3, .int (iI z98)), (0, .ref a0), (1, .ref a1), (2, .int (iI x2))] [] S g99 0 0 := by
    intro nP117
    induction nP117 with
    | zero => intro g99 hg99 z98 lz98 uz98 mP117; exact False.elim (by omega)
    | succ nP117 ihP117 =>
      intro g99 hg99 z98 lz98 uz98 mP117
      refine X_iloadn hK (i := 3) 0 kd29_3.2.2.2.2.1 rfl rfl ?_
      refine X_bipush hK kd29_3.2.2.2.2.2.1 (by decide) ?_
      refine X_icmp_ge hK 60 (by omega) (by omega) kd29_3.2.2.2.2.2.2.1 (by decide) (fun c118 => ?_) (fun c118 => ?_)
      · exact hret _ _ _ _ _ _ kd29_5.2.2.2.2.2.2.2.1 ⟨rfl, rfl⟩ (Nat.le_refl _) (Nat.le_refl _)
      · refine X_aloadn hK (i := 0) 1 kd29_3.2.2.2.2.2.2.2.1 rfl rfl ?_
        refine X_geti hK fl_X7_29_8 hs_a0 sl_8_5 kd29_3.2.2.2.2.2.2.2.2.1 (fun z119 ez119 lz119 uz119 => ?_)
        refine X_if_ne hK 60 (by omega) kd29_3.2.2.2.2.2.2.2.2.2.1 (by decide) (fun c120 => ?_) (fun c120 => ?_)
        · exact hret _ _ _ _ _ _ kd29_5.2.2.2.2.2.2.2.1 ⟨rfl, rfl⟩ (Nat.le_refl _) (Nat.le_refl _)
        · refine X_aloadn hK (i := 0) 1 kd29_3.2.2.2.2.2.2.2.2.2.2.1 rfl rfl ?_
          refine X_know hs_a0 (by decide) sl_8_2 (fun z121 ez121 lz121 uz121 => ?_)
          refine X_callV hK [] [] lk_X7_47 (c_X7_now _ _ _ _ _ S g99 a0 z121 hs_a0 (by omega) ez121) hs_a0 ⟨by decide, rfl⟩ kd29_3.2.2.2.2.2.2.2.2.2.2.2 rfl rfl (by simp [Value.category]) (by decide) (by decide) (by decide) (by decide) (fun r122 S124 g123 pr122 qr122 hg123 => ?_)
          obtain ⟨rfl, rfl, z125, rfl, lz125, uz125, k126⟩ := pr122
          refine X_st [.int (iI z125)] rfl ?_
          refine X_bipush hK kd29_4.1 (by decide) ?_
          refine X_icmp_ne hK 60 (by omega) (by omega) kd29_4.2.1 (by decide) (fun c127 => ?_) (fun c127 => ?_)
          · exact hret _ _ _ _ _ _ kd29_5.2.2.2.2.2.2.2.1 ⟨rfl, rfl⟩ (Nat.le_refl _) (Nat.le_refl _)
          · refine X_aloadn hK (i := 0) 1 kd29_4.2.2.1 rfl rfl ?_
            refine X_dup hK kd29_4.2.2.2.1 rfl ?_
            refine X_getK hK fl_X7_18_8 hs_a0 ez121 kd29_4.2.2.2.2.1 ?_
            refine X_iconst hK kd29_4.2.2.2.2.2.1 ?_
            refine X_iadd hK kd29_4.2.2.2.2.2.2.1 ?_
            refine X_puti hK fl_X7_18_8 hs_a0 (by decide) sl_8_2 (by omega) (by omega) kd29_4.2.2.2.2.2.2.2.1 (fun g128 hg128 => ?_)
            refine X_aloadn hK (i := 0) 1 kd29_4.2.2.2.2.2.2.2.2.1 rfl rfl ?_
            refine X_aloadn hK (i := 1) 2 kd29_4.2.2.2.2.2.2.2.2.2.1 rfl rfl ?_
            refine X_iloadn hK (i := 2) 3 kd29_4.2.2.2.2.2.2.2.2.2.2.1 rfl rfl ?_
            refine X_callV hK [.ref a1, .int (iI x2)] [] lk_X7_126 (c_X7_readAll_8 _ _ _ _ _ S g128 a0 a1 x2 hs_a0 hs_a1 (by omega)) hs_a0 ⟨by decide, rfl⟩ kd29_4.2.2.2.2.2.2.2.2.2.2.2 rfl rfl (by simp [Value.category]) (by decide) (by decide) (by decide) (by decide) (fun r129 S131 g130 pr129 qr129 hg130 => ?_)
            obtain ⟨rfl, rfl⟩ := pr129
            refine X_st [] rfl ?_
            refine X_aloadn hK (i := 1) 2 kd29_5.1 rfl rfl ?_
            refine X_bipush hK kd29_5.2.1 (by decide) ?_
            refine X_iconst hK kd29_5.2.2.1 ?_
            refine X_iconst hK kd29_5.2.2.2.1 ?_
            refine X_callV hK [.int (iI 14), .int (iI 0), .int (iI 0)] [] lk_X7_129 (c_X10_addStep _ _ _ _ _ S g130 a1 14 0 0 hs_a1 (by omega) (by omega) (by omega)) hs_a1 ⟨by decide, rfl⟩ kd29_5.2.2.2.2.1 rfl rfl (by simp [Value.category]) (by decide) (by decide) (by decide) (by decide) (fun r132 S134 g133 pr132 qr132 hg133 => ?_)
            obtain ⟨rfl, rfl⟩ := pr132
            refine X_st [] rfl ?_
            refine X_iinc hK (i := 3) (z := z98) (n := 1) 0 [(3, .int (iI (z98 + 1))), (0, .ref a0), (1, .ref a1), (2, .int (iI x2))] kd29_5.2.2.2.2.2.1 rfl (by decide) rfl ?_
            refine X_goto hK 8 kd29_5.2.2.2.2.2.2.1 (by decide) ?_
            exact ihP117  g133 (xM.tr (xM.tr (xM_up (xM.tr xM.rf xLe.rf hg99 (by decide)) hg128 hs_a0 (by decide) (by decide)) xLe.rf hg130 (by decide)) xLe.rf hg133 (by decide)) (z98 + 1) (by omega) (by omega) (by omega)
  exact P117 ((66 - 0 : Int).toNat + 1) g2 xM.rf 0 (by omega) (by omega) (by omega)

set_option maxHeartbeats 4000000 in
set_option maxRecDepth 100000 in
theorem c_X7_readOne_7 (l : Launch) (D : va_G) (kA : Nat → ClassId) (b0 : Nat) (t0 : Nat → Nat) (S : xT) (g : xG) (a0 : Nat) (a1 : Nat) (x2 : Int) (hs_a0 : S a0 = some (8, 0)) (hs_a1 : S a1 = some (11, 0)) (hx2 : 7 ≤ x2 ∧ x2 ≤ 7) : xMt l yX7_readOne cX7_readOne 5 none 13 0 0 301 D kA b0 t0 [(8, 5), (8, 6), (8, 3), (8, 2), (14000, 0), (11, 2)] [.ref a0, .ref a1, .int (iI x2)] S g (fun (r : Option Value) (S1 : xT) (g1 : xG) => S = S1 ∧ r = none) := by
  refine xEnterV (by decide) (by simp [lg_sl, Value.category]) [(0, .ref a0), (1, .ref a1), (2, .int (iI x2))] rfl ?_
  intro K E hK hret _ _ _
  refine X_aloadn hK (i := 0) 0 kd29_20.2.2.2.2.2.2.1 rfl rfl ?_
  refine X_know hs_a0 (by decide) sl_8_2 (fun z1 ez1 lz1 uz1 => ?_)
  refine X_callV hK [] [] lk_X7_47 (c_X7_now _ _ _ _ _ S g a0 z1 hs_a0 (by omega) ez1) hs_a0 ⟨by decide, rfl⟩ kd29_20.2.2.2.2.2.2.2.1 rfl rfl (by simp [Value.category]) (by decide) (by decide) (by decide) (by decide) (fun r2 S4 g3 pr2 qr2 hg3 => ?_)
  obtain ⟨rfl, rfl, z5, rfl, lz5, uz5, k6⟩ := pr2
  refine X_st [.int (iI z5)] rfl ?_
  refine X_istoren hK (i := 3) [(3, .int (iI z5)), (0, .ref a0), (1, .ref a1), (2, .int (iI x2))] kd29_20.2.2.2.2.2.2.2.2.1 rfl (by decide) rfl ?_
  refine X_iloadn hK (i := 3) 0 kd29_20.2.2.2.2.2.2.2.2.2.1 rfl rfl ?_
  refine X_bipush hK kd29_20.2.2.2.2.2.2.2.2.2.2.1 (by decide) ?_
  refine X_icmp_lt hK 21 (by omega) (by omega) kd29_20.2.2.2.2.2.2.2.2.2.2.2 (by decide) (fun c7 => ?_) (fun c7 => ?_)
  · refine X_iconst hK kd29_21.2.2.2.2.2.1 ?_
    refine X_istore hK (i := 4) [(4, .int (iI 0)), (3, .int (iI z5)), (0, .ref a0), (1, .ref a1), (2, .int (iI x2))] kd29_21.2.2.2.2.2.2.1 (by decide) rfl ?_
    refine X_iload hK (i := 4) 0 kd29_21.2.2.2.2.2.2.2.1 rfl ?_
    refine X_if_ne hK 49 (by omega) kd29_21.2.2.2.2.2.2.2.2.1 (by decide) (fun c8 => False.elim (by omega)) (fun c8 => ?_)
    refine X_iloadn hK (i := 3) 1 kd29_21.2.2.2.2.2.2.2.2.2.1 rfl rfl ?_
    refine X_bipush hK kd29_21.2.2.2.2.2.2.2.2.2.2.1 (by decide) ?_
    refine X_icmp_eq hK 49 (by omega) (by omega) kd29_21.2.2.2.2.2.2.2.2.2.2.2 (by decide) (fun c9 => ?_) (fun c9 => ?_)
    · refine X_aloadn hK (i := 0) 2 kd29_22.2.2.2.2.2.2.2.1 rfl rfl ?_
      refine X_geti hK fl_X7_22_8 hs_a0 sl_8_3 kd29_22.2.2.2.2.2.2.2.2.1 (fun z10 ez10 lz10 uz10 => ?_)
      refine X_bipush hK kd29_22.2.2.2.2.2.2.2.2.2.1 (by decide) ?_
      refine X_icmp_ge hK 64 (by omega) (by omega) kd29_22.2.2.2.2.2.2.2.2.2.2.1 (by decide) (fun c11 => ?_) (fun c11 => ?_)
      · refine X_aloadn hK (i := 0) 2 kd29_23.2.2.1 rfl rfl ?_
        refine X_iconst hK kd29_23.2.2.2.1 ?_
        refine X_callV hK [.int (iI 4)] [] lk_X7_60 (c_X7_tell _ _ _ _ _ S g a0 4 hs_a0 (by omega)) hs_a0 ⟨by decide, rfl⟩ kd29_23.2.2.2.2.1 rfl rfl (by simp [Value.category]) (by decide) (by decide) (by decide) (by decide) (fun r12 S14 g13 pr12 qr12 hg13 => ?_)
        obtain ⟨rfl, rfl⟩ := pr12
        refine X_st [] rfl ?_
        refine X_goto hK 148 kd29_23.2.2.2.2.2.1 (by decide) ?_
        exact hret _ _ _ _ _ _ kd29_27.2.2.2 ⟨rfl, rfl⟩ (Nat.le_refl _) (Nat.le_refl _)
      · refine X_iloadn hK (i := 2) 4 kd29_22.2.2.2.2.2.2.2.2.2.2.2 rfl rfl ?_
        refine X_bipush hK kd29_23.1 (by decide) ?_
        refine X_icmp_le hK 72 (by omega) (by omega) kd29_23.2.1 (by decide) (fun c15 => ?_) (fun c15 => False.elim (by omega))
        refine X_aloadn hK (i := 0) 2 kd29_23.2.2.2.2.2.2.1 rfl rfl ?_
        refine X_dup hK kd29_23.2.2.2.2.2.2.2.1 rfl ?_
        refine X_getK hK fl_X7_22_8 hs_a0 ez10 kd29_23.2.2.2.2.2.2.2.2.1 ?_
        refine X_iconst hK kd29_23.2.2.2.2.2.2.2.2.2.1 ?_
        refine X_iadd hK kd29_23.2.2.2.2.2.2.2.2.2.2.1 ?_
        refine X_puti hK fl_X7_22_8 hs_a0 (by decide) sl_8_3 (by omega) (by omega) kd29_23.2.2.2.2.2.2.2.2.2.2.2 (fun g16 hg16 => ?_)
        refine X_aloadn hK (i := 0) 2 kd29_24.1 rfl rfl ?_
        refine X_dup hK kd29_24.2.1 rfl ?_
        refine X_getK hK fl_X7_18_8 hs_a0 ((xs_k hg16 (by decide)).trans ez1) kd29_24.2.2.1 ?_
        refine X_iconst hK kd29_24.2.2.2.1 ?_
        refine X_iadd hK kd29_24.2.2.2.2.1 ?_
        refine X_puti hK fl_X7_18_8 hs_a0 (by decide) sl_8_2 (by omega) (by omega) kd29_24.2.2.2.2.2.1 (fun g17 hg17 => ?_)
        refine X_iload hK (i := 4) 0 kd29_24.2.2.2.2.2.2.1 rfl ?_
        refine X_if_eq hK 109 (by omega) kd29_24.2.2.2.2.2.2.2.1 (by decide) (fun c18 => ?_) (fun c18 => False.elim (by omega))
        refine X_iloadn hK (i := 3) 1 kd29_25.2.2.2.1 rfl rfl ?_
        refine X_bipush hK kd29_25.2.2.2.2.1 (by decide) ?_
        refine X_icmp_ne hK 132 (by omega) (by omega) kd29_25.2.2.2.2.2.1 (by decide) (fun c19 => ?_) (fun c19 => False.elim (by omega))
        refine X_aloadn hK (i := 0) 2 kd29_26.2.2.2.2.1 rfl rfl ?_
        refine X_aloadn hK (i := 1) 3 kd29_26.2.2.2.2.2.1 rfl rfl ?_
        refine X_iloadn hK (i := 2) 4 kd29_26.2.2.2.2.2.2.1 rfl rfl ?_
        refine X_iconst hK kd29_26.2.2.2.2.2.2.2.1 ?_
        refine X_iadd hK kd29_26.2.2.2.2.2.2.2.2.1 ?_
        refine X_callV hK [.ref a1, .int (iI (x2 + 1))] [] lk_X7_132 (c_X7_readOne_8 _ _ _ _ _ S g17 a0 a1 (x2 + 1) hs_a0 hs_a1 (by omega)) hs_a0 ⟨by decide, rfl⟩ kd29_26.2.2.2.2.2.2.2.2.2.1 rfl rfl (by simp [Value.category]) (by decide) (by decide) (by decide) (by decide) (fun r20 S22 g21 pr20 qr20 hg21 => ?_)
        obtain ⟨rfl, rfl⟩ := pr20
        refine X_st [] rfl ?_
        refine X_aloadn hK (i := 1) 3 kd29_26.2.2.2.2.2.2.2.2.2.2.1 rfl rfl ?_
        refine X_bipush hK kd29_26.2.2.2.2.2.2.2.2.2.2.2 (by decide) ?_
        refine X_iconst hK kd29_27.1 ?_
        refine X_iconst hK kd29_27.2.1 ?_
        refine X_callV hK [.int (iI 12), .int (iI 0), .int (iI 0)] [] lk_X7_129 (c_X10_addStep _ _ _ _ _ S g21 a1 12 0 0 hs_a1 (by omega) (by omega) (by omega)) hs_a1 ⟨by decide, rfl⟩ kd29_27.2.2.1 rfl rfl (by simp [Value.category]) (by decide) (by decide) (by decide) (by decide) (fun r23 S25 g24 pr23 qr23 hg24 => ?_)
        obtain ⟨rfl, rfl⟩ := pr23
        refine X_st [] rfl ?_
        exact hret _ _ _ _ _ _ kd29_27.2.2.2 ⟨rfl, rfl⟩ (Nat.le_refl _) (Nat.le_refl _)
    · refine X_iloadn hK (i := 3) 1 kd29_22.1 rfl rfl ?_
      refine X_bipush hK kd29_22.2.1 (by decide) ?_
      refine X_icmp_eq hK 49 (by omega) (by omega) kd29_22.2.2.1 (by decide) (fun c26 => False.elim (by omega)) (fun c26 => ?_)
      refine X_aloadn hK (i := 0) 2 kd29_22.2.2.2.1 rfl rfl ?_
      refine X_iconst hK kd29_22.2.2.2.2.1 ?_
      refine X_callV hK [.int (iI 1)] [] lk_X7_60 (c_X7_tell _ _ _ _ _ S g a0 1 hs_a0 (by omega)) hs_a0 ⟨by decide, rfl⟩ kd29_22.2.2.2.2.2.1 rfl rfl (by simp [Value.category]) (by decide) (by decide) (by decide) (by decide) (fun r27 S29 g28 pr27 qr27 hg28 => ?_)
      obtain ⟨rfl, rfl⟩ := pr27
      refine X_st [] rfl ?_
      refine X_goto hK 148 kd29_22.2.2.2.2.2.2.1 (by decide) ?_
      exact hret _ _ _ _ _ _ kd29_27.2.2.2 ⟨rfl, rfl⟩ (Nat.le_refl _) (Nat.le_refl _)
  · refine X_iloadn hK (i := 3) 0 kd29_21.1 rfl rfl ?_
    refine X_bipush hK kd29_21.2.1 (by decide) ?_
    refine X_icmp_ge hK 21 (by omega) (by omega) kd29_21.2.2.1 (by decide) (fun c30 => ?_) (fun c30 => ?_)
    · refine X_iconst hK kd29_21.2.2.2.2.2.1 ?_
      refine X_istore hK (i := 4) [(4, .int (iI 0)), (3, .int (iI z5)), (0, .ref a0), (1, .ref a1), (2, .int (iI x2))] kd29_21.2.2.2.2.2.2.1 (by decide) rfl ?_
      refine X_iload hK (i := 4) 0 kd29_21.2.2.2.2.2.2.2.1 rfl ?_
      refine X_if_ne hK 49 (by omega) kd29_21.2.2.2.2.2.2.2.2.1 (by decide) (fun c31 => False.elim (by omega)) (fun c31 => ?_)
      refine X_iloadn hK (i := 3) 1 kd29_21.2.2.2.2.2.2.2.2.2.1 rfl rfl ?_
      refine X_bipush hK kd29_21.2.2.2.2.2.2.2.2.2.2.1 (by decide) ?_
      refine X_icmp_eq hK 49 (by omega) (by omega) kd29_21.2.2.2.2.2.2.2.2.2.2.2 (by decide) (fun c32 => False.elim (by omega)) (fun c32 => ?_)
      refine X_iloadn hK (i := 3) 1 kd29_22.1 rfl rfl ?_
      refine X_bipush hK kd29_22.2.1 (by decide) ?_
      refine X_icmp_eq hK 49 (by omega) (by omega) kd29_22.2.2.1 (by decide) (fun c33 => ?_) (fun c33 => ?_)
      · refine X_aloadn hK (i := 0) 2 kd29_22.2.2.2.2.2.2.2.1 rfl rfl ?_
        refine X_geti hK fl_X7_22_8 hs_a0 sl_8_3 kd29_22.2.2.2.2.2.2.2.2.1 (fun z34 ez34 lz34 uz34 => ?_)
        refine X_bipush hK kd29_22.2.2.2.2.2.2.2.2.2.1 (by decide) ?_
        refine X_icmp_ge hK 64 (by omega) (by omega) kd29_22.2.2.2.2.2.2.2.2.2.2.1 (by decide) (fun c35 => ?_) (fun c35 => ?_)
        · refine X_aloadn hK (i := 0) 2 kd29_23.2.2.1 rfl rfl ?_
          refine X_iconst hK kd29_23.2.2.2.1 ?_
          refine X_callV hK [.int (iI 4)] [] lk_X7_60 (c_X7_tell _ _ _ _ _ S g a0 4 hs_a0 (by omega)) hs_a0 ⟨by decide, rfl⟩ kd29_23.2.2.2.2.1 rfl rfl (by simp [Value.category]) (by decide) (by decide) (by decide) (by decide) (fun r36 S38 g37 pr36 qr36 hg37 => ?_)
          obtain ⟨rfl, rfl⟩ := pr36
          refine X_st [] rfl ?_
          refine X_goto hK 148 kd29_23.2.2.2.2.2.1 (by decide) ?_
          exact hret _ _ _ _ _ _ kd29_27.2.2.2 ⟨rfl, rfl⟩ (Nat.le_refl _) (Nat.le_refl _)
        · refine X_iloadn hK (i := 2) 4 kd29_22.2.2.2.2.2.2.2.2.2.2.2 rfl rfl ?_
          refine X_bipush hK kd29_23.1 (by decide) ?_
          refine X_icmp_le hK 72 (by omega) (by omega) kd29_23.2.1 (by decide) (fun c39 => ?_) (fun c39 => False.elim (by omega))
          refine X_aloadn hK (i := 0) 2 kd29_23.2.2.2.2.2.2.1 rfl rfl ?_
          refine X_dup hK kd29_23.2.2.2.2.2.2.2.1 rfl ?_
          refine X_getK hK fl_X7_22_8 hs_a0 ez34 kd29_23.2.2.2.2.2.2.2.2.1 ?_
          refine X_iconst hK kd29_23.2.2.2.2.2.2.2.2.2.1 ?_
          refine X_iadd hK kd29_23.2.2.2.2.2.2.2.2.2.2.1 ?_
          refine X_puti hK fl_X7_22_8 hs_a0 (by decide) sl_8_3 (by omega) (by omega) kd29_23.2.2.2.2.2.2.2.2.2.2.2 (fun g40 hg40 => ?_)
          refine X_aloadn hK (i := 0) 2 kd29_24.1 rfl rfl ?_
          refine X_dup hK kd29_24.2.1 rfl ?_
          refine X_getK hK fl_X7_18_8 hs_a0 ((xs_k hg40 (by decide)).trans ez1) kd29_24.2.2.1 ?_
          refine X_iconst hK kd29_24.2.2.2.1 ?_
          refine X_iadd hK kd29_24.2.2.2.2.1 ?_
          refine X_puti hK fl_X7_18_8 hs_a0 (by decide) sl_8_2 (by omega) (by omega) kd29_24.2.2.2.2.2.1 (fun g41 hg41 => ?_)
          refine X_iload hK (i := 4) 0 kd29_24.2.2.2.2.2.2.1 rfl ?_
          refine X_if_eq hK 109 (by omega) kd29_24.2.2.2.2.2.2.2.1 (by decide) (fun c42 => ?_) (fun c42 => False.elim (by omega))
          refine X_iloadn hK (i := 3) 1 kd29_25.2.2.2.1 rfl rfl ?_
          refine X_bipush hK kd29_25.2.2.2.2.1 (by decide) ?_
          refine X_icmp_ne hK 132 (by omega) (by omega) kd29_25.2.2.2.2.2.1 (by decide) (fun c43 => False.elim (by omega)) (fun c43 => ?_)
          refine X_aloadn hK (i := 0) 2 kd29_25.2.2.2.2.2.2.1 rfl rfl ?_
          refine X_aloadn hK (i := 1) 3 kd29_25.2.2.2.2.2.2.2.1 rfl rfl ?_
          refine X_iloadn hK (i := 2) 4 kd29_25.2.2.2.2.2.2.2.2.1 rfl rfl ?_
          refine X_iconst hK kd29_25.2.2.2.2.2.2.2.2.2.1 ?_
          refine X_iadd hK kd29_25.2.2.2.2.2.2.2.2.2.2.1 ?_
          refine X_callV hK [.ref a1, .int (iI (x2 + 1))] [] lk_X7_115 (c_X7_readCond_8 _ _ _ _ _ S g41 a0 a1 (x2 + 1) hs_a0 hs_a1 (by omega)) hs_a0 ⟨by decide, rfl⟩ kd29_25.2.2.2.2.2.2.2.2.2.2.2 rfl rfl (by simp [Value.category]) (by decide) (by decide) (by decide) (by decide) (fun r44 S46 g45 pr44 qr44 hg45 => ?_)
          obtain ⟨rfl, rfl⟩ := pr44
          refine X_st [] rfl ?_
          refine X_aloadn hK (i := 0) 2 kd29_26.1 rfl rfl ?_
          refine X_bipush hK kd29_26.2.1 (by decide) ?_
          refine X_callV hK [.int (iI 26)] [] lk_X7_119 (c_X7_expect _ _ _ _ _ S g45 a0 26 hs_a0 (by omega)) hs_a0 ⟨by decide, rfl⟩ kd29_26.2.2.1 rfl rfl (by simp [Value.category]) (by decide) (by decide) (by decide) (by decide) (fun r47 S49 g48 pr47 qr47 hg48 => ?_)
          obtain ⟨rfl, rfl⟩ := pr47
          refine X_st [] rfl ?_
          refine X_goto hK 148 kd29_26.2.2.2.1 (by decide) ?_
          exact hret _ _ _ _ _ _ kd29_27.2.2.2 ⟨rfl, rfl⟩ (Nat.le_refl _) (Nat.le_refl _)
      · refine X_aloadn hK (i := 0) 2 kd29_22.2.2.2.1 rfl rfl ?_
        refine X_iconst hK kd29_22.2.2.2.2.1 ?_
        refine X_callV hK [.int (iI 1)] [] lk_X7_60 (c_X7_tell _ _ _ _ _ S g a0 1 hs_a0 (by omega)) hs_a0 ⟨by decide, rfl⟩ kd29_22.2.2.2.2.2.1 rfl rfl (by simp [Value.category]) (by decide) (by decide) (by decide) (by decide) (fun r50 S52 g51 pr50 qr50 hg51 => ?_)
        obtain ⟨rfl, rfl⟩ := pr50
        refine X_st [] rfl ?_
        refine X_goto hK 148 kd29_22.2.2.2.2.2.2.1 (by decide) ?_
        exact hret _ _ _ _ _ _ kd29_27.2.2.2 ⟨rfl, rfl⟩ (Nat.le_refl _) (Nat.le_refl _)
    · refine X_iconst hK kd29_21.2.2.2.1 ?_
      refine X_goto hK 22 kd29_21.2.2.2.2.1 (by decide) ?_
      refine X_istore hK (i := 4) [(4, .int (iI 1)), (3, .int (iI z5)), (0, .ref a0), (1, .ref a1), (2, .int (iI x2))] kd29_21.2.2.2.2.2.2.1 (by decide) rfl ?_
      refine X_iload hK (i := 4) 0 kd29_21.2.2.2.2.2.2.2.1 rfl ?_
      refine X_if_ne hK 49 (by omega) kd29_21.2.2.2.2.2.2.2.2.1 (by decide) (fun c53 => ?_) (fun c53 => False.elim (by omega))
      refine X_aloadn hK (i := 0) 2 kd29_22.2.2.2.2.2.2.2.1 rfl rfl ?_
      refine X_geti hK fl_X7_22_8 hs_a0 sl_8_3 kd29_22.2.2.2.2.2.2.2.2.1 (fun z54 ez54 lz54 uz54 => ?_)
      refine X_bipush hK kd29_22.2.2.2.2.2.2.2.2.2.1 (by decide) ?_
      refine X_icmp_ge hK 64 (by omega) (by omega) kd29_22.2.2.2.2.2.2.2.2.2.2.1 (by decide) (fun c55 => ?_) (fun c55 => ?_)
      · refine X_aloadn hK (i := 0) 2 kd29_23.2.2.1 rfl rfl ?_
        refine X_iconst hK kd29_23.2.2.2.1 ?_
        refine X_callV hK [.int (iI 4)] [] lk_X7_60 (c_X7_tell _ _ _ _ _ S g a0 4 hs_a0 (by omega)) hs_a0 ⟨by decide, rfl⟩ kd29_23.2.2.2.2.1 rfl rfl (by simp [Value.category]) (by decide) (by decide) (by decide) (by decide) (fun r56 S58 g57 pr56 qr56 hg57 => ?_)
        obtain ⟨rfl, rfl⟩ := pr56
        refine X_st [] rfl ?_
        refine X_goto hK 148 kd29_23.2.2.2.2.2.1 (by decide) ?_
        exact hret _ _ _ _ _ _ kd29_27.2.2.2 ⟨rfl, rfl⟩ (Nat.le_refl _) (Nat.le_refl _)
      · refine X_iloadn hK (i := 2) 4 kd29_22.2.2.2.2.2.2.2.2.2.2.2 rfl rfl ?_
        refine X_bipush hK kd29_23.1 (by decide) ?_
        refine X_icmp_le hK 72 (by omega) (by omega) kd29_23.2.1 (by decide) (fun c59 => ?_) (fun c59 => False.elim (by omega))
        refine X_aloadn hK (i := 0) 2 kd29_23.2.2.2.2.2.2.1 rfl rfl ?_
        refine X_dup hK kd29_23.2.2.2.2.2.2.2.1 rfl ?_
        refine X_getK hK fl_X7_22_8 hs_a0 ez54 kd29_23.2.2.2.2.2.2.2.2.1 ?_
        refine X_iconst hK kd29_23.2.2.2.2.2.2.2.2.2.1 ?_
        refine X_iadd hK kd29_23.2.2.2.2.2.2.2.2.2.2.1 ?_
        refine X_puti hK fl_X7_22_8 hs_a0 (by decide) sl_8_3 (by omega) (by omega) kd29_23.2.2.2.2.2.2.2.2.2.2.2 (fun g60 hg60 => ?_)
        refine X_aloadn hK (i := 0) 2 kd29_24.1 rfl rfl ?_
        refine X_dup hK kd29_24.2.1 rfl ?_
        refine X_getK hK fl_X7_18_8 hs_a0 ((xs_k hg60 (by decide)).trans ez1) kd29_24.2.2.1 ?_
        refine X_iconst hK kd29_24.2.2.2.1 ?_
        refine X_iadd hK kd29_24.2.2.2.2.1 ?_
        refine X_puti hK fl_X7_18_8 hs_a0 (by decide) sl_8_2 (by omega) (by omega) kd29_24.2.2.2.2.2.1 (fun g61 hg61 => ?_)
        refine X_iload hK (i := 4) 0 kd29_24.2.2.2.2.2.2.1 rfl ?_
        refine X_if_eq hK 109 (by omega) kd29_24.2.2.2.2.2.2.2.1 (by decide) (fun c62 => False.elim (by omega)) (fun c62 => ?_)
        refine X_aloadn hK (i := 0) 2 kd29_24.2.2.2.2.2.2.2.2.1 rfl rfl ?_
        refine X_aloadn hK (i := 1) 3 kd29_24.2.2.2.2.2.2.2.2.2.1 rfl rfl ?_
        refine X_iloadn hK (i := 3) 1 kd29_24.2.2.2.2.2.2.2.2.2.2.1 rfl rfl ?_
        refine X_bipush hK kd29_24.2.2.2.2.2.2.2.2.2.2.2 (by decide) ?_
        refine X_isub hK kd29_25.1 ?_
        refine X_callV hK [.ref a1, .int (iI (z5 - 10))] [] lk_X7_135 (c_X7_readFact _ _ _ _ _ S g61 a0 a1 (z5 - 10) hs_a0 hs_a1 (by omega)) hs_a0 ⟨by decide, rfl⟩ kd29_25.2.1 rfl rfl (by simp [Value.category]) (by decide) (by decide) (by decide) (by decide) (fun r63 S65 g64 pr63 qr63 hg64 => ?_)
        obtain ⟨rfl, rfl⟩ := pr63
        refine X_st [] rfl ?_
        refine X_goto hK 148 kd29_25.2.2.1 (by decide) ?_
        exact hret _ _ _ _ _ _ kd29_27.2.2.2 ⟨rfl, rfl⟩ (Nat.le_refl _) (Nat.le_refl _)

set_option maxHeartbeats 4000000 in
set_option maxRecDepth 100000 in
theorem c_X7_readAll_7 (l : Launch) (D : va_G) (kA : Nat → ClassId) (b0 : Nat) (t0 : Nat → Nat) (S : xT) (g : xG) (a0 : Nat) (a1 : Nat) (x2 : Int) (hs_a0 : S a0 = some (8, 0)) (hs_a1 : S a1 = some (11, 0)) (hx2 : 7 ≤ x2 ∧ x2 ≤ 7) : xMt l yX7_readAll cX7_readAll 4 none 14 0 0 325 D kA b0 t0 [(8, 5), (8, 6), (8, 3), (8, 2), (14000, 0), (11, 2)] [.ref a0, .ref a1, .int (iI x2)] S g (fun (r : Option Value) (S1 : xT) (g1 : xG) => S = S1 ∧ r = none) := by
  refine xEnterV (by decide) (by simp [lg_sl, Value.category]) [(0, .ref a0), (1, .ref a1), (2, .int (iI x2))] rfl ?_
  intro K E hK hret _ _ _
  refine X_aloadn hK (i := 0) 0 kd29_0.1 rfl rfl ?_
  refine X_aloadn hK (i := 1) 1 kd29_0.2.1 rfl rfl ?_
  refine X_iloadn hK (i := 2) 2 kd29_0.2.2.1 rfl rfl ?_
  refine X_callV hK [.ref a1, .int (iI x2)] [] lk_X7_132 (c_X7_readOne_7 _ _ _ _ _ S g a0 a1 x2 hs_a0 hs_a1 (by omega)) hs_a0 ⟨by decide, rfl⟩ kd29_0.2.2.2.1 rfl rfl (by simp [Value.category]) (by decide) (by decide) (by decide) (by decide) (fun r1 S3 g2 pr1 qr1 hg2 => ?_)
  obtain ⟨rfl, rfl⟩ := pr1
  refine X_st [] rfl ?_
  refine X_iconst hK kd29_0.2.2.2.2.1 ?_
  refine X_istoren hK (i := 3) [(3, .int (iI 0)), (0, .ref a0), (1, .ref a1), (2, .int (iI x2))] kd29_0.2.2.2.2.2.1 rfl (by decide) rfl ?_
  have P117 : ∀ (nP117 : Nat) (g99 : xG) (_ : xM [(14000, 0), (11, 2), (8, 5), (8, 6), (8, 3), (8, 2)] S g2 g99) (z98 : Int) (_ : 0 ≤ z98) (_ : z98 ≤ 50) (_ : 66 - z98 < (nP117 : Int)), X K E 8 [(3, .int (iI z98)), (0, .ref a0), (1, .ref a1), (2, .int (iI x2))] [] S g99 0 0 := by
    intro nP117
    induction nP117 with
    | zero => intro g99 hg99 z98 lz98 uz98 mP117; exact False.elim (by omega)
    | succ nP117 ihP117 =>
      intro g99 hg99 z98 lz98 uz98 mP117
      refine X_iloadn hK (i := 3) 0 kd29_0.2.2.2.2.2.2.1 rfl rfl ?_
      refine X_bipush hK kd29_0.2.2.2.2.2.2.2.1 (by decide) ?_
      refine X_icmp_ge hK 60 (by omega) (by omega) kd29_0.2.2.2.2.2.2.2.2.1 (by decide) (fun c118 => ?_) (fun c118 => ?_)
      · exact hret _ _ _ _ _ _ kd29_2.2.2.2.2.2.2.2.2.2.1 ⟨rfl, rfl⟩ (Nat.le_refl _) (Nat.le_refl _)
      · refine X_aloadn hK (i := 0) 1 kd29_0.2.2.2.2.2.2.2.2.2.1 rfl rfl ?_
        refine X_geti hK fl_X7_29_8 hs_a0 sl_8_5 kd29_0.2.2.2.2.2.2.2.2.2.2.1 (fun z119 ez119 lz119 uz119 => ?_)
        refine X_if_ne hK 60 (by omega) kd29_0.2.2.2.2.2.2.2.2.2.2.2 (by decide) (fun c120 => ?_) (fun c120 => ?_)
        · exact hret _ _ _ _ _ _ kd29_2.2.2.2.2.2.2.2.2.2.1 ⟨rfl, rfl⟩ (Nat.le_refl _) (Nat.le_refl _)
        · refine X_aloadn hK (i := 0) 1 kd29_1.1 rfl rfl ?_
          refine X_know hs_a0 (by decide) sl_8_2 (fun z121 ez121 lz121 uz121 => ?_)
          refine X_callV hK [] [] lk_X7_47 (c_X7_now _ _ _ _ _ S g99 a0 z121 hs_a0 (by omega) ez121) hs_a0 ⟨by decide, rfl⟩ kd29_1.2.1 rfl rfl (by simp [Value.category]) (by decide) (by decide) (by decide) (by decide) (fun r122 S124 g123 pr122 qr122 hg123 => ?_)
          obtain ⟨rfl, rfl, z125, rfl, lz125, uz125, k126⟩ := pr122
          refine X_st [.int (iI z125)] rfl ?_
          refine X_bipush hK kd29_1.2.2.1 (by decide) ?_
          refine X_icmp_ne hK 60 (by omega) (by omega) kd29_1.2.2.2.1 (by decide) (fun c127 => ?_) (fun c127 => ?_)
          · exact hret _ _ _ _ _ _ kd29_2.2.2.2.2.2.2.2.2.2.1 ⟨rfl, rfl⟩ (Nat.le_refl _) (Nat.le_refl _)
          · refine X_aloadn hK (i := 0) 1 kd29_1.2.2.2.2.1 rfl rfl ?_
            refine X_dup hK kd29_1.2.2.2.2.2.1 rfl ?_
            refine X_getK hK fl_X7_18_8 hs_a0 ez121 kd29_1.2.2.2.2.2.2.1 ?_
            refine X_iconst hK kd29_1.2.2.2.2.2.2.2.1 ?_
            refine X_iadd hK kd29_1.2.2.2.2.2.2.2.2.1 ?_
            refine X_puti hK fl_X7_18_8 hs_a0 (by decide) sl_8_2 (by omega) (by omega) kd29_1.2.2.2.2.2.2.2.2.2.1 (fun g128 hg128 => ?_)
            refine X_aloadn hK (i := 0) 1 kd29_1.2.2.2.2.2.2.2.2.2.2.1 rfl rfl ?_
            refine X_aloadn hK (i := 1) 2 kd29_1.2.2.2.2.2.2.2.2.2.2.2 rfl rfl ?_
            refine X_iloadn hK (i := 2) 3 kd29_2.1 rfl rfl ?_
            refine X_callV hK [.ref a1, .int (iI x2)] [] lk_X7_132 (c_X7_readOne_7 _ _ _ _ _ S g128 a0 a1 x2 hs_a0 hs_a1 (by omega)) hs_a0 ⟨by decide, rfl⟩ kd29_2.2.1 rfl rfl (by simp [Value.category]) (by decide) (by decide) (by decide) (by decide) (fun r129 S131 g130 pr129 qr129 hg130 => ?_)
            obtain ⟨rfl, rfl⟩ := pr129
            refine X_st [] rfl ?_
            refine X_aloadn hK (i := 1) 2 kd29_2.2.2.1 rfl rfl ?_
            refine X_bipush hK kd29_2.2.2.2.1 (by decide) ?_
            refine X_iconst hK kd29_2.2.2.2.2.1 ?_
            refine X_iconst hK kd29_2.2.2.2.2.2.1 ?_
            refine X_callV hK [.int (iI 13), .int (iI 0), .int (iI 0)] [] lk_X7_129 (c_X10_addStep _ _ _ _ _ S g130 a1 13 0 0 hs_a1 (by omega) (by omega) (by omega)) hs_a1 ⟨by decide, rfl⟩ kd29_2.2.2.2.2.2.2.1 rfl rfl (by simp [Value.category]) (by decide) (by decide) (by decide) (by decide) (fun r132 S134 g133 pr132 qr132 hg133 => ?_)
            obtain ⟨rfl, rfl⟩ := pr132
            refine X_st [] rfl ?_
            refine X_iinc hK (i := 3) (z := z98) (n := 1) 0 [(3, .int (iI (z98 + 1))), (0, .ref a0), (1, .ref a1), (2, .int (iI x2))] kd29_2.2.2.2.2.2.2.2.1 rfl (by decide) rfl ?_
            refine X_goto hK 8 kd29_2.2.2.2.2.2.2.2.2.1 (by decide) ?_
            exact ihP117  g133 (xM.tr (xM.tr (xM_up (xM.tr xM.rf xLe.rf hg99 (by decide)) hg128 hs_a0 (by decide) (by decide)) xLe.rf hg130 (by decide)) xLe.rf hg133 (by decide)) (z98 + 1) (by omega) (by omega) (by omega)
  exact P117 ((66 - 0 : Int).toNat + 1) g2 xM.rf 0 (by omega) (by omega) (by omega)

set_option maxHeartbeats 4000000 in
set_option maxRecDepth 100000 in
theorem c_X7_readCond_7 (l : Launch) (D : va_G) (kA : Nat → ClassId) (b0 : Nat) (t0 : Nat → Nat) (S : xT) (g : xG) (a0 : Nat) (a1 : Nat) (x2 : Int) (hs_a0 : S a0 = some (8, 0)) (hs_a1 : S a1 = some (11, 0)) (hx2 : 7 ≤ x2 ∧ x2 ≤ 7) : xMt l yX7_readCond cX7_readCond 4 none 15 0 0 348 D kA b0 t0 [(8, 5), (8, 6), (8, 3), (8, 2), (14000, 0), (11, 2)] [.ref a0, .ref a1, .int (iI x2)] S g (fun (r : Option Value) (S1 : xT) (g1 : xG) => S = S1 ∧ r = none) := by
  refine xEnterV (by decide) (by simp [lg_sl, Value.category]) [(0, .ref a0), (1, .ref a1), (2, .int (iI x2))] rfl ?_
  intro K E hK hret _ _ _
  refine X_aloadn hK (i := 0) 0 kd29_2.2.2.2.2.2.2.2.2.2.2.1 rfl rfl ?_
  refine X_aloadn hK (i := 1) 1 kd29_2.2.2.2.2.2.2.2.2.2.2.2 rfl rfl ?_
  refine X_iloadn hK (i := 2) 2 kd29_3.1 rfl rfl ?_
  refine X_callV hK [.ref a1, .int (iI x2)] [] lk_X7_126 (c_X7_readAll_7 _ _ _ _ _ S g a0 a1 x2 hs_a0 hs_a1 (by omega)) hs_a0 ⟨by decide, rfl⟩ kd29_3.2.1 rfl rfl (by simp [Value.category]) (by decide) (by decide) (by decide) (by decide) (fun r1 S3 g2 pr1 qr1 hg2 => ?_)
  obtain ⟨rfl, rfl⟩ := pr1
  refine X_st [] rfl ?_
  refine X_iconst hK kd29_3.2.2.1 ?_
  refine X_istoren hK (i := 3) [(3, .int (iI 0)), (0, .ref a0), (1, .ref a1), (2, .int (iI x2))] kd29_3.2.2.2.1 rfl (by decide) rfl ?_
  have P117 : ∀ (nP117 : Nat) (g99 : xG) (_ : xM [(14000, 0), (11, 2), (8, 5), (8, 6), (8, 3), (8, 2)] S g2 g99) (z98 : Int) (_ : 0 ≤ z98) (_ : z98 ≤ 50) (_ : 66 - z98 < (nP117 : Int)), X K E 8 [(3, .int (iI z98)), (0, .ref a0), (1, .ref a1), (2, .int (iI x2))] [] S g99 0 0 := by
    intro nP117
    induction nP117 with
    | zero => intro g99 hg99 z98 lz98 uz98 mP117; exact False.elim (by omega)
    | succ nP117 ihP117 =>
      intro g99 hg99 z98 lz98 uz98 mP117
      refine X_iloadn hK (i := 3) 0 kd29_3.2.2.2.2.1 rfl rfl ?_
      refine X_bipush hK kd29_3.2.2.2.2.2.1 (by decide) ?_
      refine X_icmp_ge hK 60 (by omega) (by omega) kd29_3.2.2.2.2.2.2.1 (by decide) (fun c118 => ?_) (fun c118 => ?_)
      · exact hret _ _ _ _ _ _ kd29_5.2.2.2.2.2.2.2.1 ⟨rfl, rfl⟩ (Nat.le_refl _) (Nat.le_refl _)
      · refine X_aloadn hK (i := 0) 1 kd29_3.2.2.2.2.2.2.2.1 rfl rfl ?_
        refine X_geti hK fl_X7_29_8 hs_a0 sl_8_5 kd29_3.2.2.2.2.2.2.2.2.1 (fun z119 ez119 lz119 uz119 => ?_)
        refine X_if_ne hK 60 (by omega) kd29_3.2.2.2.2.2.2.2.2.2.1 (by decide) (fun c120 => ?_) (fun c120 => ?_)
        · exact hret _ _ _ _ _ _ kd29_5.2.2.2.2.2.2.2.1 ⟨rfl, rfl⟩ (Nat.le_refl _) (Nat.le_refl _)
        · refine X_aloadn hK (i := 0) 1 kd29_3.2.2.2.2.2.2.2.2.2.2.1 rfl rfl ?_
          refine X_know hs_a0 (by decide) sl_8_2 (fun z121 ez121 lz121 uz121 => ?_)
          refine X_callV hK [] [] lk_X7_47 (c_X7_now _ _ _ _ _ S g99 a0 z121 hs_a0 (by omega) ez121) hs_a0 ⟨by decide, rfl⟩ kd29_3.2.2.2.2.2.2.2.2.2.2.2 rfl rfl (by simp [Value.category]) (by decide) (by decide) (by decide) (by decide) (fun r122 S124 g123 pr122 qr122 hg123 => ?_)
          obtain ⟨rfl, rfl, z125, rfl, lz125, uz125, k126⟩ := pr122
          refine X_st [.int (iI z125)] rfl ?_
          refine X_bipush hK kd29_4.1 (by decide) ?_
          refine X_icmp_ne hK 60 (by omega) (by omega) kd29_4.2.1 (by decide) (fun c127 => ?_) (fun c127 => ?_)
          · exact hret _ _ _ _ _ _ kd29_5.2.2.2.2.2.2.2.1 ⟨rfl, rfl⟩ (Nat.le_refl _) (Nat.le_refl _)
          · refine X_aloadn hK (i := 0) 1 kd29_4.2.2.1 rfl rfl ?_
            refine X_dup hK kd29_4.2.2.2.1 rfl ?_
            refine X_getK hK fl_X7_18_8 hs_a0 ez121 kd29_4.2.2.2.2.1 ?_
            refine X_iconst hK kd29_4.2.2.2.2.2.1 ?_
            refine X_iadd hK kd29_4.2.2.2.2.2.2.1 ?_
            refine X_puti hK fl_X7_18_8 hs_a0 (by decide) sl_8_2 (by omega) (by omega) kd29_4.2.2.2.2.2.2.2.1 (fun g128 hg128 => ?_)
            refine X_aloadn hK (i := 0) 1 kd29_4.2.2.2.2.2.2.2.2.1 rfl rfl ?_
            refine X_aloadn hK (i := 1) 2 kd29_4.2.2.2.2.2.2.2.2.2.1 rfl rfl ?_
            refine X_iloadn hK (i := 2) 3 kd29_4.2.2.2.2.2.2.2.2.2.2.1 rfl rfl ?_
            refine X_callV hK [.ref a1, .int (iI x2)] [] lk_X7_126 (c_X7_readAll_7 _ _ _ _ _ S g128 a0 a1 x2 hs_a0 hs_a1 (by omega)) hs_a0 ⟨by decide, rfl⟩ kd29_4.2.2.2.2.2.2.2.2.2.2.2 rfl rfl (by simp [Value.category]) (by decide) (by decide) (by decide) (by decide) (fun r129 S131 g130 pr129 qr129 hg130 => ?_)
            obtain ⟨rfl, rfl⟩ := pr129
            refine X_st [] rfl ?_
            refine X_aloadn hK (i := 1) 2 kd29_5.1 rfl rfl ?_
            refine X_bipush hK kd29_5.2.1 (by decide) ?_
            refine X_iconst hK kd29_5.2.2.1 ?_
            refine X_iconst hK kd29_5.2.2.2.1 ?_
            refine X_callV hK [.int (iI 14), .int (iI 0), .int (iI 0)] [] lk_X7_129 (c_X10_addStep _ _ _ _ _ S g130 a1 14 0 0 hs_a1 (by omega) (by omega) (by omega)) hs_a1 ⟨by decide, rfl⟩ kd29_5.2.2.2.2.1 rfl rfl (by simp [Value.category]) (by decide) (by decide) (by decide) (by decide) (fun r132 S134 g133 pr132 qr132 hg133 => ?_)
            obtain ⟨rfl, rfl⟩ := pr132
            refine X_st [] rfl ?_
            refine X_iinc hK (i := 3) (z := z98) (n := 1) 0 [(3, .int (iI (z98 + 1))), (0, .ref a0), (1, .ref a1), (2, .int (iI x2))] kd29_5.2.2.2.2.2.1 rfl (by decide) rfl ?_
            refine X_goto hK 8 kd29_5.2.2.2.2.2.2.1 (by decide) ?_
            exact ihP117  g133 (xM.tr (xM.tr (xM_up (xM.tr xM.rf xLe.rf hg99 (by decide)) hg128 hs_a0 (by decide) (by decide)) xLe.rf hg130 (by decide)) xLe.rf hg133 (by decide)) (z98 + 1) (by omega) (by omega) (by omega)
  exact P117 ((66 - 0 : Int).toNat + 1) g2 xM.rf 0 (by omega) (by omega) (by omega)

set_option maxHeartbeats 4000000 in
set_option maxRecDepth 100000 in
theorem c_X7_readOne_6 (l : Launch) (D : va_G) (kA : Nat → ClassId) (b0 : Nat) (t0 : Nat → Nat) (S : xT) (g : xG) (a0 : Nat) (a1 : Nat) (x2 : Int) (hs_a0 : S a0 = some (8, 0)) (hs_a1 : S a1 = some (11, 0)) (hx2 : 6 ≤ x2 ∧ x2 ≤ 6) : xMt l yX7_readOne cX7_readOne 5 none 16 0 0 371 D kA b0 t0 [(8, 5), (8, 6), (8, 3), (8, 2), (14000, 0), (11, 2)] [.ref a0, .ref a1, .int (iI x2)] S g (fun (r : Option Value) (S1 : xT) (g1 : xG) => S = S1 ∧ r = none) := by
  refine xEnterV (by decide) (by simp [lg_sl, Value.category]) [(0, .ref a0), (1, .ref a1), (2, .int (iI x2))] rfl ?_
  intro K E hK hret _ _ _
  refine X_aloadn hK (i := 0) 0 kd29_20.2.2.2.2.2.2.1 rfl rfl ?_
  refine X_know hs_a0 (by decide) sl_8_2 (fun z1 ez1 lz1 uz1 => ?_)
  refine X_callV hK [] [] lk_X7_47 (c_X7_now _ _ _ _ _ S g a0 z1 hs_a0 (by omega) ez1) hs_a0 ⟨by decide, rfl⟩ kd29_20.2.2.2.2.2.2.2.1 rfl rfl (by simp [Value.category]) (by decide) (by decide) (by decide) (by decide) (fun r2 S4 g3 pr2 qr2 hg3 => ?_)
  obtain ⟨rfl, rfl, z5, rfl, lz5, uz5, k6⟩ := pr2
  refine X_st [.int (iI z5)] rfl ?_
  refine X_istoren hK (i := 3) [(3, .int (iI z5)), (0, .ref a0), (1, .ref a1), (2, .int (iI x2))] kd29_20.2.2.2.2.2.2.2.2.1 rfl (by decide) rfl ?_
  refine X_iloadn hK (i := 3) 0 kd29_20.2.2.2.2.2.2.2.2.2.1 rfl rfl ?_
  refine X_bipush hK kd29_20.2.2.2.2.2.2.2.2.2.2.1 (by decide) ?_
  refine X_icmp_lt hK 21 (by omega) (by omega) kd29_20.2.2.2.2.2.2.2.2.2.2.2 (by decide) (fun c7 => ?_) (fun c7 => ?_)
  · refine X_iconst hK kd29_21.2.2.2.2.2.1 ?_
    refine X_istore hK (i := 4) [(4, .int (iI 0)), (3, .int (iI z5)), (0, .ref a0), (1, .ref a1), (2, .int (iI x2))] kd29_21.2.2.2.2.2.2.1 (by decide) rfl ?_
    refine X_iload hK (i := 4) 0 kd29_21.2.2.2.2.2.2.2.1 rfl ?_
    refine X_if_ne hK 49 (by omega) kd29_21.2.2.2.2.2.2.2.2.1 (by decide) (fun c8 => False.elim (by omega)) (fun c8 => ?_)
    refine X_iloadn hK (i := 3) 1 kd29_21.2.2.2.2.2.2.2.2.2.1 rfl rfl ?_
    refine X_bipush hK kd29_21.2.2.2.2.2.2.2.2.2.2.1 (by decide) ?_
    refine X_icmp_eq hK 49 (by omega) (by omega) kd29_21.2.2.2.2.2.2.2.2.2.2.2 (by decide) (fun c9 => ?_) (fun c9 => ?_)
    · refine X_aloadn hK (i := 0) 2 kd29_22.2.2.2.2.2.2.2.1 rfl rfl ?_
      refine X_geti hK fl_X7_22_8 hs_a0 sl_8_3 kd29_22.2.2.2.2.2.2.2.2.1 (fun z10 ez10 lz10 uz10 => ?_)
      refine X_bipush hK kd29_22.2.2.2.2.2.2.2.2.2.1 (by decide) ?_
      refine X_icmp_ge hK 64 (by omega) (by omega) kd29_22.2.2.2.2.2.2.2.2.2.2.1 (by decide) (fun c11 => ?_) (fun c11 => ?_)
      · refine X_aloadn hK (i := 0) 2 kd29_23.2.2.1 rfl rfl ?_
        refine X_iconst hK kd29_23.2.2.2.1 ?_
        refine X_callV hK [.int (iI 4)] [] lk_X7_60 (c_X7_tell _ _ _ _ _ S g a0 4 hs_a0 (by omega)) hs_a0 ⟨by decide, rfl⟩ kd29_23.2.2.2.2.1 rfl rfl (by simp [Value.category]) (by decide) (by decide) (by decide) (by decide) (fun r12 S14 g13 pr12 qr12 hg13 => ?_)
        obtain ⟨rfl, rfl⟩ := pr12
        refine X_st [] rfl ?_
        refine X_goto hK 148 kd29_23.2.2.2.2.2.1 (by decide) ?_
        exact hret _ _ _ _ _ _ kd29_27.2.2.2 ⟨rfl, rfl⟩ (Nat.le_refl _) (Nat.le_refl _)
      · refine X_iloadn hK (i := 2) 4 kd29_22.2.2.2.2.2.2.2.2.2.2.2 rfl rfl ?_
        refine X_bipush hK kd29_23.1 (by decide) ?_
        refine X_icmp_le hK 72 (by omega) (by omega) kd29_23.2.1 (by decide) (fun c15 => ?_) (fun c15 => False.elim (by omega))
        refine X_aloadn hK (i := 0) 2 kd29_23.2.2.2.2.2.2.1 rfl rfl ?_
        refine X_dup hK kd29_23.2.2.2.2.2.2.2.1 rfl ?_
        refine X_getK hK fl_X7_22_8 hs_a0 ez10 kd29_23.2.2.2.2.2.2.2.2.1 ?_
        refine X_iconst hK kd29_23.2.2.2.2.2.2.2.2.2.1 ?_
        refine X_iadd hK kd29_23.2.2.2.2.2.2.2.2.2.2.1 ?_
        refine X_puti hK fl_X7_22_8 hs_a0 (by decide) sl_8_3 (by omega) (by omega) kd29_23.2.2.2.2.2.2.2.2.2.2.2 (fun g16 hg16 => ?_)
        refine X_aloadn hK (i := 0) 2 kd29_24.1 rfl rfl ?_
        refine X_dup hK kd29_24.2.1 rfl ?_
        refine X_getK hK fl_X7_18_8 hs_a0 ((xs_k hg16 (by decide)).trans ez1) kd29_24.2.2.1 ?_
        refine X_iconst hK kd29_24.2.2.2.1 ?_
        refine X_iadd hK kd29_24.2.2.2.2.1 ?_
        refine X_puti hK fl_X7_18_8 hs_a0 (by decide) sl_8_2 (by omega) (by omega) kd29_24.2.2.2.2.2.1 (fun g17 hg17 => ?_)
        refine X_iload hK (i := 4) 0 kd29_24.2.2.2.2.2.2.1 rfl ?_
        refine X_if_eq hK 109 (by omega) kd29_24.2.2.2.2.2.2.2.1 (by decide) (fun c18 => ?_) (fun c18 => False.elim (by omega))
        refine X_iloadn hK (i := 3) 1 kd29_25.2.2.2.1 rfl rfl ?_
        refine X_bipush hK kd29_25.2.2.2.2.1 (by decide) ?_
        refine X_icmp_ne hK 132 (by omega) (by omega) kd29_25.2.2.2.2.2.1 (by decide) (fun c19 => ?_) (fun c19 => False.elim (by omega))
        refine X_aloadn hK (i := 0) 2 kd29_26.2.2.2.2.1 rfl rfl ?_
        refine X_aloadn hK (i := 1) 3 kd29_26.2.2.2.2.2.1 rfl rfl ?_
        refine X_iloadn hK (i := 2) 4 kd29_26.2.2.2.2.2.2.1 rfl rfl ?_
        refine X_iconst hK kd29_26.2.2.2.2.2.2.2.1 ?_
        refine X_iadd hK kd29_26.2.2.2.2.2.2.2.2.1 ?_
        refine X_callV hK [.ref a1, .int (iI (x2 + 1))] [] lk_X7_132 (c_X7_readOne_7 _ _ _ _ _ S g17 a0 a1 (x2 + 1) hs_a0 hs_a1 (by omega)) hs_a0 ⟨by decide, rfl⟩ kd29_26.2.2.2.2.2.2.2.2.2.1 rfl rfl (by simp [Value.category]) (by decide) (by decide) (by decide) (by decide) (fun r20 S22 g21 pr20 qr20 hg21 => ?_)
        obtain ⟨rfl, rfl⟩ := pr20
        refine X_st [] rfl ?_
        refine X_aloadn hK (i := 1) 3 kd29_26.2.2.2.2.2.2.2.2.2.2.1 rfl rfl ?_
        refine X_bipush hK kd29_26.2.2.2.2.2.2.2.2.2.2.2 (by decide) ?_
        refine X_iconst hK kd29_27.1 ?_
        refine X_iconst hK kd29_27.2.1 ?_
        refine X_callV hK [.int (iI 12), .int (iI 0), .int (iI 0)] [] lk_X7_129 (c_X10_addStep _ _ _ _ _ S g21 a1 12 0 0 hs_a1 (by omega) (by omega) (by omega)) hs_a1 ⟨by decide, rfl⟩ kd29_27.2.2.1 rfl rfl (by simp [Value.category]) (by decide) (by decide) (by decide) (by decide) (fun r23 S25 g24 pr23 qr23 hg24 => ?_)
        obtain ⟨rfl, rfl⟩ := pr23
        refine X_st [] rfl ?_
        exact hret _ _ _ _ _ _ kd29_27.2.2.2 ⟨rfl, rfl⟩ (Nat.le_refl _) (Nat.le_refl _)
    · refine X_iloadn hK (i := 3) 1 kd29_22.1 rfl rfl ?_
      refine X_bipush hK kd29_22.2.1 (by decide) ?_
      refine X_icmp_eq hK 49 (by omega) (by omega) kd29_22.2.2.1 (by decide) (fun c26 => False.elim (by omega)) (fun c26 => ?_)
      refine X_aloadn hK (i := 0) 2 kd29_22.2.2.2.1 rfl rfl ?_
      refine X_iconst hK kd29_22.2.2.2.2.1 ?_
      refine X_callV hK [.int (iI 1)] [] lk_X7_60 (c_X7_tell _ _ _ _ _ S g a0 1 hs_a0 (by omega)) hs_a0 ⟨by decide, rfl⟩ kd29_22.2.2.2.2.2.1 rfl rfl (by simp [Value.category]) (by decide) (by decide) (by decide) (by decide) (fun r27 S29 g28 pr27 qr27 hg28 => ?_)
      obtain ⟨rfl, rfl⟩ := pr27
      refine X_st [] rfl ?_
      refine X_goto hK 148 kd29_22.2.2.2.2.2.2.1 (by decide) ?_
      exact hret _ _ _ _ _ _ kd29_27.2.2.2 ⟨rfl, rfl⟩ (Nat.le_refl _) (Nat.le_refl _)
  · refine X_iloadn hK (i := 3) 0 kd29_21.1 rfl rfl ?_
    refine X_bipush hK kd29_21.2.1 (by decide) ?_
    refine X_icmp_ge hK 21 (by omega) (by omega) kd29_21.2.2.1 (by decide) (fun c30 => ?_) (fun c30 => ?_)
    · refine X_iconst hK kd29_21.2.2.2.2.2.1 ?_
      refine X_istore hK (i := 4) [(4, .int (iI 0)), (3, .int (iI z5)), (0, .ref a0), (1, .ref a1), (2, .int (iI x2))] kd29_21.2.2.2.2.2.2.1 (by decide) rfl ?_
      refine X_iload hK (i := 4) 0 kd29_21.2.2.2.2.2.2.2.1 rfl ?_
      refine X_if_ne hK 49 (by omega) kd29_21.2.2.2.2.2.2.2.2.1 (by decide) (fun c31 => False.elim (by omega)) (fun c31 => ?_)
      refine X_iloadn hK (i := 3) 1 kd29_21.2.2.2.2.2.2.2.2.2.1 rfl rfl ?_
      refine X_bipush hK kd29_21.2.2.2.2.2.2.2.2.2.2.1 (by decide) ?_
      refine X_icmp_eq hK 49 (by omega) (by omega) kd29_21.2.2.2.2.2.2.2.2.2.2.2 (by decide) (fun c32 => False.elim (by omega)) (fun c32 => ?_)
      refine X_iloadn hK (i := 3) 1 kd29_22.1 rfl rfl ?_
      refine X_bipush hK kd29_22.2.1 (by decide) ?_
      refine X_icmp_eq hK 49 (by omega) (by omega) kd29_22.2.2.1 (by decide) (fun c33 => ?_) (fun c33 => ?_)
      · refine X_aloadn hK (i := 0) 2 kd29_22.2.2.2.2.2.2.2.1 rfl rfl ?_
        refine X_geti hK fl_X7_22_8 hs_a0 sl_8_3 kd29_22.2.2.2.2.2.2.2.2.1 (fun z34 ez34 lz34 uz34 => ?_)
        refine X_bipush hK kd29_22.2.2.2.2.2.2.2.2.2.1 (by decide) ?_
        refine X_icmp_ge hK 64 (by omega) (by omega) kd29_22.2.2.2.2.2.2.2.2.2.2.1 (by decide) (fun c35 => ?_) (fun c35 => ?_)
        · refine X_aloadn hK (i := 0) 2 kd29_23.2.2.1 rfl rfl ?_
          refine X_iconst hK kd29_23.2.2.2.1 ?_
          refine X_callV hK [.int (iI 4)] [] lk_X7_60 (c_X7_tell _ _ _ _ _ S g a0 4 hs_a0 (by omega)) hs_a0 ⟨by decide, rfl⟩ kd29_23.2.2.2.2.1 rfl rfl (by simp [Value.category]) (by decide) (by decide) (by decide) (by decide) (fun r36 S38 g37 pr36 qr36 hg37 => ?_)
          obtain ⟨rfl, rfl⟩ := pr36
          refine X_st [] rfl ?_
          refine X_goto hK 148 kd29_23.2.2.2.2.2.1 (by decide) ?_
          exact hret _ _ _ _ _ _ kd29_27.2.2.2 ⟨rfl, rfl⟩ (Nat.le_refl _) (Nat.le_refl _)
        · refine X_iloadn hK (i := 2) 4 kd29_22.2.2.2.2.2.2.2.2.2.2.2 rfl rfl ?_
          refine X_bipush hK kd29_23.1 (by decide) ?_
          refine X_icmp_le hK 72 (by omega) (by omega) kd29_23.2.1 (by decide) (fun c39 => ?_) (fun c39 => False.elim (by omega))
          refine X_aloadn hK (i := 0) 2 kd29_23.2.2.2.2.2.2.1 rfl rfl ?_
          refine X_dup hK kd29_23.2.2.2.2.2.2.2.1 rfl ?_
          refine X_getK hK fl_X7_22_8 hs_a0 ez34 kd29_23.2.2.2.2.2.2.2.2.1 ?_
          refine X_iconst hK kd29_23.2.2.2.2.2.2.2.2.2.1 ?_
          refine X_iadd hK kd29_23.2.2.2.2.2.2.2.2.2.2.1 ?_
          refine X_puti hK fl_X7_22_8 hs_a0 (by decide) sl_8_3 (by omega) (by omega) kd29_23.2.2.2.2.2.2.2.2.2.2.2 (fun g40 hg40 => ?_)
          refine X_aloadn hK (i := 0) 2 kd29_24.1 rfl rfl ?_
          refine X_dup hK kd29_24.2.1 rfl ?_
          refine X_getK hK fl_X7_18_8 hs_a0 ((xs_k hg40 (by decide)).trans ez1) kd29_24.2.2.1 ?_
          refine X_iconst hK kd29_24.2.2.2.1 ?_
          refine X_iadd hK kd29_24.2.2.2.2.1 ?_
          refine X_puti hK fl_X7_18_8 hs_a0 (by decide) sl_8_2 (by omega) (by omega) kd29_24.2.2.2.2.2.1 (fun g41 hg41 => ?_)
          refine X_iload hK (i := 4) 0 kd29_24.2.2.2.2.2.2.1 rfl ?_
          refine X_if_eq hK 109 (by omega) kd29_24.2.2.2.2.2.2.2.1 (by decide) (fun c42 => ?_) (fun c42 => False.elim (by omega))
          refine X_iloadn hK (i := 3) 1 kd29_25.2.2.2.1 rfl rfl ?_
          refine X_bipush hK kd29_25.2.2.2.2.1 (by decide) ?_
          refine X_icmp_ne hK 132 (by omega) (by omega) kd29_25.2.2.2.2.2.1 (by decide) (fun c43 => False.elim (by omega)) (fun c43 => ?_)
          refine X_aloadn hK (i := 0) 2 kd29_25.2.2.2.2.2.2.1 rfl rfl ?_
          refine X_aloadn hK (i := 1) 3 kd29_25.2.2.2.2.2.2.2.1 rfl rfl ?_
          refine X_iloadn hK (i := 2) 4 kd29_25.2.2.2.2.2.2.2.2.1 rfl rfl ?_
          refine X_iconst hK kd29_25.2.2.2.2.2.2.2.2.2.1 ?_
          refine X_iadd hK kd29_25.2.2.2.2.2.2.2.2.2.2.1 ?_
          refine X_callV hK [.ref a1, .int (iI (x2 + 1))] [] lk_X7_115 (c_X7_readCond_7 _ _ _ _ _ S g41 a0 a1 (x2 + 1) hs_a0 hs_a1 (by omega)) hs_a0 ⟨by decide, rfl⟩ kd29_25.2.2.2.2.2.2.2.2.2.2.2 rfl rfl (by simp [Value.category]) (by decide) (by decide) (by decide) (by decide) (fun r44 S46 g45 pr44 qr44 hg45 => ?_)
          obtain ⟨rfl, rfl⟩ := pr44
          refine X_st [] rfl ?_
          refine X_aloadn hK (i := 0) 2 kd29_26.1 rfl rfl ?_
          refine X_bipush hK kd29_26.2.1 (by decide) ?_
          refine X_callV hK [.int (iI 26)] [] lk_X7_119 (c_X7_expect _ _ _ _ _ S g45 a0 26 hs_a0 (by omega)) hs_a0 ⟨by decide, rfl⟩ kd29_26.2.2.1 rfl rfl (by simp [Value.category]) (by decide) (by decide) (by decide) (by decide) (fun r47 S49 g48 pr47 qr47 hg48 => ?_)
          obtain ⟨rfl, rfl⟩ := pr47
          refine X_st [] rfl ?_
          refine X_goto hK 148 kd29_26.2.2.2.1 (by decide) ?_
          exact hret _ _ _ _ _ _ kd29_27.2.2.2 ⟨rfl, rfl⟩ (Nat.le_refl _) (Nat.le_refl _)
      · refine X_aloadn hK (i := 0) 2 kd29_22.2.2.2.1 rfl rfl ?_
        refine X_iconst hK kd29_22.2.2.2.2.1 ?_
        refine X_callV hK [.int (iI 1)] [] lk_X7_60 (c_X7_tell _ _ _ _ _ S g a0 1 hs_a0 (by omega)) hs_a0 ⟨by decide, rfl⟩ kd29_22.2.2.2.2.2.1 rfl rfl (by simp [Value.category]) (by decide) (by decide) (by decide) (by decide) (fun r50 S52 g51 pr50 qr50 hg51 => ?_)
        obtain ⟨rfl, rfl⟩ := pr50
        refine X_st [] rfl ?_
        refine X_goto hK 148 kd29_22.2.2.2.2.2.2.1 (by decide) ?_
        exact hret _ _ _ _ _ _ kd29_27.2.2.2 ⟨rfl, rfl⟩ (Nat.le_refl _) (Nat.le_refl _)
    · refine X_iconst hK kd29_21.2.2.2.1 ?_
      refine X_goto hK 22 kd29_21.2.2.2.2.1 (by decide) ?_
      refine X_istore hK (i := 4) [(4, .int (iI 1)), (3, .int (iI z5)), (0, .ref a0), (1, .ref a1), (2, .int (iI x2))] kd29_21.2.2.2.2.2.2.1 (by decide) rfl ?_
      refine X_iload hK (i := 4) 0 kd29_21.2.2.2.2.2.2.2.1 rfl ?_
      refine X_if_ne hK 49 (by omega) kd29_21.2.2.2.2.2.2.2.2.1 (by decide) (fun c53 => ?_) (fun c53 => False.elim (by omega))
      refine X_aloadn hK (i := 0) 2 kd29_22.2.2.2.2.2.2.2.1 rfl rfl ?_
      refine X_geti hK fl_X7_22_8 hs_a0 sl_8_3 kd29_22.2.2.2.2.2.2.2.2.1 (fun z54 ez54 lz54 uz54 => ?_)
      refine X_bipush hK kd29_22.2.2.2.2.2.2.2.2.2.1 (by decide) ?_
      refine X_icmp_ge hK 64 (by omega) (by omega) kd29_22.2.2.2.2.2.2.2.2.2.2.1 (by decide) (fun c55 => ?_) (fun c55 => ?_)
      · refine X_aloadn hK (i := 0) 2 kd29_23.2.2.1 rfl rfl ?_
        refine X_iconst hK kd29_23.2.2.2.1 ?_
        refine X_callV hK [.int (iI 4)] [] lk_X7_60 (c_X7_tell _ _ _ _ _ S g a0 4 hs_a0 (by omega)) hs_a0 ⟨by decide, rfl⟩ kd29_23.2.2.2.2.1 rfl rfl (by simp [Value.category]) (by decide) (by decide) (by decide) (by decide) (fun r56 S58 g57 pr56 qr56 hg57 => ?_)
        obtain ⟨rfl, rfl⟩ := pr56
        refine X_st [] rfl ?_
        refine X_goto hK 148 kd29_23.2.2.2.2.2.1 (by decide) ?_
        exact hret _ _ _ _ _ _ kd29_27.2.2.2 ⟨rfl, rfl⟩ (Nat.le_refl _) (Nat.le_refl _)
      · refine X_iloadn hK (i := 2) 4 kd29_22.2.2.2.2.2.2.2.2.2.2.2 rfl rfl ?_
        refine X_bipush hK kd29_23.1 (by decide) ?_
        refine X_icmp_le hK 72 (by omega) (by omega) kd29_23.2.1 (by decide) (fun c59 => ?_) (fun c59 => False.elim (by omega))
        refine X_aloadn hK (i := 0) 2 kd29_23.2.2.2.2.2.2.1 rfl rfl ?_
        refine X_dup hK kd29_23.2.2.2.2.2.2.2.1 rfl ?_
        refine X_getK hK fl_X7_22_8 hs_a0 ez54 kd29_23.2.2.2.2.2.2.2.2.1 ?_
        refine X_iconst hK kd29_23.2.2.2.2.2.2.2.2.2.1 ?_
        refine X_iadd hK kd29_23.2.2.2.2.2.2.2.2.2.2.1 ?_
        refine X_puti hK fl_X7_22_8 hs_a0 (by decide) sl_8_3 (by omega) (by omega) kd29_23.2.2.2.2.2.2.2.2.2.2.2 (fun g60 hg60 => ?_)
        refine X_aloadn hK (i := 0) 2 kd29_24.1 rfl rfl ?_
        refine X_dup hK kd29_24.2.1 rfl ?_
        refine X_getK hK fl_X7_18_8 hs_a0 ((xs_k hg60 (by decide)).trans ez1) kd29_24.2.2.1 ?_
        refine X_iconst hK kd29_24.2.2.2.1 ?_
        refine X_iadd hK kd29_24.2.2.2.2.1 ?_
        refine X_puti hK fl_X7_18_8 hs_a0 (by decide) sl_8_2 (by omega) (by omega) kd29_24.2.2.2.2.2.1 (fun g61 hg61 => ?_)
        refine X_iload hK (i := 4) 0 kd29_24.2.2.2.2.2.2.1 rfl ?_
        refine X_if_eq hK 109 (by omega) kd29_24.2.2.2.2.2.2.2.1 (by decide) (fun c62 => False.elim (by omega)) (fun c62 => ?_)
        refine X_aloadn hK (i := 0) 2 kd29_24.2.2.2.2.2.2.2.2.1 rfl rfl ?_
        refine X_aloadn hK (i := 1) 3 kd29_24.2.2.2.2.2.2.2.2.2.1 rfl rfl ?_
        refine X_iloadn hK (i := 3) 1 kd29_24.2.2.2.2.2.2.2.2.2.2.1 rfl rfl ?_
        refine X_bipush hK kd29_24.2.2.2.2.2.2.2.2.2.2.2 (by decide) ?_
        refine X_isub hK kd29_25.1 ?_
        refine X_callV hK [.ref a1, .int (iI (z5 - 10))] [] lk_X7_135 (c_X7_readFact _ _ _ _ _ S g61 a0 a1 (z5 - 10) hs_a0 hs_a1 (by omega)) hs_a0 ⟨by decide, rfl⟩ kd29_25.2.1 rfl rfl (by simp [Value.category]) (by decide) (by decide) (by decide) (by decide) (fun r63 S65 g64 pr63 qr63 hg64 => ?_)
        obtain ⟨rfl, rfl⟩ := pr63
        refine X_st [] rfl ?_
        refine X_goto hK 148 kd29_25.2.2.1 (by decide) ?_
        exact hret _ _ _ _ _ _ kd29_27.2.2.2 ⟨rfl, rfl⟩ (Nat.le_refl _) (Nat.le_refl _)

set_option maxHeartbeats 4000000 in
set_option maxRecDepth 100000 in
theorem c_X7_readAll_6 (l : Launch) (D : va_G) (kA : Nat → ClassId) (b0 : Nat) (t0 : Nat → Nat) (S : xT) (g : xG) (a0 : Nat) (a1 : Nat) (x2 : Int) (hs_a0 : S a0 = some (8, 0)) (hs_a1 : S a1 = some (11, 0)) (hx2 : 6 ≤ x2 ∧ x2 ≤ 6) : xMt l yX7_readAll cX7_readAll 4 none 17 0 0 395 D kA b0 t0 [(8, 5), (8, 6), (8, 3), (8, 2), (14000, 0), (11, 2)] [.ref a0, .ref a1, .int (iI x2)] S g (fun (r : Option Value) (S1 : xT) (g1 : xG) => S = S1 ∧ r = none) := by
  refine xEnterV (by decide) (by simp [lg_sl, Value.category]) [(0, .ref a0), (1, .ref a1), (2, .int (iI x2))] rfl ?_
  intro K E hK hret _ _ _
  refine X_aloadn hK (i := 0) 0 kd29_0.1 rfl rfl ?_
  refine X_aloadn hK (i := 1) 1 kd29_0.2.1 rfl rfl ?_
  refine X_iloadn hK (i := 2) 2 kd29_0.2.2.1 rfl rfl ?_
  refine X_callV hK [.ref a1, .int (iI x2)] [] lk_X7_132 (c_X7_readOne_6 _ _ _ _ _ S g a0 a1 x2 hs_a0 hs_a1 (by omega)) hs_a0 ⟨by decide, rfl⟩ kd29_0.2.2.2.1 rfl rfl (by simp [Value.category]) (by decide) (by decide) (by decide) (by decide) (fun r1 S3 g2 pr1 qr1 hg2 => ?_)
  obtain ⟨rfl, rfl⟩ := pr1
  refine X_st [] rfl ?_
  refine X_iconst hK kd29_0.2.2.2.2.1 ?_
  refine X_istoren hK (i := 3) [(3, .int (iI 0)), (0, .ref a0), (1, .ref a1), (2, .int (iI x2))] kd29_0.2.2.2.2.2.1 rfl (by decide) rfl ?_
  have P117 : ∀ (nP117 : Nat) (g99 : xG) (_ : xM [(14000, 0), (11, 2), (8, 5), (8, 6), (8, 3), (8, 2)] S g2 g99) (z98 : Int) (_ : 0 ≤ z98) (_ : z98 ≤ 50) (_ : 66 - z98 < (nP117 : Int)), X K E 8 [(3, .int (iI z98)), (0, .ref a0), (1, .ref a1), (2, .int (iI x2))] [] S g99 0 0 := by
    intro nP117
    induction nP117 with
    | zero => intro g99 hg99 z98 lz98 uz98 mP117; exact False.elim (by omega)
    | succ nP117 ihP117 =>
      intro g99 hg99 z98 lz98 uz98 mP117
      refine X_iloadn hK (i := 3) 0 kd29_0.2.2.2.2.2.2.1 rfl rfl ?_
      refine X_bipush hK kd29_0.2.2.2.2.2.2.2.1 (by decide) ?_
      refine X_icmp_ge hK 60 (by omega) (by omega) kd29_0.2.2.2.2.2.2.2.2.1 (by decide) (fun c118 => ?_) (fun c118 => ?_)
      · exact hret _ _ _ _ _ _ kd29_2.2.2.2.2.2.2.2.2.2.1 ⟨rfl, rfl⟩ (Nat.le_refl _) (Nat.le_refl _)
      · refine X_aloadn hK (i := 0) 1 kd29_0.2.2.2.2.2.2.2.2.2.1 rfl rfl ?_
        refine X_geti hK fl_X7_29_8 hs_a0 sl_8_5 kd29_0.2.2.2.2.2.2.2.2.2.2.1 (fun z119 ez119 lz119 uz119 => ?_)
        refine X_if_ne hK 60 (by omega) kd29_0.2.2.2.2.2.2.2.2.2.2.2 (by decide) (fun c120 => ?_) (fun c120 => ?_)
        · exact hret _ _ _ _ _ _ kd29_2.2.2.2.2.2.2.2.2.2.1 ⟨rfl, rfl⟩ (Nat.le_refl _) (Nat.le_refl _)
        · refine X_aloadn hK (i := 0) 1 kd29_1.1 rfl rfl ?_
          refine X_know hs_a0 (by decide) sl_8_2 (fun z121 ez121 lz121 uz121 => ?_)
          refine X_callV hK [] [] lk_X7_47 (c_X7_now _ _ _ _ _ S g99 a0 z121 hs_a0 (by omega) ez121) hs_a0 ⟨by decide, rfl⟩ kd29_1.2.1 rfl rfl (by simp [Value.category]) (by decide) (by decide) (by decide) (by decide) (fun r122 S124 g123 pr122 qr122 hg123 => ?_)
          obtain ⟨rfl, rfl, z125, rfl, lz125, uz125, k126⟩ := pr122
          refine X_st [.int (iI z125)] rfl ?_
          refine X_bipush hK kd29_1.2.2.1 (by decide) ?_
          refine X_icmp_ne hK 60 (by omega) (by omega) kd29_1.2.2.2.1 (by decide) (fun c127 => ?_) (fun c127 => ?_)
          · exact hret _ _ _ _ _ _ kd29_2.2.2.2.2.2.2.2.2.2.1 ⟨rfl, rfl⟩ (Nat.le_refl _) (Nat.le_refl _)
          · refine X_aloadn hK (i := 0) 1 kd29_1.2.2.2.2.1 rfl rfl ?_
            refine X_dup hK kd29_1.2.2.2.2.2.1 rfl ?_
            refine X_getK hK fl_X7_18_8 hs_a0 ez121 kd29_1.2.2.2.2.2.2.1 ?_
            refine X_iconst hK kd29_1.2.2.2.2.2.2.2.1 ?_
            refine X_iadd hK kd29_1.2.2.2.2.2.2.2.2.1 ?_
            refine X_puti hK fl_X7_18_8 hs_a0 (by decide) sl_8_2 (by omega) (by omega) kd29_1.2.2.2.2.2.2.2.2.2.1 (fun g128 hg128 => ?_)
            refine X_aloadn hK (i := 0) 1 kd29_1.2.2.2.2.2.2.2.2.2.2.1 rfl rfl ?_
            refine X_aloadn hK (i := 1) 2 kd29_1.2.2.2.2.2.2.2.2.2.2.2 rfl rfl ?_
            refine X_iloadn hK (i := 2) 3 kd29_2.1 rfl rfl ?_
            refine X_callV hK [.ref a1, .int (iI x2)] [] lk_X7_132 (c_X7_readOne_6 _ _ _ _ _ S g128 a0 a1 x2 hs_a0 hs_a1 (by omega)) hs_a0 ⟨by decide, rfl⟩ kd29_2.2.1 rfl rfl (by simp [Value.category]) (by decide) (by decide) (by decide) (by decide) (fun r129 S131 g130 pr129 qr129 hg130 => ?_)
            obtain ⟨rfl, rfl⟩ := pr129
            refine X_st [] rfl ?_
            refine X_aloadn hK (i := 1) 2 kd29_2.2.2.1 rfl rfl ?_
            refine X_bipush hK kd29_2.2.2.2.1 (by decide) ?_
            refine X_iconst hK kd29_2.2.2.2.2.1 ?_
            refine X_iconst hK kd29_2.2.2.2.2.2.1 ?_
            refine X_callV hK [.int (iI 13), .int (iI 0), .int (iI 0)] [] lk_X7_129 (c_X10_addStep _ _ _ _ _ S g130 a1 13 0 0 hs_a1 (by omega) (by omega) (by omega)) hs_a1 ⟨by decide, rfl⟩ kd29_2.2.2.2.2.2.2.1 rfl rfl (by simp [Value.category]) (by decide) (by decide) (by decide) (by decide) (fun r132 S134 g133 pr132 qr132 hg133 => ?_)
            obtain ⟨rfl, rfl⟩ := pr132
            refine X_st [] rfl ?_
            refine X_iinc hK (i := 3) (z := z98) (n := 1) 0 [(3, .int (iI (z98 + 1))), (0, .ref a0), (1, .ref a1), (2, .int (iI x2))] kd29_2.2.2.2.2.2.2.2.1 rfl (by decide) rfl ?_
            refine X_goto hK 8 kd29_2.2.2.2.2.2.2.2.2.1 (by decide) ?_
            exact ihP117  g133 (xM.tr (xM.tr (xM_up (xM.tr xM.rf xLe.rf hg99 (by decide)) hg128 hs_a0 (by decide) (by decide)) xLe.rf hg130 (by decide)) xLe.rf hg133 (by decide)) (z98 + 1) (by omega) (by omega) (by omega)
  exact P117 ((66 - 0 : Int).toNat + 1) g2 xM.rf 0 (by omega) (by omega) (by omega)

set_option maxHeartbeats 4000000 in
set_option maxRecDepth 100000 in
theorem c_X7_readCond_6 (l : Launch) (D : va_G) (kA : Nat → ClassId) (b0 : Nat) (t0 : Nat → Nat) (S : xT) (g : xG) (a0 : Nat) (a1 : Nat) (x2 : Int) (hs_a0 : S a0 = some (8, 0)) (hs_a1 : S a1 = some (11, 0)) (hx2 : 6 ≤ x2 ∧ x2 ≤ 6) : xMt l yX7_readCond cX7_readCond 4 none 18 0 0 418 D kA b0 t0 [(8, 5), (8, 6), (8, 3), (8, 2), (14000, 0), (11, 2)] [.ref a0, .ref a1, .int (iI x2)] S g (fun (r : Option Value) (S1 : xT) (g1 : xG) => S = S1 ∧ r = none) := by
  refine xEnterV (by decide) (by simp [lg_sl, Value.category]) [(0, .ref a0), (1, .ref a1), (2, .int (iI x2))] rfl ?_
  intro K E hK hret _ _ _
  refine X_aloadn hK (i := 0) 0 kd29_2.2.2.2.2.2.2.2.2.2.2.1 rfl rfl ?_
  refine X_aloadn hK (i := 1) 1 kd29_2.2.2.2.2.2.2.2.2.2.2.2 rfl rfl ?_
  refine X_iloadn hK (i := 2) 2 kd29_3.1 rfl rfl ?_
  refine X_callV hK [.ref a1, .int (iI x2)] [] lk_X7_126 (c_X7_readAll_6 _ _ _ _ _ S g a0 a1 x2 hs_a0 hs_a1 (by omega)) hs_a0 ⟨by decide, rfl⟩ kd29_3.2.1 rfl rfl (by simp [Value.category]) (by decide) (by decide) (by decide) (by decide) (fun r1 S3 g2 pr1 qr1 hg2 => ?_)
  obtain ⟨rfl, rfl⟩ := pr1
  refine X_st [] rfl ?_
  refine X_iconst hK kd29_3.2.2.1 ?_
  refine X_istoren hK (i := 3) [(3, .int (iI 0)), (0, .ref a0), (1, .ref a1), (2, .int (iI x2))] kd29_3.2.2.2.1 rfl (by decide) rfl ?_
  have P117 : ∀ (nP117 : Nat) (g99 : xG) (_ : xM [(14000, 0), (11, 2), (8, 5), (8, 6), (8, 3), (8, 2)] S g2 g99) (z98 : Int) (_ : 0 ≤ z98) (_ : z98 ≤ 50) (_ : 66 - z98 < (nP117 : Int)), X K E 8 [(3, .int (iI z98)), (0, .ref a0), (1, .ref a1), (2, .int (iI x2))] [] S g99 0 0 := by
    intro nP117
    induction nP117 with
    | zero => intro g99 hg99 z98 lz98 uz98 mP117; exact False.elim (by omega)
    | succ nP117 ihP117 =>
      intro g99 hg99 z98 lz98 uz98 mP117
      refine X_iloadn hK (i := 3) 0 kd29_3.2.2.2.2.1 rfl rfl ?_
      refine X_bipush hK kd29_3.2.2.2.2.2.1 (by decide) ?_
      refine X_icmp_ge hK 60 (by omega) (by omega) kd29_3.2.2.2.2.2.2.1 (by decide) (fun c118 => ?_) (fun c118 => ?_)
      · exact hret _ _ _ _ _ _ kd29_5.2.2.2.2.2.2.2.1 ⟨rfl, rfl⟩ (Nat.le_refl _) (Nat.le_refl _)
      · refine X_aloadn hK (i := 0) 1 kd29_3.2.2.2.2.2.2.2.1 rfl rfl ?_
        refine X_geti hK fl_X7_29_8 hs_a0 sl_8_5 kd29_3.2.2.2.2.2.2.2.2.1 (fun z119 ez119 lz119 uz119 => ?_)
        refine X_if_ne hK 60 (by omega) kd29_3.2.2.2.2.2.2.2.2.2.1 (by decide) (fun c120 => ?_) (fun c120 => ?_)
        · exact hret _ _ _ _ _ _ kd29_5.2.2.2.2.2.2.2.1 ⟨rfl, rfl⟩ (Nat.le_refl _) (Nat.le_refl _)
        · refine X_aloadn hK (i := 0) 1 kd29_3.2.2.2.2.2.2.2.2.2.2.1 rfl rfl ?_
          refine X_know hs_a0 (by decide) sl_8_2 (fun z121 ez121 lz121 uz121 => ?_)
          refine X_callV hK [] [] lk_X7_47 (c_X7_now _ _ _ _ _ S g99 a0 z121 hs_a0 (by omega) ez121) hs_a0 ⟨by decide, rfl⟩ kd29_3.2.2.2.2.2.2.2.2.2.2.2 rfl rfl (by simp [Value.category]) (by decide) (by decide) (by decide) (by decide) (fun r122 S124 g123 pr122 qr122 hg123 => ?_)
          obtain ⟨rfl, rfl, z125, rfl, lz125, uz125, k126⟩ := pr122
          refine X_st [.int (iI z125)] rfl ?_
          refine X_bipush hK kd29_4.1 (by decide) ?_
          refine X_icmp_ne hK 60 (by omega) (by omega) kd29_4.2.1 (by decide) (fun c127 => ?_) (fun c127 => ?_)
          · exact hret _ _ _ _ _ _ kd29_5.2.2.2.2.2.2.2.1 ⟨rfl, rfl⟩ (Nat.le_refl _) (Nat.le_refl _)
          · refine X_aloadn hK (i := 0) 1 kd29_4.2.2.1 rfl rfl ?_
            refine X_dup hK kd29_4.2.2.2.1 rfl ?_
            refine X_getK hK fl_X7_18_8 hs_a0 ez121 kd29_4.2.2.2.2.1 ?_
            refine X_iconst hK kd29_4.2.2.2.2.2.1 ?_
            refine X_iadd hK kd29_4.2.2.2.2.2.2.1 ?_
            refine X_puti hK fl_X7_18_8 hs_a0 (by decide) sl_8_2 (by omega) (by omega) kd29_4.2.2.2.2.2.2.2.1 (fun g128 hg128 => ?_)
            refine X_aloadn hK (i := 0) 1 kd29_4.2.2.2.2.2.2.2.2.1 rfl rfl ?_
            refine X_aloadn hK (i := 1) 2 kd29_4.2.2.2.2.2.2.2.2.2.1 rfl rfl ?_
            refine X_iloadn hK (i := 2) 3 kd29_4.2.2.2.2.2.2.2.2.2.2.1 rfl rfl ?_
            refine X_callV hK [.ref a1, .int (iI x2)] [] lk_X7_126 (c_X7_readAll_6 _ _ _ _ _ S g128 a0 a1 x2 hs_a0 hs_a1 (by omega)) hs_a0 ⟨by decide, rfl⟩ kd29_4.2.2.2.2.2.2.2.2.2.2.2 rfl rfl (by simp [Value.category]) (by decide) (by decide) (by decide) (by decide) (fun r129 S131 g130 pr129 qr129 hg130 => ?_)
            obtain ⟨rfl, rfl⟩ := pr129
            refine X_st [] rfl ?_
            refine X_aloadn hK (i := 1) 2 kd29_5.1 rfl rfl ?_
            refine X_bipush hK kd29_5.2.1 (by decide) ?_
            refine X_iconst hK kd29_5.2.2.1 ?_
            refine X_iconst hK kd29_5.2.2.2.1 ?_
            refine X_callV hK [.int (iI 14), .int (iI 0), .int (iI 0)] [] lk_X7_129 (c_X10_addStep _ _ _ _ _ S g130 a1 14 0 0 hs_a1 (by omega) (by omega) (by omega)) hs_a1 ⟨by decide, rfl⟩ kd29_5.2.2.2.2.1 rfl rfl (by simp [Value.category]) (by decide) (by decide) (by decide) (by decide) (fun r132 S134 g133 pr132 qr132 hg133 => ?_)
            obtain ⟨rfl, rfl⟩ := pr132
            refine X_st [] rfl ?_
            refine X_iinc hK (i := 3) (z := z98) (n := 1) 0 [(3, .int (iI (z98 + 1))), (0, .ref a0), (1, .ref a1), (2, .int (iI x2))] kd29_5.2.2.2.2.2.1 rfl (by decide) rfl ?_
            refine X_goto hK 8 kd29_5.2.2.2.2.2.2.1 (by decide) ?_
            exact ihP117  g133 (xM.tr (xM.tr (xM_up (xM.tr xM.rf xLe.rf hg99 (by decide)) hg128 hs_a0 (by decide) (by decide)) xLe.rf hg130 (by decide)) xLe.rf hg133 (by decide)) (z98 + 1) (by omega) (by omega) (by omega)
  exact P117 ((66 - 0 : Int).toNat + 1) g2 xM.rf 0 (by omega) (by omega) (by omega)

set_option maxHeartbeats 4000000 in
set_option maxRecDepth 100000 in
theorem c_X7_readOne_5 (l : Launch) (D : va_G) (kA : Nat → ClassId) (b0 : Nat) (t0 : Nat → Nat) (S : xT) (g : xG) (a0 : Nat) (a1 : Nat) (x2 : Int) (hs_a0 : S a0 = some (8, 0)) (hs_a1 : S a1 = some (11, 0)) (hx2 : 5 ≤ x2 ∧ x2 ≤ 5) : xMt l yX7_readOne cX7_readOne 5 none 19 0 0 441 D kA b0 t0 [(8, 5), (8, 6), (8, 3), (8, 2), (14000, 0), (11, 2)] [.ref a0, .ref a1, .int (iI x2)] S g (fun (r : Option Value) (S1 : xT) (g1 : xG) => S = S1 ∧ r = none) := by
  refine xEnterV (by decide) (by simp [lg_sl, Value.category]) [(0, .ref a0), (1, .ref a1), (2, .int (iI x2))] rfl ?_
  intro K E hK hret _ _ _
  refine X_aloadn hK (i := 0) 0 kd29_20.2.2.2.2.2.2.1 rfl rfl ?_
  refine X_know hs_a0 (by decide) sl_8_2 (fun z1 ez1 lz1 uz1 => ?_)
  refine X_callV hK [] [] lk_X7_47 (c_X7_now _ _ _ _ _ S g a0 z1 hs_a0 (by omega) ez1) hs_a0 ⟨by decide, rfl⟩ kd29_20.2.2.2.2.2.2.2.1 rfl rfl (by simp [Value.category]) (by decide) (by decide) (by decide) (by decide) (fun r2 S4 g3 pr2 qr2 hg3 => ?_)
  obtain ⟨rfl, rfl, z5, rfl, lz5, uz5, k6⟩ := pr2
  refine X_st [.int (iI z5)] rfl ?_
  refine X_istoren hK (i := 3) [(3, .int (iI z5)), (0, .ref a0), (1, .ref a1), (2, .int (iI x2))] kd29_20.2.2.2.2.2.2.2.2.1 rfl (by decide) rfl ?_
  refine X_iloadn hK (i := 3) 0 kd29_20.2.2.2.2.2.2.2.2.2.1 rfl rfl ?_
  refine X_bipush hK kd29_20.2.2.2.2.2.2.2.2.2.2.1 (by decide) ?_
  refine X_icmp_lt hK 21 (by omega) (by omega) kd29_20.2.2.2.2.2.2.2.2.2.2.2 (by decide) (fun c7 => ?_) (fun c7 => ?_)
  · refine X_iconst hK kd29_21.2.2.2.2.2.1 ?_
    refine X_istore hK (i := 4) [(4, .int (iI 0)), (3, .int (iI z5)), (0, .ref a0), (1, .ref a1), (2, .int (iI x2))] kd29_21.2.2.2.2.2.2.1 (by decide) rfl ?_
    refine X_iload hK (i := 4) 0 kd29_21.2.2.2.2.2.2.2.1 rfl ?_
    refine X_if_ne hK 49 (by omega) kd29_21.2.2.2.2.2.2.2.2.1 (by decide) (fun c8 => False.elim (by omega)) (fun c8 => ?_)
    refine X_iloadn hK (i := 3) 1 kd29_21.2.2.2.2.2.2.2.2.2.1 rfl rfl ?_
    refine X_bipush hK kd29_21.2.2.2.2.2.2.2.2.2.2.1 (by decide) ?_
    refine X_icmp_eq hK 49 (by omega) (by omega) kd29_21.2.2.2.2.2.2.2.2.2.2.2 (by decide) (fun c9 => ?_) (fun c9 => ?_)
    · refine X_aloadn hK (i := 0) 2 kd29_22.2.2.2.2.2.2.2.1 rfl rfl ?_
      refine X_geti hK fl_X7_22_8 hs_a0 sl_8_3 kd29_22.2.2.2.2.2.2.2.2.1 (fun z10 ez10 lz10 uz10 => ?_)
      refine X_bipush hK kd29_22.2.2.2.2.2.2.2.2.2.1 (by decide) ?_
      refine X_icmp_ge hK 64 (by omega) (by omega) kd29_22.2.2.2.2.2.2.2.2.2.2.1 (by decide) (fun c11 => ?_) (fun c11 => ?_)
      · refine X_aloadn hK (i := 0) 2 kd29_23.2.2.1 rfl rfl ?_
        refine X_iconst hK kd29_23.2.2.2.1 ?_
        refine X_callV hK [.int (iI 4)] [] lk_X7_60 (c_X7_tell _ _ _ _ _ S g a0 4 hs_a0 (by omega)) hs_a0 ⟨by decide, rfl⟩ kd29_23.2.2.2.2.1 rfl rfl (by simp [Value.category]) (by decide) (by decide) (by decide) (by decide) (fun r12 S14 g13 pr12 qr12 hg13 => ?_)
        obtain ⟨rfl, rfl⟩ := pr12
        refine X_st [] rfl ?_
        refine X_goto hK 148 kd29_23.2.2.2.2.2.1 (by decide) ?_
        exact hret _ _ _ _ _ _ kd29_27.2.2.2 ⟨rfl, rfl⟩ (Nat.le_refl _) (Nat.le_refl _)
      · refine X_iloadn hK (i := 2) 4 kd29_22.2.2.2.2.2.2.2.2.2.2.2 rfl rfl ?_
        refine X_bipush hK kd29_23.1 (by decide) ?_
        refine X_icmp_le hK 72 (by omega) (by omega) kd29_23.2.1 (by decide) (fun c15 => ?_) (fun c15 => False.elim (by omega))
        refine X_aloadn hK (i := 0) 2 kd29_23.2.2.2.2.2.2.1 rfl rfl ?_
        refine X_dup hK kd29_23.2.2.2.2.2.2.2.1 rfl ?_
        refine X_getK hK fl_X7_22_8 hs_a0 ez10 kd29_23.2.2.2.2.2.2.2.2.1 ?_
        refine X_iconst hK kd29_23.2.2.2.2.2.2.2.2.2.1 ?_
        refine X_iadd hK kd29_23.2.2.2.2.2.2.2.2.2.2.1 ?_
        refine X_puti hK fl_X7_22_8 hs_a0 (by decide) sl_8_3 (by omega) (by omega) kd29_23.2.2.2.2.2.2.2.2.2.2.2 (fun g16 hg16 => ?_)
        refine X_aloadn hK (i := 0) 2 kd29_24.1 rfl rfl ?_
        refine X_dup hK kd29_24.2.1 rfl ?_
        refine X_getK hK fl_X7_18_8 hs_a0 ((xs_k hg16 (by decide)).trans ez1) kd29_24.2.2.1 ?_
        refine X_iconst hK kd29_24.2.2.2.1 ?_
        refine X_iadd hK kd29_24.2.2.2.2.1 ?_
        refine X_puti hK fl_X7_18_8 hs_a0 (by decide) sl_8_2 (by omega) (by omega) kd29_24.2.2.2.2.2.1 (fun g17 hg17 => ?_)
        refine X_iload hK (i := 4) 0 kd29_24.2.2.2.2.2.2.1 rfl ?_
        refine X_if_eq hK 109 (by omega) kd29_24.2.2.2.2.2.2.2.1 (by decide) (fun c18 => ?_) (fun c18 => False.elim (by omega))
        refine X_iloadn hK (i := 3) 1 kd29_25.2.2.2.1 rfl rfl ?_
        refine X_bipush hK kd29_25.2.2.2.2.1 (by decide) ?_
        refine X_icmp_ne hK 132 (by omega) (by omega) kd29_25.2.2.2.2.2.1 (by decide) (fun c19 => ?_) (fun c19 => False.elim (by omega))
        refine X_aloadn hK (i := 0) 2 kd29_26.2.2.2.2.1 rfl rfl ?_
        refine X_aloadn hK (i := 1) 3 kd29_26.2.2.2.2.2.1 rfl rfl ?_
        refine X_iloadn hK (i := 2) 4 kd29_26.2.2.2.2.2.2.1 rfl rfl ?_
        refine X_iconst hK kd29_26.2.2.2.2.2.2.2.1 ?_
        refine X_iadd hK kd29_26.2.2.2.2.2.2.2.2.1 ?_
        refine X_callV hK [.ref a1, .int (iI (x2 + 1))] [] lk_X7_132 (c_X7_readOne_6 _ _ _ _ _ S g17 a0 a1 (x2 + 1) hs_a0 hs_a1 (by omega)) hs_a0 ⟨by decide, rfl⟩ kd29_26.2.2.2.2.2.2.2.2.2.1 rfl rfl (by simp [Value.category]) (by decide) (by decide) (by decide) (by decide) (fun r20 S22 g21 pr20 qr20 hg21 => ?_)
        obtain ⟨rfl, rfl⟩ := pr20
        refine X_st [] rfl ?_
        refine X_aloadn hK (i := 1) 3 kd29_26.2.2.2.2.2.2.2.2.2.2.1 rfl rfl ?_
        refine X_bipush hK kd29_26.2.2.2.2.2.2.2.2.2.2.2 (by decide) ?_
        refine X_iconst hK kd29_27.1 ?_
        refine X_iconst hK kd29_27.2.1 ?_
        refine X_callV hK [.int (iI 12), .int (iI 0), .int (iI 0)] [] lk_X7_129 (c_X10_addStep _ _ _ _ _ S g21 a1 12 0 0 hs_a1 (by omega) (by omega) (by omega)) hs_a1 ⟨by decide, rfl⟩ kd29_27.2.2.1 rfl rfl (by simp [Value.category]) (by decide) (by decide) (by decide) (by decide) (fun r23 S25 g24 pr23 qr23 hg24 => ?_)
        obtain ⟨rfl, rfl⟩ := pr23
        refine X_st [] rfl ?_
        exact hret _ _ _ _ _ _ kd29_27.2.2.2 ⟨rfl, rfl⟩ (Nat.le_refl _) (Nat.le_refl _)
    · refine X_iloadn hK (i := 3) 1 kd29_22.1 rfl rfl ?_
      refine X_bipush hK kd29_22.2.1 (by decide) ?_
      refine X_icmp_eq hK 49 (by omega) (by omega) kd29_22.2.2.1 (by decide) (fun c26 => False.elim (by omega)) (fun c26 => ?_)
      refine X_aloadn hK (i := 0) 2 kd29_22.2.2.2.1 rfl rfl ?_
      refine X_iconst hK kd29_22.2.2.2.2.1 ?_
      refine X_callV hK [.int (iI 1)] [] lk_X7_60 (c_X7_tell _ _ _ _ _ S g a0 1 hs_a0 (by omega)) hs_a0 ⟨by decide, rfl⟩ kd29_22.2.2.2.2.2.1 rfl rfl (by simp [Value.category]) (by decide) (by decide) (by decide) (by decide) (fun r27 S29 g28 pr27 qr27 hg28 => ?_)
      obtain ⟨rfl, rfl⟩ := pr27
      refine X_st [] rfl ?_
      refine X_goto hK 148 kd29_22.2.2.2.2.2.2.1 (by decide) ?_
      exact hret _ _ _ _ _ _ kd29_27.2.2.2 ⟨rfl, rfl⟩ (Nat.le_refl _) (Nat.le_refl _)
  · refine X_iloadn hK (i := 3) 0 kd29_21.1 rfl rfl ?_
    refine X_bipush hK kd29_21.2.1 (by decide) ?_
    refine X_icmp_ge hK 21 (by omega) (by omega) kd29_21.2.2.1 (by decide) (fun c30 => ?_) (fun c30 => ?_)
    · refine X_iconst hK kd29_21.2.2.2.2.2.1 ?_
      refine X_istore hK (i := 4) [(4, .int (iI 0)), (3, .int (iI z5)), (0, .ref a0), (1, .ref a1), (2, .int (iI x2))] kd29_21.2.2.2.2.2.2.1 (by decide) rfl ?_
      refine X_iload hK (i := 4) 0 kd29_21.2.2.2.2.2.2.2.1 rfl ?_
      refine X_if_ne hK 49 (by omega) kd29_21.2.2.2.2.2.2.2.2.1 (by decide) (fun c31 => False.elim (by omega)) (fun c31 => ?_)
      refine X_iloadn hK (i := 3) 1 kd29_21.2.2.2.2.2.2.2.2.2.1 rfl rfl ?_
      refine X_bipush hK kd29_21.2.2.2.2.2.2.2.2.2.2.1 (by decide) ?_
      refine X_icmp_eq hK 49 (by omega) (by omega) kd29_21.2.2.2.2.2.2.2.2.2.2.2 (by decide) (fun c32 => False.elim (by omega)) (fun c32 => ?_)
      refine X_iloadn hK (i := 3) 1 kd29_22.1 rfl rfl ?_
      refine X_bipush hK kd29_22.2.1 (by decide) ?_
      refine X_icmp_eq hK 49 (by omega) (by omega) kd29_22.2.2.1 (by decide) (fun c33 => ?_) (fun c33 => ?_)
      · refine X_aloadn hK (i := 0) 2 kd29_22.2.2.2.2.2.2.2.1 rfl rfl ?_
        refine X_geti hK fl_X7_22_8 hs_a0 sl_8_3 kd29_22.2.2.2.2.2.2.2.2.1 (fun z34 ez34 lz34 uz34 => ?_)
        refine X_bipush hK kd29_22.2.2.2.2.2.2.2.2.2.1 (by decide) ?_
        refine X_icmp_ge hK 64 (by omega) (by omega) kd29_22.2.2.2.2.2.2.2.2.2.2.1 (by decide) (fun c35 => ?_) (fun c35 => ?_)
        · refine X_aloadn hK (i := 0) 2 kd29_23.2.2.1 rfl rfl ?_
          refine X_iconst hK kd29_23.2.2.2.1 ?_
          refine X_callV hK [.int (iI 4)] [] lk_X7_60 (c_X7_tell _ _ _ _ _ S g a0 4 hs_a0 (by omega)) hs_a0 ⟨by decide, rfl⟩ kd29_23.2.2.2.2.1 rfl rfl (by simp [Value.category]) (by decide) (by decide) (by decide) (by decide) (fun r36 S38 g37 pr36 qr36 hg37 => ?_)
          obtain ⟨rfl, rfl⟩ := pr36
          refine X_st [] rfl ?_
          refine X_goto hK 148 kd29_23.2.2.2.2.2.1 (by decide) ?_
          exact hret _ _ _ _ _ _ kd29_27.2.2.2 ⟨rfl, rfl⟩ (Nat.le_refl _) (Nat.le_refl _)
        · refine X_iloadn hK (i := 2) 4 kd29_22.2.2.2.2.2.2.2.2.2.2.2 rfl rfl ?_
          refine X_bipush hK kd29_23.1 (by decide) ?_
          refine X_icmp_le hK 72 (by omega) (by omega) kd29_23.2.1 (by decide) (fun c39 => ?_) (fun c39 => False.elim (by omega))
          refine X_aloadn hK (i := 0) 2 kd29_23.2.2.2.2.2.2.1 rfl rfl ?_
          refine X_dup hK kd29_23.2.2.2.2.2.2.2.1 rfl ?_
          refine X_getK hK fl_X7_22_8 hs_a0 ez34 kd29_23.2.2.2.2.2.2.2.2.1 ?_
          refine X_iconst hK kd29_23.2.2.2.2.2.2.2.2.2.1 ?_
          refine X_iadd hK kd29_23.2.2.2.2.2.2.2.2.2.2.1 ?_
          refine X_puti hK fl_X7_22_8 hs_a0 (by decide) sl_8_3 (by omega) (by omega) kd29_23.2.2.2.2.2.2.2.2.2.2.2 (fun g40 hg40 => ?_)
          refine X_aloadn hK (i := 0) 2 kd29_24.1 rfl rfl ?_
          refine X_dup hK kd29_24.2.1 rfl ?_
          refine X_getK hK fl_X7_18_8 hs_a0 ((xs_k hg40 (by decide)).trans ez1) kd29_24.2.2.1 ?_
          refine X_iconst hK kd29_24.2.2.2.1 ?_
          refine X_iadd hK kd29_24.2.2.2.2.1 ?_
          refine X_puti hK fl_X7_18_8 hs_a0 (by decide) sl_8_2 (by omega) (by omega) kd29_24.2.2.2.2.2.1 (fun g41 hg41 => ?_)
          refine X_iload hK (i := 4) 0 kd29_24.2.2.2.2.2.2.1 rfl ?_
          refine X_if_eq hK 109 (by omega) kd29_24.2.2.2.2.2.2.2.1 (by decide) (fun c42 => ?_) (fun c42 => False.elim (by omega))
          refine X_iloadn hK (i := 3) 1 kd29_25.2.2.2.1 rfl rfl ?_
          refine X_bipush hK kd29_25.2.2.2.2.1 (by decide) ?_
          refine X_icmp_ne hK 132 (by omega) (by omega) kd29_25.2.2.2.2.2.1 (by decide) (fun c43 => False.elim (by omega)) (fun c43 => ?_)
          refine X_aloadn hK (i := 0) 2 kd29_25.2.2.2.2.2.2.1 rfl rfl ?_
          refine X_aloadn hK (i := 1) 3 kd29_25.2.2.2.2.2.2.2.1 rfl rfl ?_
          refine X_iloadn hK (i := 2) 4 kd29_25.2.2.2.2.2.2.2.2.1 rfl rfl ?_
          refine X_iconst hK kd29_25.2.2.2.2.2.2.2.2.2.1 ?_
          refine X_iadd hK kd29_25.2.2.2.2.2.2.2.2.2.2.1 ?_
          refine X_callV hK [.ref a1, .int (iI (x2 + 1))] [] lk_X7_115 (c_X7_readCond_6 _ _ _ _ _ S g41 a0 a1 (x2 + 1) hs_a0 hs_a1 (by omega)) hs_a0 ⟨by decide, rfl⟩ kd29_25.2.2.2.2.2.2.2.2.2.2.2 rfl rfl (by simp [Value.category]) (by decide) (by decide) (by decide) (by decide) (fun r44 S46 g45 pr44 qr44 hg45 => ?_)
          obtain ⟨rfl, rfl⟩ := pr44
          refine X_st [] rfl ?_
          refine X_aloadn hK (i := 0) 2 kd29_26.1 rfl rfl ?_
          refine X_bipush hK kd29_26.2.1 (by decide) ?_
          refine X_callV hK [.int (iI 26)] [] lk_X7_119 (c_X7_expect _ _ _ _ _ S g45 a0 26 hs_a0 (by omega)) hs_a0 ⟨by decide, rfl⟩ kd29_26.2.2.1 rfl rfl (by simp [Value.category]) (by decide) (by decide) (by decide) (by decide) (fun r47 S49 g48 pr47 qr47 hg48 => ?_)
          obtain ⟨rfl, rfl⟩ := pr47
          refine X_st [] rfl ?_
          refine X_goto hK 148 kd29_26.2.2.2.1 (by decide) ?_
          exact hret _ _ _ _ _ _ kd29_27.2.2.2 ⟨rfl, rfl⟩ (Nat.le_refl _) (Nat.le_refl _)
      · refine X_aloadn hK (i := 0) 2 kd29_22.2.2.2.1 rfl rfl ?_
        refine X_iconst hK kd29_22.2.2.2.2.1 ?_
        refine X_callV hK [.int (iI 1)] [] lk_X7_60 (c_X7_tell _ _ _ _ _ S g a0 1 hs_a0 (by omega)) hs_a0 ⟨by decide, rfl⟩ kd29_22.2.2.2.2.2.1 rfl rfl (by simp [Value.category]) (by decide) (by decide) (by decide) (by decide) (fun r50 S52 g51 pr50 qr50 hg51 => ?_)
        obtain ⟨rfl, rfl⟩ := pr50
        refine X_st [] rfl ?_
        refine X_goto hK 148 kd29_22.2.2.2.2.2.2.1 (by decide) ?_
        exact hret _ _ _ _ _ _ kd29_27.2.2.2 ⟨rfl, rfl⟩ (Nat.le_refl _) (Nat.le_refl _)
    · refine X_iconst hK kd29_21.2.2.2.1 ?_
      refine X_goto hK 22 kd29_21.2.2.2.2.1 (by decide) ?_
      refine X_istore hK (i := 4) [(4, .int (iI 1)), (3, .int (iI z5)), (0, .ref a0), (1, .ref a1), (2, .int (iI x2))] kd29_21.2.2.2.2.2.2.1 (by decide) rfl ?_
      refine X_iload hK (i := 4) 0 kd29_21.2.2.2.2.2.2.2.1 rfl ?_
      refine X_if_ne hK 49 (by omega) kd29_21.2.2.2.2.2.2.2.2.1 (by decide) (fun c53 => ?_) (fun c53 => False.elim (by omega))
      refine X_aloadn hK (i := 0) 2 kd29_22.2.2.2.2.2.2.2.1 rfl rfl ?_
      refine X_geti hK fl_X7_22_8 hs_a0 sl_8_3 kd29_22.2.2.2.2.2.2.2.2.1 (fun z54 ez54 lz54 uz54 => ?_)
      refine X_bipush hK kd29_22.2.2.2.2.2.2.2.2.2.1 (by decide) ?_
      refine X_icmp_ge hK 64 (by omega) (by omega) kd29_22.2.2.2.2.2.2.2.2.2.2.1 (by decide) (fun c55 => ?_) (fun c55 => ?_)
      · refine X_aloadn hK (i := 0) 2 kd29_23.2.2.1 rfl rfl ?_
        refine X_iconst hK kd29_23.2.2.2.1 ?_
        refine X_callV hK [.int (iI 4)] [] lk_X7_60 (c_X7_tell _ _ _ _ _ S g a0 4 hs_a0 (by omega)) hs_a0 ⟨by decide, rfl⟩ kd29_23.2.2.2.2.1 rfl rfl (by simp [Value.category]) (by decide) (by decide) (by decide) (by decide) (fun r56 S58 g57 pr56 qr56 hg57 => ?_)
        obtain ⟨rfl, rfl⟩ := pr56
        refine X_st [] rfl ?_
        refine X_goto hK 148 kd29_23.2.2.2.2.2.1 (by decide) ?_
        exact hret _ _ _ _ _ _ kd29_27.2.2.2 ⟨rfl, rfl⟩ (Nat.le_refl _) (Nat.le_refl _)
      · refine X_iloadn hK (i := 2) 4 kd29_22.2.2.2.2.2.2.2.2.2.2.2 rfl rfl ?_
        refine X_bipush hK kd29_23.1 (by decide) ?_
        refine X_icmp_le hK 72 (by omega) (by omega) kd29_23.2.1 (by decide) (fun c59 => ?_) (fun c59 => False.elim (by omega))
        refine X_aloadn hK (i := 0) 2 kd29_23.2.2.2.2.2.2.1 rfl rfl ?_
        refine X_dup hK kd29_23.2.2.2.2.2.2.2.1 rfl ?_
        refine X_getK hK fl_X7_22_8 hs_a0 ez54 kd29_23.2.2.2.2.2.2.2.2.1 ?_
        refine X_iconst hK kd29_23.2.2.2.2.2.2.2.2.2.1 ?_
        refine X_iadd hK kd29_23.2.2.2.2.2.2.2.2.2.2.1 ?_
        refine X_puti hK fl_X7_22_8 hs_a0 (by decide) sl_8_3 (by omega) (by omega) kd29_23.2.2.2.2.2.2.2.2.2.2.2 (fun g60 hg60 => ?_)
        refine X_aloadn hK (i := 0) 2 kd29_24.1 rfl rfl ?_
        refine X_dup hK kd29_24.2.1 rfl ?_
        refine X_getK hK fl_X7_18_8 hs_a0 ((xs_k hg60 (by decide)).trans ez1) kd29_24.2.2.1 ?_
        refine X_iconst hK kd29_24.2.2.2.1 ?_
        refine X_iadd hK kd29_24.2.2.2.2.1 ?_
        refine X_puti hK fl_X7_18_8 hs_a0 (by decide) sl_8_2 (by omega) (by omega) kd29_24.2.2.2.2.2.1 (fun g61 hg61 => ?_)
        refine X_iload hK (i := 4) 0 kd29_24.2.2.2.2.2.2.1 rfl ?_
        refine X_if_eq hK 109 (by omega) kd29_24.2.2.2.2.2.2.2.1 (by decide) (fun c62 => False.elim (by omega)) (fun c62 => ?_)
        refine X_aloadn hK (i := 0) 2 kd29_24.2.2.2.2.2.2.2.2.1 rfl rfl ?_
        refine X_aloadn hK (i := 1) 3 kd29_24.2.2.2.2.2.2.2.2.2.1 rfl rfl ?_
        refine X_iloadn hK (i := 3) 1 kd29_24.2.2.2.2.2.2.2.2.2.2.1 rfl rfl ?_
        refine X_bipush hK kd29_24.2.2.2.2.2.2.2.2.2.2.2 (by decide) ?_
        refine X_isub hK kd29_25.1 ?_
        refine X_callV hK [.ref a1, .int (iI (z5 - 10))] [] lk_X7_135 (c_X7_readFact _ _ _ _ _ S g61 a0 a1 (z5 - 10) hs_a0 hs_a1 (by omega)) hs_a0 ⟨by decide, rfl⟩ kd29_25.2.1 rfl rfl (by simp [Value.category]) (by decide) (by decide) (by decide) (by decide) (fun r63 S65 g64 pr63 qr63 hg64 => ?_)
        obtain ⟨rfl, rfl⟩ := pr63
        refine X_st [] rfl ?_
        refine X_goto hK 148 kd29_25.2.2.1 (by decide) ?_
        exact hret _ _ _ _ _ _ kd29_27.2.2.2 ⟨rfl, rfl⟩ (Nat.le_refl _) (Nat.le_refl _)

set_option maxHeartbeats 4000000 in
set_option maxRecDepth 100000 in
theorem c_X7_readAll_5 (l : Launch) (D : va_G) (kA : Nat → ClassId) (b0 : Nat) (t0 : Nat → Nat) (S : xT) (g : xG) (a0 : Nat) (a1 : Nat) (x2 : Int) (hs_a0 : S a0 = some (8, 0)) (hs_a1 : S a1 = some (11, 0)) (hx2 : 5 ≤ x2 ∧ x2 ≤ 5) : xMt l yX7_readAll cX7_readAll 4 none 20 0 0 465 D kA b0 t0 [(8, 5), (8, 6), (8, 3), (8, 2), (14000, 0), (11, 2)] [.ref a0, .ref a1, .int (iI x2)] S g (fun (r : Option Value) (S1 : xT) (g1 : xG) => S = S1 ∧ r = none) := by
  refine xEnterV (by decide) (by simp [lg_sl, Value.category]) [(0, .ref a0), (1, .ref a1), (2, .int (iI x2))] rfl ?_
  intro K E hK hret _ _ _
  refine X_aloadn hK (i := 0) 0 kd29_0.1 rfl rfl ?_
  refine X_aloadn hK (i := 1) 1 kd29_0.2.1 rfl rfl ?_
  refine X_iloadn hK (i := 2) 2 kd29_0.2.2.1 rfl rfl ?_
  refine X_callV hK [.ref a1, .int (iI x2)] [] lk_X7_132 (c_X7_readOne_5 _ _ _ _ _ S g a0 a1 x2 hs_a0 hs_a1 (by omega)) hs_a0 ⟨by decide, rfl⟩ kd29_0.2.2.2.1 rfl rfl (by simp [Value.category]) (by decide) (by decide) (by decide) (by decide) (fun r1 S3 g2 pr1 qr1 hg2 => ?_)
  obtain ⟨rfl, rfl⟩ := pr1
  refine X_st [] rfl ?_
  refine X_iconst hK kd29_0.2.2.2.2.1 ?_
  refine X_istoren hK (i := 3) [(3, .int (iI 0)), (0, .ref a0), (1, .ref a1), (2, .int (iI x2))] kd29_0.2.2.2.2.2.1 rfl (by decide) rfl ?_
  have P117 : ∀ (nP117 : Nat) (g99 : xG) (_ : xM [(14000, 0), (11, 2), (8, 5), (8, 6), (8, 3), (8, 2)] S g2 g99) (z98 : Int) (_ : 0 ≤ z98) (_ : z98 ≤ 50) (_ : 66 - z98 < (nP117 : Int)), X K E 8 [(3, .int (iI z98)), (0, .ref a0), (1, .ref a1), (2, .int (iI x2))] [] S g99 0 0 := by
    intro nP117
    induction nP117 with
    | zero => intro g99 hg99 z98 lz98 uz98 mP117; exact False.elim (by omega)
    | succ nP117 ihP117 =>
      intro g99 hg99 z98 lz98 uz98 mP117
      refine X_iloadn hK (i := 3) 0 kd29_0.2.2.2.2.2.2.1 rfl rfl ?_
      refine X_bipush hK kd29_0.2.2.2.2.2.2.2.1 (by decide) ?_
      refine X_icmp_ge hK 60 (by omega) (by omega) kd29_0.2.2.2.2.2.2.2.2.1 (by decide) (fun c118 => ?_) (fun c118 => ?_)
      · exact hret _ _ _ _ _ _ kd29_2.2.2.2.2.2.2.2.2.2.1 ⟨rfl, rfl⟩ (Nat.le_refl _) (Nat.le_refl _)
      · refine X_aloadn hK (i := 0) 1 kd29_0.2.2.2.2.2.2.2.2.2.1 rfl rfl ?_
        refine X_geti hK fl_X7_29_8 hs_a0 sl_8_5 kd29_0.2.2.2.2.2.2.2.2.2.2.1 (fun z119 ez119 lz119 uz119 => ?_)
        refine X_if_ne hK 60 (by omega) kd29_0.2.2.2.2.2.2.2.2.2.2.2 (by decide) (fun c120 => ?_) (fun c120 => ?_)
        · exact hret _ _ _ _ _ _ kd29_2.2.2.2.2.2.2.2.2.2.1 ⟨rfl, rfl⟩ (Nat.le_refl _) (Nat.le_refl _)
        · refine X_aloadn hK (i := 0) 1 kd29_1.1 rfl rfl ?_
          refine X_know hs_a0 (by decide) sl_8_2 (fun z121 ez121 lz121 uz121 => ?_)
          refine X_callV hK [] [] lk_X7_47 (c_X7_now _ _ _ _ _ S g99 a0 z121 hs_a0 (by omega) ez121) hs_a0 ⟨by decide, rfl⟩ kd29_1.2.1 rfl rfl (by simp [Value.category]) (by decide) (by decide) (by decide) (by decide) (fun r122 S124 g123 pr122 qr122 hg123 => ?_)
          obtain ⟨rfl, rfl, z125, rfl, lz125, uz125, k126⟩ := pr122
          refine X_st [.int (iI z125)] rfl ?_
          refine X_bipush hK kd29_1.2.2.1 (by decide) ?_
          refine X_icmp_ne hK 60 (by omega) (by omega) kd29_1.2.2.2.1 (by decide) (fun c127 => ?_) (fun c127 => ?_)
          · exact hret _ _ _ _ _ _ kd29_2.2.2.2.2.2.2.2.2.2.1 ⟨rfl, rfl⟩ (Nat.le_refl _) (Nat.le_refl _)
          · refine X_aloadn hK (i := 0) 1 kd29_1.2.2.2.2.1 rfl rfl ?_
            refine X_dup hK kd29_1.2.2.2.2.2.1 rfl ?_
            refine X_getK hK fl_X7_18_8 hs_a0 ez121 kd29_1.2.2.2.2.2.2.1 ?_
            refine X_iconst hK kd29_1.2.2.2.2.2.2.2.1 ?_
            refine X_iadd hK kd29_1.2.2.2.2.2.2.2.2.1 ?_
            refine X_puti hK fl_X7_18_8 hs_a0 (by decide) sl_8_2 (by omega) (by omega) kd29_1.2.2.2.2.2.2.2.2.2.1 (fun g128 hg128 => ?_)
            refine X_aloadn hK (i := 0) 1 kd29_1.2.2.2.2.2.2.2.2.2.2.1 rfl rfl ?_
            refine X_aloadn hK (i := 1) 2 kd29_1.2.2.2.2.2.2.2.2.2.2.2 rfl rfl ?_
            refine X_iloadn hK (i := 2) 3 kd29_2.1 rfl rfl ?_
            refine X_callV hK [.ref a1, .int (iI x2)] [] lk_X7_132 (c_X7_readOne_5 _ _ _ _ _ S g128 a0 a1 x2 hs_a0 hs_a1 (by omega)) hs_a0 ⟨by decide, rfl⟩ kd29_2.2.1 rfl rfl (by simp [Value.category]) (by decide) (by decide) (by decide) (by decide) (fun r129 S131 g130 pr129 qr129 hg130 => ?_)
            obtain ⟨rfl, rfl⟩ := pr129
            refine X_st [] rfl ?_
            refine X_aloadn hK (i := 1) 2 kd29_2.2.2.1 rfl rfl ?_
            refine X_bipush hK kd29_2.2.2.2.1 (by decide) ?_
            refine X_iconst hK kd29_2.2.2.2.2.1 ?_
            refine X_iconst hK kd29_2.2.2.2.2.2.1 ?_
            refine X_callV hK [.int (iI 13), .int (iI 0), .int (iI 0)] [] lk_X7_129 (c_X10_addStep _ _ _ _ _ S g130 a1 13 0 0 hs_a1 (by omega) (by omega) (by omega)) hs_a1 ⟨by decide, rfl⟩ kd29_2.2.2.2.2.2.2.1 rfl rfl (by simp [Value.category]) (by decide) (by decide) (by decide) (by decide) (fun r132 S134 g133 pr132 qr132 hg133 => ?_)
            obtain ⟨rfl, rfl⟩ := pr132
            refine X_st [] rfl ?_
            refine X_iinc hK (i := 3) (z := z98) (n := 1) 0 [(3, .int (iI (z98 + 1))), (0, .ref a0), (1, .ref a1), (2, .int (iI x2))] kd29_2.2.2.2.2.2.2.2.1 rfl (by decide) rfl ?_
            refine X_goto hK 8 kd29_2.2.2.2.2.2.2.2.2.1 (by decide) ?_
            exact ihP117  g133 (xM.tr (xM.tr (xM_up (xM.tr xM.rf xLe.rf hg99 (by decide)) hg128 hs_a0 (by decide) (by decide)) xLe.rf hg130 (by decide)) xLe.rf hg133 (by decide)) (z98 + 1) (by omega) (by omega) (by omega)
  exact P117 ((66 - 0 : Int).toNat + 1) g2 xM.rf 0 (by omega) (by omega) (by omega)

set_option maxHeartbeats 4000000 in
set_option maxRecDepth 100000 in
theorem c_X7_readCond_5 (l : Launch) (D : va_G) (kA : Nat → ClassId) (b0 : Nat) (t0 : Nat → Nat) (S : xT) (g : xG) (a0 : Nat) (a1 : Nat) (x2 : Int) (hs_a0 : S a0 = some (8, 0)) (hs_a1 : S a1 = some (11, 0)) (hx2 : 5 ≤ x2 ∧ x2 ≤ 5) : xMt l yX7_readCond cX7_readCond 4 none 21 0 0 488 D kA b0 t0 [(8, 5), (8, 6), (8, 3), (8, 2), (14000, 0), (11, 2)] [.ref a0, .ref a1, .int (iI x2)] S g (fun (r : Option Value) (S1 : xT) (g1 : xG) => S = S1 ∧ r = none) := by
  refine xEnterV (by decide) (by simp [lg_sl, Value.category]) [(0, .ref a0), (1, .ref a1), (2, .int (iI x2))] rfl ?_
  intro K E hK hret _ _ _
  refine X_aloadn hK (i := 0) 0 kd29_2.2.2.2.2.2.2.2.2.2.2.1 rfl rfl ?_
  refine X_aloadn hK (i := 1) 1 kd29_2.2.2.2.2.2.2.2.2.2.2.2 rfl rfl ?_
  refine X_iloadn hK (i := 2) 2 kd29_3.1 rfl rfl ?_
  refine X_callV hK [.ref a1, .int (iI x2)] [] lk_X7_126 (c_X7_readAll_5 _ _ _ _ _ S g a0 a1 x2 hs_a0 hs_a1 (by omega)) hs_a0 ⟨by decide, rfl⟩ kd29_3.2.1 rfl rfl (by simp [Value.category]) (by decide) (by decide) (by decide) (by decide) (fun r1 S3 g2 pr1 qr1 hg2 => ?_)
  obtain ⟨rfl, rfl⟩ := pr1
  refine X_st [] rfl ?_
  refine X_iconst hK kd29_3.2.2.1 ?_
  refine X_istoren hK (i := 3) [(3, .int (iI 0)), (0, .ref a0), (1, .ref a1), (2, .int (iI x2))] kd29_3.2.2.2.1 rfl (by decide) rfl ?_
  have P117 : ∀ (nP117 : Nat) (g99 : xG) (_ : xM [(14000, 0), (11, 2), (8, 5), (8, 6), (8, 3), (8, 2)] S g2 g99) (z98 : Int) (_ : 0 ≤ z98) (_ : z98 ≤ 50) (_ : 66 - z98 < (nP117 : Int)), X K E 8 [(3, .int (iI z98)), (0, .ref a0), (1, .ref a1), (2, .int (iI x2))] [] S g99 0 0 := by
    intro nP117
    induction nP117 with
    | zero => intro g99 hg99 z98 lz98 uz98 mP117; exact False.elim (by omega)
    | succ nP117 ihP117 =>
      intro g99 hg99 z98 lz98 uz98 mP117
      refine X_iloadn hK (i := 3) 0 kd29_3.2.2.2.2.1 rfl rfl ?_
      refine X_bipush hK kd29_3.2.2.2.2.2.1 (by decide) ?_
      refine X_icmp_ge hK 60 (by omega) (by omega) kd29_3.2.2.2.2.2.2.1 (by decide) (fun c118 => ?_) (fun c118 => ?_)
      · exact hret _ _ _ _ _ _ kd29_5.2.2.2.2.2.2.2.1 ⟨rfl, rfl⟩ (Nat.le_refl _) (Nat.le_refl _)
      · refine X_aloadn hK (i := 0) 1 kd29_3.2.2.2.2.2.2.2.1 rfl rfl ?_
        refine X_geti hK fl_X7_29_8 hs_a0 sl_8_5 kd29_3.2.2.2.2.2.2.2.2.1 (fun z119 ez119 lz119 uz119 => ?_)
        refine X_if_ne hK 60 (by omega) kd29_3.2.2.2.2.2.2.2.2.2.1 (by decide) (fun c120 => ?_) (fun c120 => ?_)
        · exact hret _ _ _ _ _ _ kd29_5.2.2.2.2.2.2.2.1 ⟨rfl, rfl⟩ (Nat.le_refl _) (Nat.le_refl _)
        · refine X_aloadn hK (i := 0) 1 kd29_3.2.2.2.2.2.2.2.2.2.2.1 rfl rfl ?_
          refine X_know hs_a0 (by decide) sl_8_2 (fun z121 ez121 lz121 uz121 => ?_)
          refine X_callV hK [] [] lk_X7_47 (c_X7_now _ _ _ _ _ S g99 a0 z121 hs_a0 (by omega) ez121) hs_a0 ⟨by decide, rfl⟩ kd29_3.2.2.2.2.2.2.2.2.2.2.2 rfl rfl (by simp [Value.category]) (by decide) (by decide) (by decide) (by decide) (fun r122 S124 g123 pr122 qr122 hg123 => ?_)
          obtain ⟨rfl, rfl, z125, rfl, lz125, uz125, k126⟩ := pr122
          refine X_st [.int (iI z125)] rfl ?_
          refine X_bipush hK kd29_4.1 (by decide) ?_
          refine X_icmp_ne hK 60 (by omega) (by omega) kd29_4.2.1 (by decide) (fun c127 => ?_) (fun c127 => ?_)
          · exact hret _ _ _ _ _ _ kd29_5.2.2.2.2.2.2.2.1 ⟨rfl, rfl⟩ (Nat.le_refl _) (Nat.le_refl _)
          · refine X_aloadn hK (i := 0) 1 kd29_4.2.2.1 rfl rfl ?_
            refine X_dup hK kd29_4.2.2.2.1 rfl ?_
            refine X_getK hK fl_X7_18_8 hs_a0 ez121 kd29_4.2.2.2.2.1 ?_
            refine X_iconst hK kd29_4.2.2.2.2.2.1 ?_
            refine X_iadd hK kd29_4.2.2.2.2.2.2.1 ?_
            refine X_puti hK fl_X7_18_8 hs_a0 (by decide) sl_8_2 (by omega) (by omega) kd29_4.2.2.2.2.2.2.2.1 (fun g128 hg128 => ?_)
            refine X_aloadn hK (i := 0) 1 kd29_4.2.2.2.2.2.2.2.2.1 rfl rfl ?_
            refine X_aloadn hK (i := 1) 2 kd29_4.2.2.2.2.2.2.2.2.2.1 rfl rfl ?_
            refine X_iloadn hK (i := 2) 3 kd29_4.2.2.2.2.2.2.2.2.2.2.1 rfl rfl ?_
            refine X_callV hK [.ref a1, .int (iI x2)] [] lk_X7_126 (c_X7_readAll_5 _ _ _ _ _ S g128 a0 a1 x2 hs_a0 hs_a1 (by omega)) hs_a0 ⟨by decide, rfl⟩ kd29_4.2.2.2.2.2.2.2.2.2.2.2 rfl rfl (by simp [Value.category]) (by decide) (by decide) (by decide) (by decide) (fun r129 S131 g130 pr129 qr129 hg130 => ?_)
            obtain ⟨rfl, rfl⟩ := pr129
            refine X_st [] rfl ?_
            refine X_aloadn hK (i := 1) 2 kd29_5.1 rfl rfl ?_
            refine X_bipush hK kd29_5.2.1 (by decide) ?_
            refine X_iconst hK kd29_5.2.2.1 ?_
            refine X_iconst hK kd29_5.2.2.2.1 ?_
            refine X_callV hK [.int (iI 14), .int (iI 0), .int (iI 0)] [] lk_X7_129 (c_X10_addStep _ _ _ _ _ S g130 a1 14 0 0 hs_a1 (by omega) (by omega) (by omega)) hs_a1 ⟨by decide, rfl⟩ kd29_5.2.2.2.2.1 rfl rfl (by simp [Value.category]) (by decide) (by decide) (by decide) (by decide) (fun r132 S134 g133 pr132 qr132 hg133 => ?_)
            obtain ⟨rfl, rfl⟩ := pr132
            refine X_st [] rfl ?_
            refine X_iinc hK (i := 3) (z := z98) (n := 1) 0 [(3, .int (iI (z98 + 1))), (0, .ref a0), (1, .ref a1), (2, .int (iI x2))] kd29_5.2.2.2.2.2.1 rfl (by decide) rfl ?_
            refine X_goto hK 8 kd29_5.2.2.2.2.2.2.1 (by decide) ?_
            exact ihP117  g133 (xM.tr (xM.tr (xM_up (xM.tr xM.rf xLe.rf hg99 (by decide)) hg128 hs_a0 (by decide) (by decide)) xLe.rf hg130 (by decide)) xLe.rf hg133 (by decide)) (z98 + 1) (by omega) (by omega) (by omega)
  exact P117 ((66 - 0 : Int).toNat + 1) g2 xM.rf 0 (by omega) (by omega) (by omega)

set_option maxHeartbeats 4000000 in
set_option maxRecDepth 100000 in
theorem c_X7_readOne_4 (l : Launch) (D : va_G) (kA : Nat → ClassId) (b0 : Nat) (t0 : Nat → Nat) (S : xT) (g : xG) (a0 : Nat) (a1 : Nat) (x2 : Int) (hs_a0 : S a0 = some (8, 0)) (hs_a1 : S a1 = some (11, 0)) (hx2 : 4 ≤ x2 ∧ x2 ≤ 4) : xMt l yX7_readOne cX7_readOne 5 none 22 0 0 511 D kA b0 t0 [(8, 5), (8, 6), (8, 3), (8, 2), (14000, 0), (11, 2)] [.ref a0, .ref a1, .int (iI x2)] S g (fun (r : Option Value) (S1 : xT) (g1 : xG) => S = S1 ∧ r = none) := by
  refine xEnterV (by decide) (by simp [lg_sl, Value.category]) [(0, .ref a0), (1, .ref a1), (2, .int (iI x2))] rfl ?_
  intro K E hK hret _ _ _
  refine X_aloadn hK (i := 0) 0 kd29_20.2.2.2.2.2.2.1 rfl rfl ?_
  refine X_know hs_a0 (by decide) sl_8_2 (fun z1 ez1 lz1 uz1 => ?_)
  refine X_callV hK [] [] lk_X7_47 (c_X7_now _ _ _ _ _ S g a0 z1 hs_a0 (by omega) ez1) hs_a0 ⟨by decide, rfl⟩ kd29_20.2.2.2.2.2.2.2.1 rfl rfl (by simp [Value.category]) (by decide) (by decide) (by decide) (by decide) (fun r2 S4 g3 pr2 qr2 hg3 => ?_)
  obtain ⟨rfl, rfl, z5, rfl, lz5, uz5, k6⟩ := pr2
  refine X_st [.int (iI z5)] rfl ?_
  refine X_istoren hK (i := 3) [(3, .int (iI z5)), (0, .ref a0), (1, .ref a1), (2, .int (iI x2))] kd29_20.2.2.2.2.2.2.2.2.1 rfl (by decide) rfl ?_
  refine X_iloadn hK (i := 3) 0 kd29_20.2.2.2.2.2.2.2.2.2.1 rfl rfl ?_
  refine X_bipush hK kd29_20.2.2.2.2.2.2.2.2.2.2.1 (by decide) ?_
  refine X_icmp_lt hK 21 (by omega) (by omega) kd29_20.2.2.2.2.2.2.2.2.2.2.2 (by decide) (fun c7 => ?_) (fun c7 => ?_)
  · refine X_iconst hK kd29_21.2.2.2.2.2.1 ?_
    refine X_istore hK (i := 4) [(4, .int (iI 0)), (3, .int (iI z5)), (0, .ref a0), (1, .ref a1), (2, .int (iI x2))] kd29_21.2.2.2.2.2.2.1 (by decide) rfl ?_
    refine X_iload hK (i := 4) 0 kd29_21.2.2.2.2.2.2.2.1 rfl ?_
    refine X_if_ne hK 49 (by omega) kd29_21.2.2.2.2.2.2.2.2.1 (by decide) (fun c8 => False.elim (by omega)) (fun c8 => ?_)
    refine X_iloadn hK (i := 3) 1 kd29_21.2.2.2.2.2.2.2.2.2.1 rfl rfl ?_
    refine X_bipush hK kd29_21.2.2.2.2.2.2.2.2.2.2.1 (by decide) ?_
    refine X_icmp_eq hK 49 (by omega) (by omega) kd29_21.2.2.2.2.2.2.2.2.2.2.2 (by decide) (fun c9 => ?_) (fun c9 => ?_)
    · refine X_aloadn hK (i := 0) 2 kd29_22.2.2.2.2.2.2.2.1 rfl rfl ?_
      refine X_geti hK fl_X7_22_8 hs_a0 sl_8_3 kd29_22.2.2.2.2.2.2.2.2.1 (fun z10 ez10 lz10 uz10 => ?_)
      refine X_bipush hK kd29_22.2.2.2.2.2.2.2.2.2.1 (by decide) ?_
      refine X_icmp_ge hK 64 (by omega) (by omega) kd29_22.2.2.2.2.2.2.2.2.2.2.1 (by decide) (fun c11 => ?_) (fun c11 => ?_)
      · refine X_aloadn hK (i := 0) 2 kd29_23.2.2.1 rfl rfl ?_
        refine X_iconst hK kd29_23.2.2.2.1 ?_
        refine X_callV hK [.int (iI 4)] [] lk_X7_60 (c_X7_tell _ _ _ _ _ S g a0 4 hs_a0 (by omega)) hs_a0 ⟨by decide, rfl⟩ kd29_23.2.2.2.2.1 rfl rfl (by simp [Value.category]) (by decide) (by decide) (by decide) (by decide) (fun r12 S14 g13 pr12 qr12 hg13 => ?_)
        obtain ⟨rfl, rfl⟩ := pr12
        refine X_st [] rfl ?_
        refine X_goto hK 148 kd29_23.2.2.2.2.2.1 (by decide) ?_
        exact hret _ _ _ _ _ _ kd29_27.2.2.2 ⟨rfl, rfl⟩ (Nat.le_refl _) (Nat.le_refl _)
      · refine X_iloadn hK (i := 2) 4 kd29_22.2.2.2.2.2.2.2.2.2.2.2 rfl rfl ?_
        refine X_bipush hK kd29_23.1 (by decide) ?_
        refine X_icmp_le hK 72 (by omega) (by omega) kd29_23.2.1 (by decide) (fun c15 => ?_) (fun c15 => False.elim (by omega))
        refine X_aloadn hK (i := 0) 2 kd29_23.2.2.2.2.2.2.1 rfl rfl ?_
        refine X_dup hK kd29_23.2.2.2.2.2.2.2.1 rfl ?_
        refine X_getK hK fl_X7_22_8 hs_a0 ez10 kd29_23.2.2.2.2.2.2.2.2.1 ?_
        refine X_iconst hK kd29_23.2.2.2.2.2.2.2.2.2.1 ?_
        refine X_iadd hK kd29_23.2.2.2.2.2.2.2.2.2.2.1 ?_
        refine X_puti hK fl_X7_22_8 hs_a0 (by decide) sl_8_3 (by omega) (by omega) kd29_23.2.2.2.2.2.2.2.2.2.2.2 (fun g16 hg16 => ?_)
        refine X_aloadn hK (i := 0) 2 kd29_24.1 rfl rfl ?_
        refine X_dup hK kd29_24.2.1 rfl ?_
        refine X_getK hK fl_X7_18_8 hs_a0 ((xs_k hg16 (by decide)).trans ez1) kd29_24.2.2.1 ?_
        refine X_iconst hK kd29_24.2.2.2.1 ?_
        refine X_iadd hK kd29_24.2.2.2.2.1 ?_
        refine X_puti hK fl_X7_18_8 hs_a0 (by decide) sl_8_2 (by omega) (by omega) kd29_24.2.2.2.2.2.1 (fun g17 hg17 => ?_)
        refine X_iload hK (i := 4) 0 kd29_24.2.2.2.2.2.2.1 rfl ?_
        refine X_if_eq hK 109 (by omega) kd29_24.2.2.2.2.2.2.2.1 (by decide) (fun c18 => ?_) (fun c18 => False.elim (by omega))
        refine X_iloadn hK (i := 3) 1 kd29_25.2.2.2.1 rfl rfl ?_
        refine X_bipush hK kd29_25.2.2.2.2.1 (by decide) ?_
        refine X_icmp_ne hK 132 (by omega) (by omega) kd29_25.2.2.2.2.2.1 (by decide) (fun c19 => ?_) (fun c19 => False.elim (by omega))
        refine X_aloadn hK (i := 0) 2 kd29_26.2.2.2.2.1 rfl rfl ?_
        refine X_aloadn hK (i := 1) 3 kd29_26.2.2.2.2.2.1 rfl rfl ?_
        refine X_iloadn hK (i := 2) 4 kd29_26.2.2.2.2.2.2.1 rfl rfl ?_
        refine X_iconst hK kd29_26.2.2.2.2.2.2.2.1 ?_
        refine X_iadd hK kd29_26.2.2.2.2.2.2.2.2.1 ?_
        refine X_callV hK [.ref a1, .int (iI (x2 + 1))] [] lk_X7_132 (c_X7_readOne_5 _ _ _ _ _ S g17 a0 a1 (x2 + 1) hs_a0 hs_a1 (by omega)) hs_a0 ⟨by decide, rfl⟩ kd29_26.2.2.2.2.2.2.2.2.2.1 rfl rfl (by simp [Value.category]) (by decide) (by decide) (by decide) (by decide) (fun r20 S22 g21 pr20 qr20 hg21 => ?_)
        obtain ⟨rfl, rfl⟩ := pr20
        refine X_st [] rfl ?_
        refine X_aloadn hK (i := 1) 3 kd29_26.2.2.2.2.2.2.2.2.2.2.1 rfl rfl ?_
        refine X_bipush hK kd29_26.2.2.2.2.2.2.2.2.2.2.2 (by decide) ?_
        refine X_iconst hK kd29_27.1 ?_
        refine X_iconst hK kd29_27.2.1 ?_
        refine X_callV hK [.int (iI 12), .int (iI 0), .int (iI 0)] [] lk_X7_129 (c_X10_addStep _ _ _ _ _ S g21 a1 12 0 0 hs_a1 (by omega) (by omega) (by omega)) hs_a1 ⟨by decide, rfl⟩ kd29_27.2.2.1 rfl rfl (by simp [Value.category]) (by decide) (by decide) (by decide) (by decide) (fun r23 S25 g24 pr23 qr23 hg24 => ?_)
        obtain ⟨rfl, rfl⟩ := pr23
        refine X_st [] rfl ?_
        exact hret _ _ _ _ _ _ kd29_27.2.2.2 ⟨rfl, rfl⟩ (Nat.le_refl _) (Nat.le_refl _)
    · refine X_iloadn hK (i := 3) 1 kd29_22.1 rfl rfl ?_
      refine X_bipush hK kd29_22.2.1 (by decide) ?_
      refine X_icmp_eq hK 49 (by omega) (by omega) kd29_22.2.2.1 (by decide) (fun c26 => False.elim (by omega)) (fun c26 => ?_)
      refine X_aloadn hK (i := 0) 2 kd29_22.2.2.2.1 rfl rfl ?_
      refine X_iconst hK kd29_22.2.2.2.2.1 ?_
      refine X_callV hK [.int (iI 1)] [] lk_X7_60 (c_X7_tell _ _ _ _ _ S g a0 1 hs_a0 (by omega)) hs_a0 ⟨by decide, rfl⟩ kd29_22.2.2.2.2.2.1 rfl rfl (by simp [Value.category]) (by decide) (by decide) (by decide) (by decide) (fun r27 S29 g28 pr27 qr27 hg28 => ?_)
      obtain ⟨rfl, rfl⟩ := pr27
      refine X_st [] rfl ?_
      refine X_goto hK 148 kd29_22.2.2.2.2.2.2.1 (by decide) ?_
      exact hret _ _ _ _ _ _ kd29_27.2.2.2 ⟨rfl, rfl⟩ (Nat.le_refl _) (Nat.le_refl _)
  · refine X_iloadn hK (i := 3) 0 kd29_21.1 rfl rfl ?_
    refine X_bipush hK kd29_21.2.1 (by decide) ?_
    refine X_icmp_ge hK 21 (by omega) (by omega) kd29_21.2.2.1 (by decide) (fun c30 => ?_) (fun c30 => ?_)
    · refine X_iconst hK kd29_21.2.2.2.2.2.1 ?_
      refine X_istore hK (i := 4) [(4, .int (iI 0)), (3, .int (iI z5)), (0, .ref a0), (1, .ref a1), (2, .int (iI x2))] kd29_21.2.2.2.2.2.2.1 (by decide) rfl ?_
      refine X_iload hK (i := 4) 0 kd29_21.2.2.2.2.2.2.2.1 rfl ?_
      refine X_if_ne hK 49 (by omega) kd29_21.2.2.2.2.2.2.2.2.1 (by decide) (fun c31 => False.elim (by omega)) (fun c31 => ?_)
      refine X_iloadn hK (i := 3) 1 kd29_21.2.2.2.2.2.2.2.2.2.1 rfl rfl ?_
      refine X_bipush hK kd29_21.2.2.2.2.2.2.2.2.2.2.1 (by decide) ?_
      refine X_icmp_eq hK 49 (by omega) (by omega) kd29_21.2.2.2.2.2.2.2.2.2.2.2 (by decide) (fun c32 => False.elim (by omega)) (fun c32 => ?_)
      refine X_iloadn hK (i := 3) 1 kd29_22.1 rfl rfl ?_
      refine X_bipush hK kd29_22.2.1 (by decide) ?_
      refine X_icmp_eq hK 49 (by omega) (by omega) kd29_22.2.2.1 (by decide) (fun c33 => ?_) (fun c33 => ?_)
      · refine X_aloadn hK (i := 0) 2 kd29_22.2.2.2.2.2.2.2.1 rfl rfl ?_
        refine X_geti hK fl_X7_22_8 hs_a0 sl_8_3 kd29_22.2.2.2.2.2.2.2.2.1 (fun z34 ez34 lz34 uz34 => ?_)
        refine X_bipush hK kd29_22.2.2.2.2.2.2.2.2.2.1 (by decide) ?_
        refine X_icmp_ge hK 64 (by omega) (by omega) kd29_22.2.2.2.2.2.2.2.2.2.2.1 (by decide) (fun c35 => ?_) (fun c35 => ?_)
        · refine X_aloadn hK (i := 0) 2 kd29_23.2.2.1 rfl rfl ?_
          refine X_iconst hK kd29_23.2.2.2.1 ?_
          refine X_callV hK [.int (iI 4)] [] lk_X7_60 (c_X7_tell _ _ _ _ _ S g a0 4 hs_a0 (by omega)) hs_a0 ⟨by decide, rfl⟩ kd29_23.2.2.2.2.1 rfl rfl (by simp [Value.category]) (by decide) (by decide) (by decide) (by decide) (fun r36 S38 g37 pr36 qr36 hg37 => ?_)
          obtain ⟨rfl, rfl⟩ := pr36
          refine X_st [] rfl ?_
          refine X_goto hK 148 kd29_23.2.2.2.2.2.1 (by decide) ?_
          exact hret _ _ _ _ _ _ kd29_27.2.2.2 ⟨rfl, rfl⟩ (Nat.le_refl _) (Nat.le_refl _)
        · refine X_iloadn hK (i := 2) 4 kd29_22.2.2.2.2.2.2.2.2.2.2.2 rfl rfl ?_
          refine X_bipush hK kd29_23.1 (by decide) ?_
          refine X_icmp_le hK 72 (by omega) (by omega) kd29_23.2.1 (by decide) (fun c39 => ?_) (fun c39 => False.elim (by omega))
          refine X_aloadn hK (i := 0) 2 kd29_23.2.2.2.2.2.2.1 rfl rfl ?_
          refine X_dup hK kd29_23.2.2.2.2.2.2.2.1 rfl ?_
          refine X_getK hK fl_X7_22_8 hs_a0 ez34 kd29_23.2.2.2.2.2.2.2.2.1 ?_
          refine X_iconst hK kd29_23.2.2.2.2.2.2.2.2.2.1 ?_
          refine X_iadd hK kd29_23.2.2.2.2.2.2.2.2.2.2.1 ?_
          refine X_puti hK fl_X7_22_8 hs_a0 (by decide) sl_8_3 (by omega) (by omega) kd29_23.2.2.2.2.2.2.2.2.2.2.2 (fun g40 hg40 => ?_)
          refine X_aloadn hK (i := 0) 2 kd29_24.1 rfl rfl ?_
          refine X_dup hK kd29_24.2.1 rfl ?_
          refine X_getK hK fl_X7_18_8 hs_a0 ((xs_k hg40 (by decide)).trans ez1) kd29_24.2.2.1 ?_
          refine X_iconst hK kd29_24.2.2.2.1 ?_
          refine X_iadd hK kd29_24.2.2.2.2.1 ?_
          refine X_puti hK fl_X7_18_8 hs_a0 (by decide) sl_8_2 (by omega) (by omega) kd29_24.2.2.2.2.2.1 (fun g41 hg41 => ?_)
          refine X_iload hK (i := 4) 0 kd29_24.2.2.2.2.2.2.1 rfl ?_
          refine X_if_eq hK 109 (by omega) kd29_24.2.2.2.2.2.2.2.1 (by decide) (fun c42 => ?_) (fun c42 => False.elim (by omega))
          refine X_iloadn hK (i := 3) 1 kd29_25.2.2.2.1 rfl rfl ?_
          refine X_bipush hK kd29_25.2.2.2.2.1 (by decide) ?_
          refine X_icmp_ne hK 132 (by omega) (by omega) kd29_25.2.2.2.2.2.1 (by decide) (fun c43 => False.elim (by omega)) (fun c43 => ?_)
          refine X_aloadn hK (i := 0) 2 kd29_25.2.2.2.2.2.2.1 rfl rfl ?_
          refine X_aloadn hK (i := 1) 3 kd29_25.2.2.2.2.2.2.2.1 rfl rfl ?_
          refine X_iloadn hK (i := 2) 4 kd29_25.2.2.2.2.2.2.2.2.1 rfl rfl ?_
          refine X_iconst hK kd29_25.2.2.2.2.2.2.2.2.2.1 ?_
          refine X_iadd hK kd29_25.2.2.2.2.2.2.2.2.2.2.1 ?_
          refine X_callV hK [.ref a1, .int (iI (x2 + 1))] [] lk_X7_115 (c_X7_readCond_5 _ _ _ _ _ S g41 a0 a1 (x2 + 1) hs_a0 hs_a1 (by omega)) hs_a0 ⟨by decide, rfl⟩ kd29_25.2.2.2.2.2.2.2.2.2.2.2 rfl rfl (by simp [Value.category]) (by decide) (by decide) (by decide) (by decide) (fun r44 S46 g45 pr44 qr44 hg45 => ?_)
          obtain ⟨rfl, rfl⟩ := pr44
          refine X_st [] rfl ?_
          refine X_aloadn hK (i := 0) 2 kd29_26.1 rfl rfl ?_
          refine X_bipush hK kd29_26.2.1 (by decide) ?_
          refine X_callV hK [.int (iI 26)] [] lk_X7_119 (c_X7_expect _ _ _ _ _ S g45 a0 26 hs_a0 (by omega)) hs_a0 ⟨by decide, rfl⟩ kd29_26.2.2.1 rfl rfl (by simp [Value.category]) (by decide) (by decide) (by decide) (by decide) (fun r47 S49 g48 pr47 qr47 hg48 => ?_)
          obtain ⟨rfl, rfl⟩ := pr47
          refine X_st [] rfl ?_
          refine X_goto hK 148 kd29_26.2.2.2.1 (by decide) ?_
          exact hret _ _ _ _ _ _ kd29_27.2.2.2 ⟨rfl, rfl⟩ (Nat.le_refl _) (Nat.le_refl _)
      · refine X_aloadn hK (i := 0) 2 kd29_22.2.2.2.1 rfl rfl ?_
        refine X_iconst hK kd29_22.2.2.2.2.1 ?_
        refine X_callV hK [.int (iI 1)] [] lk_X7_60 (c_X7_tell _ _ _ _ _ S g a0 1 hs_a0 (by omega)) hs_a0 ⟨by decide, rfl⟩ kd29_22.2.2.2.2.2.1 rfl rfl (by simp [Value.category]) (by decide) (by decide) (by decide) (by decide) (fun r50 S52 g51 pr50 qr50 hg51 => ?_)
        obtain ⟨rfl, rfl⟩ := pr50
        refine X_st [] rfl ?_
        refine X_goto hK 148 kd29_22.2.2.2.2.2.2.1 (by decide) ?_
        exact hret _ _ _ _ _ _ kd29_27.2.2.2 ⟨rfl, rfl⟩ (Nat.le_refl _) (Nat.le_refl _)
    · refine X_iconst hK kd29_21.2.2.2.1 ?_
      refine X_goto hK 22 kd29_21.2.2.2.2.1 (by decide) ?_
      refine X_istore hK (i := 4) [(4, .int (iI 1)), (3, .int (iI z5)), (0, .ref a0), (1, .ref a1), (2, .int (iI x2))] kd29_21.2.2.2.2.2.2.1 (by decide) rfl ?_
      refine X_iload hK (i := 4) 0 kd29_21.2.2.2.2.2.2.2.1 rfl ?_
      refine X_if_ne hK 49 (by omega) kd29_21.2.2.2.2.2.2.2.2.1 (by decide) (fun c53 => ?_) (fun c53 => False.elim (by omega))
      refine X_aloadn hK (i := 0) 2 kd29_22.2.2.2.2.2.2.2.1 rfl rfl ?_
      refine X_geti hK fl_X7_22_8 hs_a0 sl_8_3 kd29_22.2.2.2.2.2.2.2.2.1 (fun z54 ez54 lz54 uz54 => ?_)
      refine X_bipush hK kd29_22.2.2.2.2.2.2.2.2.2.1 (by decide) ?_
      refine X_icmp_ge hK 64 (by omega) (by omega) kd29_22.2.2.2.2.2.2.2.2.2.2.1 (by decide) (fun c55 => ?_) (fun c55 => ?_)
      · refine X_aloadn hK (i := 0) 2 kd29_23.2.2.1 rfl rfl ?_
        refine X_iconst hK kd29_23.2.2.2.1 ?_
        refine X_callV hK [.int (iI 4)] [] lk_X7_60 (c_X7_tell _ _ _ _ _ S g a0 4 hs_a0 (by omega)) hs_a0 ⟨by decide, rfl⟩ kd29_23.2.2.2.2.1 rfl rfl (by simp [Value.category]) (by decide) (by decide) (by decide) (by decide) (fun r56 S58 g57 pr56 qr56 hg57 => ?_)
        obtain ⟨rfl, rfl⟩ := pr56
        refine X_st [] rfl ?_
        refine X_goto hK 148 kd29_23.2.2.2.2.2.1 (by decide) ?_
        exact hret _ _ _ _ _ _ kd29_27.2.2.2 ⟨rfl, rfl⟩ (Nat.le_refl _) (Nat.le_refl _)
      · refine X_iloadn hK (i := 2) 4 kd29_22.2.2.2.2.2.2.2.2.2.2.2 rfl rfl ?_
        refine X_bipush hK kd29_23.1 (by decide) ?_
        refine X_icmp_le hK 72 (by omega) (by omega) kd29_23.2.1 (by decide) (fun c59 => ?_) (fun c59 => False.elim (by omega))
        refine X_aloadn hK (i := 0) 2 kd29_23.2.2.2.2.2.2.1 rfl rfl ?_
        refine X_dup hK kd29_23.2.2.2.2.2.2.2.1 rfl ?_
        refine X_getK hK fl_X7_22_8 hs_a0 ez54 kd29_23.2.2.2.2.2.2.2.2.1 ?_
        refine X_iconst hK kd29_23.2.2.2.2.2.2.2.2.2.1 ?_
        refine X_iadd hK kd29_23.2.2.2.2.2.2.2.2.2.2.1 ?_
        refine X_puti hK fl_X7_22_8 hs_a0 (by decide) sl_8_3 (by omega) (by omega) kd29_23.2.2.2.2.2.2.2.2.2.2.2 (fun g60 hg60 => ?_)
        refine X_aloadn hK (i := 0) 2 kd29_24.1 rfl rfl ?_
        refine X_dup hK kd29_24.2.1 rfl ?_
        refine X_getK hK fl_X7_18_8 hs_a0 ((xs_k hg60 (by decide)).trans ez1) kd29_24.2.2.1 ?_
        refine X_iconst hK kd29_24.2.2.2.1 ?_
        refine X_iadd hK kd29_24.2.2.2.2.1 ?_
        refine X_puti hK fl_X7_18_8 hs_a0 (by decide) sl_8_2 (by omega) (by omega) kd29_24.2.2.2.2.2.1 (fun g61 hg61 => ?_)
        refine X_iload hK (i := 4) 0 kd29_24.2.2.2.2.2.2.1 rfl ?_
        refine X_if_eq hK 109 (by omega) kd29_24.2.2.2.2.2.2.2.1 (by decide) (fun c62 => False.elim (by omega)) (fun c62 => ?_)
        refine X_aloadn hK (i := 0) 2 kd29_24.2.2.2.2.2.2.2.2.1 rfl rfl ?_
        refine X_aloadn hK (i := 1) 3 kd29_24.2.2.2.2.2.2.2.2.2.1 rfl rfl ?_
        refine X_iloadn hK (i := 3) 1 kd29_24.2.2.2.2.2.2.2.2.2.2.1 rfl rfl ?_
        refine X_bipush hK kd29_24.2.2.2.2.2.2.2.2.2.2.2 (by decide) ?_
        refine X_isub hK kd29_25.1 ?_
        refine X_callV hK [.ref a1, .int (iI (z5 - 10))] [] lk_X7_135 (c_X7_readFact _ _ _ _ _ S g61 a0 a1 (z5 - 10) hs_a0 hs_a1 (by omega)) hs_a0 ⟨by decide, rfl⟩ kd29_25.2.1 rfl rfl (by simp [Value.category]) (by decide) (by decide) (by decide) (by decide) (fun r63 S65 g64 pr63 qr63 hg64 => ?_)
        obtain ⟨rfl, rfl⟩ := pr63
        refine X_st [] rfl ?_
        refine X_goto hK 148 kd29_25.2.2.1 (by decide) ?_
        exact hret _ _ _ _ _ _ kd29_27.2.2.2 ⟨rfl, rfl⟩ (Nat.le_refl _) (Nat.le_refl _)

set_option maxHeartbeats 4000000 in
set_option maxRecDepth 100000 in
theorem c_X7_readAll_4 (l : Launch) (D : va_G) (kA : Nat → ClassId) (b0 : Nat) (t0 : Nat → Nat) (S : xT) (g : xG) (a0 : Nat) (a1 : Nat) (x2 : Int) (hs_a0 : S a0 = some (8, 0)) (hs_a1 : S a1 = some (11, 0)) (hx2 : 4 ≤ x2 ∧ x2 ≤ 4) : xMt l yX7_readAll cX7_readAll 4 none 23 0 0 535 D kA b0 t0 [(8, 5), (8, 6), (8, 3), (8, 2), (14000, 0), (11, 2)] [.ref a0, .ref a1, .int (iI x2)] S g (fun (r : Option Value) (S1 : xT) (g1 : xG) => S = S1 ∧ r = none) := by
  refine xEnterV (by decide) (by simp [lg_sl, Value.category]) [(0, .ref a0), (1, .ref a1), (2, .int (iI x2))] rfl ?_
  intro K E hK hret _ _ _
  refine X_aloadn hK (i := 0) 0 kd29_0.1 rfl rfl ?_
  refine X_aloadn hK (i := 1) 1 kd29_0.2.1 rfl rfl ?_
  refine X_iloadn hK (i := 2) 2 kd29_0.2.2.1 rfl rfl ?_
  refine X_callV hK [.ref a1, .int (iI x2)] [] lk_X7_132 (c_X7_readOne_4 _ _ _ _ _ S g a0 a1 x2 hs_a0 hs_a1 (by omega)) hs_a0 ⟨by decide, rfl⟩ kd29_0.2.2.2.1 rfl rfl (by simp [Value.category]) (by decide) (by decide) (by decide) (by decide) (fun r1 S3 g2 pr1 qr1 hg2 => ?_)
  obtain ⟨rfl, rfl⟩ := pr1
  refine X_st [] rfl ?_
  refine X_iconst hK kd29_0.2.2.2.2.1 ?_
  refine X_istoren hK (i := 3) [(3, .int (iI 0)), (0, .ref a0), (1, .ref a1), (2, .int (iI x2))] kd29_0.2.2.2.2.2.1 rfl (by decide) rfl ?_
  have P117 : ∀ (nP117 : Nat) (g99 : xG) (_ : xM [(14000, 0), (11, 2), (8, 5), (8, 6), (8, 3), (8, 2)] S g2 g99) (z98 : Int) (_ : 0 ≤ z98) (_ : z98 ≤ 50) (_ : 66 - z98 < (nP117 : Int)), X K E 8 [(3, .int (iI z98)), (0, .ref a0), (1, .ref a1), (2, .int (iI x2))] [] S g99 0 0 := by
    intro nP117
    induction nP117 with
    | zero => intro g99 hg99 z98 lz98 uz98 mP117; exact False.elim (by omega)
    | succ nP117 ihP117 =>
      intro g99 hg99 z98 lz98 uz98 mP117
      refine X_iloadn hK (i := 3) 0 kd29_0.2.2.2.2.2.2.1 rfl rfl ?_
      refine X_bipush hK kd29_0.2.2.2.2.2.2.2.1 (by decide) ?_
      refine X_icmp_ge hK 60 (by omega) (by omega) kd29_0.2.2.2.2.2.2.2.2.1 (by decide) (fun c118 => ?_) (fun c118 => ?_)
      · exact hret _ _ _ _ _ _ kd29_2.2.2.2.2.2.2.2.2.2.1 ⟨rfl, rfl⟩ (Nat.le_refl _) (Nat.le_refl _)
      · refine X_aloadn hK (i := 0) 1 kd29_0.2.2.2.2.2.2.2.2.2.1 rfl rfl ?_
        refine X_geti hK fl_X7_29_8 hs_a0 sl_8_5 kd29_0.2.2.2.2.2.2.2.2.2.2.1 (fun z119 ez119 lz119 uz119 => ?_)
        refine X_if_ne hK 60 (by omega) kd29_0.2.2.2.2.2.2.2.2.2.2.2 (by decide) (fun c120 => ?_) (fun c120 => ?_)
        · exact hret _ _ _ _ _ _ kd29_2.2.2.2.2.2.2.2.2.2.1 ⟨rfl, rfl⟩ (Nat.le_refl _) (Nat.le_refl _)
        · refine X_aloadn hK (i := 0) 1 kd29_1.1 rfl rfl ?_
          refine X_know hs_a0 (by decide) sl_8_2 (fun z121 ez121 lz121 uz121 => ?_)
          refine X_callV hK [] [] lk_X7_47 (c_X7_now _ _ _ _ _ S g99 a0 z121 hs_a0 (by omega) ez121) hs_a0 ⟨by decide, rfl⟩ kd29_1.2.1 rfl rfl (by simp [Value.category]) (by decide) (by decide) (by decide) (by decide) (fun r122 S124 g123 pr122 qr122 hg123 => ?_)
          obtain ⟨rfl, rfl, z125, rfl, lz125, uz125, k126⟩ := pr122
          refine X_st [.int (iI z125)] rfl ?_
          refine X_bipush hK kd29_1.2.2.1 (by decide) ?_
          refine X_icmp_ne hK 60 (by omega) (by omega) kd29_1.2.2.2.1 (by decide) (fun c127 => ?_) (fun c127 => ?_)
          · exact hret _ _ _ _ _ _ kd29_2.2.2.2.2.2.2.2.2.2.1 ⟨rfl, rfl⟩ (Nat.le_refl _) (Nat.le_refl _)
          · refine X_aloadn hK (i := 0) 1 kd29_1.2.2.2.2.1 rfl rfl ?_
            refine X_dup hK kd29_1.2.2.2.2.2.1 rfl ?_
            refine X_getK hK fl_X7_18_8 hs_a0 ez121 kd29_1.2.2.2.2.2.2.1 ?_
            refine X_iconst hK kd29_1.2.2.2.2.2.2.2.1 ?_
            refine X_iadd hK kd29_1.2.2.2.2.2.2.2.2.1 ?_
            refine X_puti hK fl_X7_18_8 hs_a0 (by decide) sl_8_2 (by omega) (by omega) kd29_1.2.2.2.2.2.2.2.2.2.1 (fun g128 hg128 => ?_)
            refine X_aloadn hK (i := 0) 1 kd29_1.2.2.2.2.2.2.2.2.2.2.1 rfl rfl ?_
            refine X_aloadn hK (i := 1) 2 kd29_1.2.2.2.2.2.2.2.2.2.2.2 rfl rfl ?_
            refine X_iloadn hK (i := 2) 3 kd29_2.1 rfl rfl ?_
            refine X_callV hK [.ref a1, .int (iI x2)] [] lk_X7_132 (c_X7_readOne_4 _ _ _ _ _ S g128 a0 a1 x2 hs_a0 hs_a1 (by omega)) hs_a0 ⟨by decide, rfl⟩ kd29_2.2.1 rfl rfl (by simp [Value.category]) (by decide) (by decide) (by decide) (by decide) (fun r129 S131 g130 pr129 qr129 hg130 => ?_)
            obtain ⟨rfl, rfl⟩ := pr129
            refine X_st [] rfl ?_
            refine X_aloadn hK (i := 1) 2 kd29_2.2.2.1 rfl rfl ?_
            refine X_bipush hK kd29_2.2.2.2.1 (by decide) ?_
            refine X_iconst hK kd29_2.2.2.2.2.1 ?_
            refine X_iconst hK kd29_2.2.2.2.2.2.1 ?_
            refine X_callV hK [.int (iI 13), .int (iI 0), .int (iI 0)] [] lk_X7_129 (c_X10_addStep _ _ _ _ _ S g130 a1 13 0 0 hs_a1 (by omega) (by omega) (by omega)) hs_a1 ⟨by decide, rfl⟩ kd29_2.2.2.2.2.2.2.1 rfl rfl (by simp [Value.category]) (by decide) (by decide) (by decide) (by decide) (fun r132 S134 g133 pr132 qr132 hg133 => ?_)
            obtain ⟨rfl, rfl⟩ := pr132
            refine X_st [] rfl ?_
            refine X_iinc hK (i := 3) (z := z98) (n := 1) 0 [(3, .int (iI (z98 + 1))), (0, .ref a0), (1, .ref a1), (2, .int (iI x2))] kd29_2.2.2.2.2.2.2.2.1 rfl (by decide) rfl ?_
            refine X_goto hK 8 kd29_2.2.2.2.2.2.2.2.2.1 (by decide) ?_
            exact ihP117  g133 (xM.tr (xM.tr (xM_up (xM.tr xM.rf xLe.rf hg99 (by decide)) hg128 hs_a0 (by decide) (by decide)) xLe.rf hg130 (by decide)) xLe.rf hg133 (by decide)) (z98 + 1) (by omega) (by omega) (by omega)
  exact P117 ((66 - 0 : Int).toNat + 1) g2 xM.rf 0 (by omega) (by omega) (by omega)

set_option maxHeartbeats 4000000 in
set_option maxRecDepth 100000 in
theorem c_X7_readCond_4 (l : Launch) (D : va_G) (kA : Nat → ClassId) (b0 : Nat) (t0 : Nat → Nat) (S : xT) (g : xG) (a0 : Nat) (a1 : Nat) (x2 : Int) (hs_a0 : S a0 = some (8, 0)) (hs_a1 : S a1 = some (11, 0)) (hx2 : 4 ≤ x2 ∧ x2 ≤ 4) : xMt l yX7_readCond cX7_readCond 4 none 24 0 0 558 D kA b0 t0 [(8, 5), (8, 6), (8, 3), (8, 2), (14000, 0), (11, 2)] [.ref a0, .ref a1, .int (iI x2)] S g (fun (r : Option Value) (S1 : xT) (g1 : xG) => S = S1 ∧ r = none) := by
  refine xEnterV (by decide) (by simp [lg_sl, Value.category]) [(0, .ref a0), (1, .ref a1), (2, .int (iI x2))] rfl ?_
  intro K E hK hret _ _ _
  refine X_aloadn hK (i := 0) 0 kd29_2.2.2.2.2.2.2.2.2.2.2.1 rfl rfl ?_
  refine X_aloadn hK (i := 1) 1 kd29_2.2.2.2.2.2.2.2.2.2.2.2 rfl rfl ?_
  refine X_iloadn hK (i := 2) 2 kd29_3.1 rfl rfl ?_
  refine X_callV hK [.ref a1, .int (iI x2)] [] lk_X7_126 (c_X7_readAll_4 _ _ _ _ _ S g a0 a1 x2 hs_a0 hs_a1 (by omega)) hs_a0 ⟨by decide, rfl⟩ kd29_3.2.1 rfl rfl (by simp [Value.category]) (by decide) (by decide) (by decide) (by decide) (fun r1 S3 g2 pr1 qr1 hg2 => ?_)
  obtain ⟨rfl, rfl⟩ := pr1
  refine X_st [] rfl ?_
  refine X_iconst hK kd29_3.2.2.1 ?_
  refine X_istoren hK (i := 3) [(3, .int (iI 0)), (0, .ref a0), (1, .ref a1), (2, .int (iI x2))] kd29_3.2.2.2.1 rfl (by decide) rfl ?_
  have P117 : ∀ (nP117 : Nat) (g99 : xG) (_ : xM [(14000, 0), (11, 2), (8, 5), (8, 6), (8, 3), (8, 2)] S g2 g99) (z98 : Int) (_ : 0 ≤ z98) (_ : z98 ≤ 50) (_ : 66 - z98 < (nP117 : Int)), X K E 8 [(3, .int (iI z98)), (0, .ref a0), (1, .ref a1), (2, .int (iI x2))] [] S g99 0 0 := by
    intro nP117
    induction nP117 with
    | zero => intro g99 hg99 z98 lz98 uz98 mP117; exact False.elim (by omega)
    | succ nP117 ihP117 =>
      intro g99 hg99 z98 lz98 uz98 mP117
      refine X_iloadn hK (i := 3) 0 kd29_3.2.2.2.2.1 rfl rfl ?_
      refine X_bipush hK kd29_3.2.2.2.2.2.1 (by decide) ?_
      refine X_icmp_ge hK 60 (by omega) (by omega) kd29_3.2.2.2.2.2.2.1 (by decide) (fun c118 => ?_) (fun c118 => ?_)
      · exact hret _ _ _ _ _ _ kd29_5.2.2.2.2.2.2.2.1 ⟨rfl, rfl⟩ (Nat.le_refl _) (Nat.le_refl _)
      · refine X_aloadn hK (i := 0) 1 kd29_3.2.2.2.2.2.2.2.1 rfl rfl ?_
        refine X_geti hK fl_X7_29_8 hs_a0 sl_8_5 kd29_3.2.2.2.2.2.2.2.2.1 (fun z119 ez119 lz119 uz119 => ?_)
        refine X_if_ne hK 60 (by omega) kd29_3.2.2.2.2.2.2.2.2.2.1 (by decide) (fun c120 => ?_) (fun c120 => ?_)
        · exact hret _ _ _ _ _ _ kd29_5.2.2.2.2.2.2.2.1 ⟨rfl, rfl⟩ (Nat.le_refl _) (Nat.le_refl _)
        · refine X_aloadn hK (i := 0) 1 kd29_3.2.2.2.2.2.2.2.2.2.2.1 rfl rfl ?_
          refine X_know hs_a0 (by decide) sl_8_2 (fun z121 ez121 lz121 uz121 => ?_)
          refine X_callV hK [] [] lk_X7_47 (c_X7_now _ _ _ _ _ S g99 a0 z121 hs_a0 (by omega) ez121) hs_a0 ⟨by decide, rfl⟩ kd29_3.2.2.2.2.2.2.2.2.2.2.2 rfl rfl (by simp [Value.category]) (by decide) (by decide) (by decide) (by decide) (fun r122 S124 g123 pr122 qr122 hg123 => ?_)
          obtain ⟨rfl, rfl, z125, rfl, lz125, uz125, k126⟩ := pr122
          refine X_st [.int (iI z125)] rfl ?_
          refine X_bipush hK kd29_4.1 (by decide) ?_
          refine X_icmp_ne hK 60 (by omega) (by omega) kd29_4.2.1 (by decide) (fun c127 => ?_) (fun c127 => ?_)
          · exact hret _ _ _ _ _ _ kd29_5.2.2.2.2.2.2.2.1 ⟨rfl, rfl⟩ (Nat.le_refl _) (Nat.le_refl _)
          · refine X_aloadn hK (i := 0) 1 kd29_4.2.2.1 rfl rfl ?_
            refine X_dup hK kd29_4.2.2.2.1 rfl ?_
            refine X_getK hK fl_X7_18_8 hs_a0 ez121 kd29_4.2.2.2.2.1 ?_
            refine X_iconst hK kd29_4.2.2.2.2.2.1 ?_
            refine X_iadd hK kd29_4.2.2.2.2.2.2.1 ?_
            refine X_puti hK fl_X7_18_8 hs_a0 (by decide) sl_8_2 (by omega) (by omega) kd29_4.2.2.2.2.2.2.2.1 (fun g128 hg128 => ?_)
            refine X_aloadn hK (i := 0) 1 kd29_4.2.2.2.2.2.2.2.2.1 rfl rfl ?_
            refine X_aloadn hK (i := 1) 2 kd29_4.2.2.2.2.2.2.2.2.2.1 rfl rfl ?_
            refine X_iloadn hK (i := 2) 3 kd29_4.2.2.2.2.2.2.2.2.2.2.1 rfl rfl ?_
            refine X_callV hK [.ref a1, .int (iI x2)] [] lk_X7_126 (c_X7_readAll_4 _ _ _ _ _ S g128 a0 a1 x2 hs_a0 hs_a1 (by omega)) hs_a0 ⟨by decide, rfl⟩ kd29_4.2.2.2.2.2.2.2.2.2.2.2 rfl rfl (by simp [Value.category]) (by decide) (by decide) (by decide) (by decide) (fun r129 S131 g130 pr129 qr129 hg130 => ?_)
            obtain ⟨rfl, rfl⟩ := pr129
            refine X_st [] rfl ?_
            refine X_aloadn hK (i := 1) 2 kd29_5.1 rfl rfl ?_
            refine X_bipush hK kd29_5.2.1 (by decide) ?_
            refine X_iconst hK kd29_5.2.2.1 ?_
            refine X_iconst hK kd29_5.2.2.2.1 ?_
            refine X_callV hK [.int (iI 14), .int (iI 0), .int (iI 0)] [] lk_X7_129 (c_X10_addStep _ _ _ _ _ S g130 a1 14 0 0 hs_a1 (by omega) (by omega) (by omega)) hs_a1 ⟨by decide, rfl⟩ kd29_5.2.2.2.2.1 rfl rfl (by simp [Value.category]) (by decide) (by decide) (by decide) (by decide) (fun r132 S134 g133 pr132 qr132 hg133 => ?_)
            obtain ⟨rfl, rfl⟩ := pr132
            refine X_st [] rfl ?_
            refine X_iinc hK (i := 3) (z := z98) (n := 1) 0 [(3, .int (iI (z98 + 1))), (0, .ref a0), (1, .ref a1), (2, .int (iI x2))] kd29_5.2.2.2.2.2.1 rfl (by decide) rfl ?_
            refine X_goto hK 8 kd29_5.2.2.2.2.2.2.1 (by decide) ?_
            exact ihP117  g133 (xM.tr (xM.tr (xM_up (xM.tr xM.rf xLe.rf hg99 (by decide)) hg128 hs_a0 (by decide) (by decide)) xLe.rf hg130 (by decide)) xLe.rf hg133 (by decide)) (z98 + 1) (by omega) (by omega) (by omega)
  exact P117 ((66 - 0 : Int).toNat + 1) g2 xM.rf 0 (by omega) (by omega) (by omega)

set_option maxHeartbeats 4000000 in
set_option maxRecDepth 100000 in
theorem c_X7_readOne_3 (l : Launch) (D : va_G) (kA : Nat → ClassId) (b0 : Nat) (t0 : Nat → Nat) (S : xT) (g : xG) (a0 : Nat) (a1 : Nat) (x2 : Int) (hs_a0 : S a0 = some (8, 0)) (hs_a1 : S a1 = some (11, 0)) (hx2 : 3 ≤ x2 ∧ x2 ≤ 3) : xMt l yX7_readOne cX7_readOne 5 none 25 0 0 581 D kA b0 t0 [(8, 5), (8, 6), (8, 3), (8, 2), (14000, 0), (11, 2)] [.ref a0, .ref a1, .int (iI x2)] S g (fun (r : Option Value) (S1 : xT) (g1 : xG) => S = S1 ∧ r = none) := by
  refine xEnterV (by decide) (by simp [lg_sl, Value.category]) [(0, .ref a0), (1, .ref a1), (2, .int (iI x2))] rfl ?_
  intro K E hK hret _ _ _
  refine X_aloadn hK (i := 0) 0 kd29_20.2.2.2.2.2.2.1 rfl rfl ?_
  refine X_know hs_a0 (by decide) sl_8_2 (fun z1 ez1 lz1 uz1 => ?_)
  refine X_callV hK [] [] lk_X7_47 (c_X7_now _ _ _ _ _ S g a0 z1 hs_a0 (by omega) ez1) hs_a0 ⟨by decide, rfl⟩ kd29_20.2.2.2.2.2.2.2.1 rfl rfl (by simp [Value.category]) (by decide) (by decide) (by decide) (by decide) (fun r2 S4 g3 pr2 qr2 hg3 => ?_)
  obtain ⟨rfl, rfl, z5, rfl, lz5, uz5, k6⟩ := pr2
  refine X_st [.int (iI z5)] rfl ?_
  refine X_istoren hK (i := 3) [(3, .int (iI z5)), (0, .ref a0), (1, .ref a1), (2, .int (iI x2))] kd29_20.2.2.2.2.2.2.2.2.1 rfl (by decide) rfl ?_
  refine X_iloadn hK (i := 3) 0 kd29_20.2.2.2.2.2.2.2.2.2.1 rfl rfl ?_
  refine X_bipush hK kd29_20.2.2.2.2.2.2.2.2.2.2.1 (by decide) ?_
  refine X_icmp_lt hK 21 (by omega) (by omega) kd29_20.2.2.2.2.2.2.2.2.2.2.2 (by decide) (fun c7 => ?_) (fun c7 => ?_)
  · refine X_iconst hK kd29_21.2.2.2.2.2.1 ?_
    refine X_istore hK (i := 4) [(4, .int (iI 0)), (3, .int (iI z5)), (0, .ref a0), (1, .ref a1), (2, .int (iI x2))] kd29_21.2.2.2.2.2.2.1 (by decide) rfl ?_
    refine X_iload hK (i := 4) 0 kd29_21.2.2.2.2.2.2.2.1 rfl ?_
    refine X_if_ne hK 49 (by omega) kd29_21.2.2.2.2.2.2.2.2.1 (by decide) (fun c8 => False.elim (by omega)) (fun c8 => ?_)
    refine X_iloadn hK (i := 3) 1 kd29_21.2.2.2.2.2.2.2.2.2.1 rfl rfl ?_
    refine X_bipush hK kd29_21.2.2.2.2.2.2.2.2.2.2.1 (by decide) ?_
    refine X_icmp_eq hK 49 (by omega) (by omega) kd29_21.2.2.2.2.2.2.2.2.2.2.2 (by decide) (fun c9 => ?_) (fun c9 => ?_)
    · refine X_aloadn hK (i := 0) 2 kd29_22.2.2.2.2.2.2.2.1 rfl rfl ?_
      refine X_geti hK fl_X7_22_8 hs_a0 sl_8_3 kd29_22.2.2.2.2.2.2.2.2.1 (fun z10 ez10 lz10 uz10 => ?_)
      refine X_bipush hK kd29_22.2.2.2.2.2.2.2.2.2.1 (by decide) ?_
      refine X_icmp_ge hK 64 (by omega) (by omega) kd29_22.2.2.2.2.2.2.2.2.2.2.1 (by decide) (fun c11 => ?_) (fun c11 => ?_)
      · refine X_aloadn hK (i := 0) 2 kd29_23.2.2.1 rfl rfl ?_
        refine X_iconst hK kd29_23.2.2.2.1 ?_
        refine X_callV hK [.int (iI 4)] [] lk_X7_60 (c_X7_tell _ _ _ _ _ S g a0 4 hs_a0 (by omega)) hs_a0 ⟨by decide, rfl⟩ kd29_23.2.2.2.2.1 rfl rfl (by simp [Value.category]) (by decide) (by decide) (by decide) (by decide) (fun r12 S14 g13 pr12 qr12 hg13 => ?_)
        obtain ⟨rfl, rfl⟩ := pr12
        refine X_st [] rfl ?_
        refine X_goto hK 148 kd29_23.2.2.2.2.2.1 (by decide) ?_
        exact hret _ _ _ _ _ _ kd29_27.2.2.2 ⟨rfl, rfl⟩ (Nat.le_refl _) (Nat.le_refl _)
      · refine X_iloadn hK (i := 2) 4 kd29_22.2.2.2.2.2.2.2.2.2.2.2 rfl rfl ?_
        refine X_bipush hK kd29_23.1 (by decide) ?_
        refine X_icmp_le hK 72 (by omega) (by omega) kd29_23.2.1 (by decide) (fun c15 => ?_) (fun c15 => False.elim (by omega))
        refine X_aloadn hK (i := 0) 2 kd29_23.2.2.2.2.2.2.1 rfl rfl ?_
        refine X_dup hK kd29_23.2.2.2.2.2.2.2.1 rfl ?_
        refine X_getK hK fl_X7_22_8 hs_a0 ez10 kd29_23.2.2.2.2.2.2.2.2.1 ?_
        refine X_iconst hK kd29_23.2.2.2.2.2.2.2.2.2.1 ?_
        refine X_iadd hK kd29_23.2.2.2.2.2.2.2.2.2.2.1 ?_
        refine X_puti hK fl_X7_22_8 hs_a0 (by decide) sl_8_3 (by omega) (by omega) kd29_23.2.2.2.2.2.2.2.2.2.2.2 (fun g16 hg16 => ?_)
        refine X_aloadn hK (i := 0) 2 kd29_24.1 rfl rfl ?_
        refine X_dup hK kd29_24.2.1 rfl ?_
        refine X_getK hK fl_X7_18_8 hs_a0 ((xs_k hg16 (by decide)).trans ez1) kd29_24.2.2.1 ?_
        refine X_iconst hK kd29_24.2.2.2.1 ?_
        refine X_iadd hK kd29_24.2.2.2.2.1 ?_
        refine X_puti hK fl_X7_18_8 hs_a0 (by decide) sl_8_2 (by omega) (by omega) kd29_24.2.2.2.2.2.1 (fun g17 hg17 => ?_)
        refine X_iload hK (i := 4) 0 kd29_24.2.2.2.2.2.2.1 rfl ?_
        refine X_if_eq hK 109 (by omega) kd29_24.2.2.2.2.2.2.2.1 (by decide) (fun c18 => ?_) (fun c18 => False.elim (by omega))
        refine X_iloadn hK (i := 3) 1 kd29_25.2.2.2.1 rfl rfl ?_
        refine X_bipush hK kd29_25.2.2.2.2.1 (by decide) ?_
        refine X_icmp_ne hK 132 (by omega) (by omega) kd29_25.2.2.2.2.2.1 (by decide) (fun c19 => ?_) (fun c19 => False.elim (by omega))
        refine X_aloadn hK (i := 0) 2 kd29_26.2.2.2.2.1 rfl rfl ?_
        refine X_aloadn hK (i := 1) 3 kd29_26.2.2.2.2.2.1 rfl rfl ?_
        refine X_iloadn hK (i := 2) 4 kd29_26.2.2.2.2.2.2.1 rfl rfl ?_
        refine X_iconst hK kd29_26.2.2.2.2.2.2.2.1 ?_
        refine X_iadd hK kd29_26.2.2.2.2.2.2.2.2.1 ?_
        refine X_callV hK [.ref a1, .int (iI (x2 + 1))] [] lk_X7_132 (c_X7_readOne_4 _ _ _ _ _ S g17 a0 a1 (x2 + 1) hs_a0 hs_a1 (by omega)) hs_a0 ⟨by decide, rfl⟩ kd29_26.2.2.2.2.2.2.2.2.2.1 rfl rfl (by simp [Value.category]) (by decide) (by decide) (by decide) (by decide) (fun r20 S22 g21 pr20 qr20 hg21 => ?_)
        obtain ⟨rfl, rfl⟩ := pr20
        refine X_st [] rfl ?_
        refine X_aloadn hK (i := 1) 3 kd29_26.2.2.2.2.2.2.2.2.2.2.1 rfl rfl ?_
        refine X_bipush hK kd29_26.2.2.2.2.2.2.2.2.2.2.2 (by decide) ?_
        refine X_iconst hK kd29_27.1 ?_
        refine X_iconst hK kd29_27.2.1 ?_
        refine X_callV hK [.int (iI 12), .int (iI 0), .int (iI 0)] [] lk_X7_129 (c_X10_addStep _ _ _ _ _ S g21 a1 12 0 0 hs_a1 (by omega) (by omega) (by omega)) hs_a1 ⟨by decide, rfl⟩ kd29_27.2.2.1 rfl rfl (by simp [Value.category]) (by decide) (by decide) (by decide) (by decide) (fun r23 S25 g24 pr23 qr23 hg24 => ?_)
        obtain ⟨rfl, rfl⟩ := pr23
        refine X_st [] rfl ?_
        exact hret _ _ _ _ _ _ kd29_27.2.2.2 ⟨rfl, rfl⟩ (Nat.le_refl _) (Nat.le_refl _)
    · refine X_iloadn hK (i := 3) 1 kd29_22.1 rfl rfl ?_
      refine X_bipush hK kd29_22.2.1 (by decide) ?_
      refine X_icmp_eq hK 49 (by omega) (by omega) kd29_22.2.2.1 (by decide) (fun c26 => False.elim (by omega)) (fun c26 => ?_)
      refine X_aloadn hK (i := 0) 2 kd29_22.2.2.2.1 rfl rfl ?_
      refine X_iconst hK kd29_22.2.2.2.2.1 ?_
      refine X_callV hK [.int (iI 1)] [] lk_X7_60 (c_X7_tell _ _ _ _ _ S g a0 1 hs_a0 (by omega)) hs_a0 ⟨by decide, rfl⟩ kd29_22.2.2.2.2.2.1 rfl rfl (by simp [Value.category]) (by decide) (by decide) (by decide) (by decide) (fun r27 S29 g28 pr27 qr27 hg28 => ?_)
      obtain ⟨rfl, rfl⟩ := pr27
      refine X_st [] rfl ?_
      refine X_goto hK 148 kd29_22.2.2.2.2.2.2.1 (by decide) ?_
      exact hret _ _ _ _ _ _ kd29_27.2.2.2 ⟨rfl, rfl⟩ (Nat.le_refl _) (Nat.le_refl _)
  · refine X_iloadn hK (i := 3) 0 kd29_21.1 rfl rfl ?_
    refine X_bipush hK kd29_21.2.1 (by decide) ?_
    refine X_icmp_ge hK 21 (by omega) (by omega) kd29_21.2.2.1 (by decide) (fun c30 => ?_) (fun c30 => ?_)
    · refine X_iconst hK kd29_21.2.2.2.2.2.1 ?_
      refine X_istore hK (i := 4) [(4, .int (iI 0)), (3, .int (iI z5)), (0, .ref a0), (1, .ref a1), (2, .int (iI x2))] kd29_21.2.2.2.2.2.2.1 (by decide) rfl ?_
      refine X_iload hK (i := 4) 0 kd29_21.2.2.2.2.2.2.2.1 rfl ?_
      refine X_if_ne hK 49 (by omega) kd29_21.2.2.2.2.2.2.2.2.1 (by decide) (fun c31 => False.elim (by omega)) (fun c31 => ?_)
      refine X_iloadn hK (i := 3) 1 kd29_21.2.2.2.2.2.2.2.2.2.1 rfl rfl ?_
      refine X_bipush hK kd29_21.2.2.2.2.2.2.2.2.2.2.1 (by decide) ?_
      refine X_icmp_eq hK 49 (by omega) (by omega) kd29_21.2.2.2.2.2.2.2.2.2.2.2 (by decide) (fun c32 => False.elim (by omega)) (fun c32 => ?_)
      refine X_iloadn hK (i := 3) 1 kd29_22.1 rfl rfl ?_
      refine X_bipush hK kd29_22.2.1 (by decide) ?_
      refine X_icmp_eq hK 49 (by omega) (by omega) kd29_22.2.2.1 (by decide) (fun c33 => ?_) (fun c33 => ?_)
      · refine X_aloadn hK (i := 0) 2 kd29_22.2.2.2.2.2.2.2.1 rfl rfl ?_
        refine X_geti hK fl_X7_22_8 hs_a0 sl_8_3 kd29_22.2.2.2.2.2.2.2.2.1 (fun z34 ez34 lz34 uz34 => ?_)
        refine X_bipush hK kd29_22.2.2.2.2.2.2.2.2.2.1 (by decide) ?_
        refine X_icmp_ge hK 64 (by omega) (by omega) kd29_22.2.2.2.2.2.2.2.2.2.2.1 (by decide) (fun c35 => ?_) (fun c35 => ?_)
        · refine X_aloadn hK (i := 0) 2 kd29_23.2.2.1 rfl rfl ?_
          refine X_iconst hK kd29_23.2.2.2.1 ?_
          refine X_callV hK [.int (iI 4)] [] lk_X7_60 (c_X7_tell _ _ _ _ _ S g a0 4 hs_a0 (by omega)) hs_a0 ⟨by decide, rfl⟩ kd29_23.2.2.2.2.1 rfl rfl (by simp [Value.category]) (by decide) (by decide) (by decide) (by decide) (fun r36 S38 g37 pr36 qr36 hg37 => ?_)
          obtain ⟨rfl, rfl⟩ := pr36
          refine X_st [] rfl ?_
          refine X_goto hK 148 kd29_23.2.2.2.2.2.1 (by decide) ?_
          exact hret _ _ _ _ _ _ kd29_27.2.2.2 ⟨rfl, rfl⟩ (Nat.le_refl _) (Nat.le_refl _)
        · refine X_iloadn hK (i := 2) 4 kd29_22.2.2.2.2.2.2.2.2.2.2.2 rfl rfl ?_
          refine X_bipush hK kd29_23.1 (by decide) ?_
          refine X_icmp_le hK 72 (by omega) (by omega) kd29_23.2.1 (by decide) (fun c39 => ?_) (fun c39 => False.elim (by omega))
          refine X_aloadn hK (i := 0) 2 kd29_23.2.2.2.2.2.2.1 rfl rfl ?_
          refine X_dup hK kd29_23.2.2.2.2.2.2.2.1 rfl ?_
          refine X_getK hK fl_X7_22_8 hs_a0 ez34 kd29_23.2.2.2.2.2.2.2.2.1 ?_
          refine X_iconst hK kd29_23.2.2.2.2.2.2.2.2.2.1 ?_
          refine X_iadd hK kd29_23.2.2.2.2.2.2.2.2.2.2.1 ?_
          refine X_puti hK fl_X7_22_8 hs_a0 (by decide) sl_8_3 (by omega) (by omega) kd29_23.2.2.2.2.2.2.2.2.2.2.2 (fun g40 hg40 => ?_)
          refine X_aloadn hK (i := 0) 2 kd29_24.1 rfl rfl ?_
          refine X_dup hK kd29_24.2.1 rfl ?_
          refine X_getK hK fl_X7_18_8 hs_a0 ((xs_k hg40 (by decide)).trans ez1) kd29_24.2.2.1 ?_
          refine X_iconst hK kd29_24.2.2.2.1 ?_
          refine X_iadd hK kd29_24.2.2.2.2.1 ?_
          refine X_puti hK fl_X7_18_8 hs_a0 (by decide) sl_8_2 (by omega) (by omega) kd29_24.2.2.2.2.2.1 (fun g41 hg41 => ?_)
          refine X_iload hK (i := 4) 0 kd29_24.2.2.2.2.2.2.1 rfl ?_
          refine X_if_eq hK 109 (by omega) kd29_24.2.2.2.2.2.2.2.1 (by decide) (fun c42 => ?_) (fun c42 => False.elim (by omega))
          refine X_iloadn hK (i := 3) 1 kd29_25.2.2.2.1 rfl rfl ?_
          refine X_bipush hK kd29_25.2.2.2.2.1 (by decide) ?_
          refine X_icmp_ne hK 132 (by omega) (by omega) kd29_25.2.2.2.2.2.1 (by decide) (fun c43 => False.elim (by omega)) (fun c43 => ?_)
          refine X_aloadn hK (i := 0) 2 kd29_25.2.2.2.2.2.2.1 rfl rfl ?_
          refine X_aloadn hK (i := 1) 3 kd29_25.2.2.2.2.2.2.2.1 rfl rfl ?_
          refine X_iloadn hK (i := 2) 4 kd29_25.2.2.2.2.2.2.2.2.1 rfl rfl ?_
          refine X_iconst hK kd29_25.2.2.2.2.2.2.2.2.2.1 ?_
          refine X_iadd hK kd29_25.2.2.2.2.2.2.2.2.2.2.1 ?_
          refine X_callV hK [.ref a1, .int (iI (x2 + 1))] [] lk_X7_115 (c_X7_readCond_4 _ _ _ _ _ S g41 a0 a1 (x2 + 1) hs_a0 hs_a1 (by omega)) hs_a0 ⟨by decide, rfl⟩ kd29_25.2.2.2.2.2.2.2.2.2.2.2 rfl rfl (by simp [Value.category]) (by decide) (by decide) (by decide) (by decide) (fun r44 S46 g45 pr44 qr44 hg45 => ?_)
          obtain ⟨rfl, rfl⟩ := pr44
          refine X_st [] rfl ?_
          refine X_aloadn hK (i := 0) 2 kd29_26.1 rfl rfl ?_
          refine X_bipush hK kd29_26.2.1 (by decide) ?_
          refine X_callV hK [.int (iI 26)] [] lk_X7_119 (c_X7_expect _ _ _ _ _ S g45 a0 26 hs_a0 (by omega)) hs_a0 ⟨by decide, rfl⟩ kd29_26.2.2.1 rfl rfl (by simp [Value.category]) (by decide) (by decide) (by decide) (by decide) (fun r47 S49 g48 pr47 qr47 hg48 => ?_)
          obtain ⟨rfl, rfl⟩ := pr47
          refine X_st [] rfl ?_
          refine X_goto hK 148 kd29_26.2.2.2.1 (by decide) ?_
          exact hret _ _ _ _ _ _ kd29_27.2.2.2 ⟨rfl, rfl⟩ (Nat.le_refl _) (Nat.le_refl _)
      · refine X_aloadn hK (i := 0) 2 kd29_22.2.2.2.1 rfl rfl ?_
        refine X_iconst hK kd29_22.2.2.2.2.1 ?_
        refine X_callV hK [.int (iI 1)] [] lk_X7_60 (c_X7_tell _ _ _ _ _ S g a0 1 hs_a0 (by omega)) hs_a0 ⟨by decide, rfl⟩ kd29_22.2.2.2.2.2.1 rfl rfl (by simp [Value.category]) (by decide) (by decide) (by decide) (by decide) (fun r50 S52 g51 pr50 qr50 hg51 => ?_)
        obtain ⟨rfl, rfl⟩ := pr50
        refine X_st [] rfl ?_
        refine X_goto hK 148 kd29_22.2.2.2.2.2.2.1 (by decide) ?_
        exact hret _ _ _ _ _ _ kd29_27.2.2.2 ⟨rfl, rfl⟩ (Nat.le_refl _) (Nat.le_refl _)
    · refine X_iconst hK kd29_21.2.2.2.1 ?_
      refine X_goto hK 22 kd29_21.2.2.2.2.1 (by decide) ?_
      refine X_istore hK (i := 4) [(4, .int (iI 1)), (3, .int (iI z5)), (0, .ref a0), (1, .ref a1), (2, .int (iI x2))] kd29_21.2.2.2.2.2.2.1 (by decide) rfl ?_
      refine X_iload hK (i := 4) 0 kd29_21.2.2.2.2.2.2.2.1 rfl ?_
      refine X_if_ne hK 49 (by omega) kd29_21.2.2.2.2.2.2.2.2.1 (by decide) (fun c53 => ?_) (fun c53 => False.elim (by omega))
      refine X_aloadn hK (i := 0) 2 kd29_22.2.2.2.2.2.2.2.1 rfl rfl ?_
      refine X_geti hK fl_X7_22_8 hs_a0 sl_8_3 kd29_22.2.2.2.2.2.2.2.2.1 (fun z54 ez54 lz54 uz54 => ?_)
      refine X_bipush hK kd29_22.2.2.2.2.2.2.2.2.2.1 (by decide) ?_
      refine X_icmp_ge hK 64 (by omega) (by omega) kd29_22.2.2.2.2.2.2.2.2.2.2.1 (by decide) (fun c55 => ?_) (fun c55 => ?_)
      · refine X_aloadn hK (i := 0) 2 kd29_23.2.2.1 rfl rfl ?_
        refine X_iconst hK kd29_23.2.2.2.1 ?_
        refine X_callV hK [.int (iI 4)] [] lk_X7_60 (c_X7_tell _ _ _ _ _ S g a0 4 hs_a0 (by omega)) hs_a0 ⟨by decide, rfl⟩ kd29_23.2.2.2.2.1 rfl rfl (by simp [Value.category]) (by decide) (by decide) (by decide) (by decide) (fun r56 S58 g57 pr56 qr56 hg57 => ?_)
        obtain ⟨rfl, rfl⟩ := pr56
        refine X_st [] rfl ?_
        refine X_goto hK 148 kd29_23.2.2.2.2.2.1 (by decide) ?_
        exact hret _ _ _ _ _ _ kd29_27.2.2.2 ⟨rfl, rfl⟩ (Nat.le_refl _) (Nat.le_refl _)
      · refine X_iloadn hK (i := 2) 4 kd29_22.2.2.2.2.2.2.2.2.2.2.2 rfl rfl ?_
        refine X_bipush hK kd29_23.1 (by decide) ?_
        refine X_icmp_le hK 72 (by omega) (by omega) kd29_23.2.1 (by decide) (fun c59 => ?_) (fun c59 => False.elim (by omega))
        refine X_aloadn hK (i := 0) 2 kd29_23.2.2.2.2.2.2.1 rfl rfl ?_
        refine X_dup hK kd29_23.2.2.2.2.2.2.2.1 rfl ?_
        refine X_getK hK fl_X7_22_8 hs_a0 ez54 kd29_23.2.2.2.2.2.2.2.2.1 ?_
        refine X_iconst hK kd29_23.2.2.2.2.2.2.2.2.2.1 ?_
        refine X_iadd hK kd29_23.2.2.2.2.2.2.2.2.2.2.1 ?_
        refine X_puti hK fl_X7_22_8 hs_a0 (by decide) sl_8_3 (by omega) (by omega) kd29_23.2.2.2.2.2.2.2.2.2.2.2 (fun g60 hg60 => ?_)
        refine X_aloadn hK (i := 0) 2 kd29_24.1 rfl rfl ?_
        refine X_dup hK kd29_24.2.1 rfl ?_
        refine X_getK hK fl_X7_18_8 hs_a0 ((xs_k hg60 (by decide)).trans ez1) kd29_24.2.2.1 ?_
        refine X_iconst hK kd29_24.2.2.2.1 ?_
        refine X_iadd hK kd29_24.2.2.2.2.1 ?_
        refine X_puti hK fl_X7_18_8 hs_a0 (by decide) sl_8_2 (by omega) (by omega) kd29_24.2.2.2.2.2.1 (fun g61 hg61 => ?_)
        refine X_iload hK (i := 4) 0 kd29_24.2.2.2.2.2.2.1 rfl ?_
        refine X_if_eq hK 109 (by omega) kd29_24.2.2.2.2.2.2.2.1 (by decide) (fun c62 => False.elim (by omega)) (fun c62 => ?_)
        refine X_aloadn hK (i := 0) 2 kd29_24.2.2.2.2.2.2.2.2.1 rfl rfl ?_
        refine X_aloadn hK (i := 1) 3 kd29_24.2.2.2.2.2.2.2.2.2.1 rfl rfl ?_
        refine X_iloadn hK (i := 3) 1 kd29_24.2.2.2.2.2.2.2.2.2.2.1 rfl rfl ?_
        refine X_bipush hK kd29_24.2.2.2.2.2.2.2.2.2.2.2 (by decide) ?_
        refine X_isub hK kd29_25.1 ?_
        refine X_callV hK [.ref a1, .int (iI (z5 - 10))] [] lk_X7_135 (c_X7_readFact _ _ _ _ _ S g61 a0 a1 (z5 - 10) hs_a0 hs_a1 (by omega)) hs_a0 ⟨by decide, rfl⟩ kd29_25.2.1 rfl rfl (by simp [Value.category]) (by decide) (by decide) (by decide) (by decide) (fun r63 S65 g64 pr63 qr63 hg64 => ?_)
        obtain ⟨rfl, rfl⟩ := pr63
        refine X_st [] rfl ?_
        refine X_goto hK 148 kd29_25.2.2.1 (by decide) ?_
        exact hret _ _ _ _ _ _ kd29_27.2.2.2 ⟨rfl, rfl⟩ (Nat.le_refl _) (Nat.le_refl _)

set_option maxHeartbeats 4000000 in
set_option maxRecDepth 100000 in
theorem c_X7_readAll_3 (l : Launch) (D : va_G) (kA : Nat → ClassId) (b0 : Nat) (t0 : Nat → Nat) (S : xT) (g : xG) (a0 : Nat) (a1 : Nat) (x2 : Int) (hs_a0 : S a0 = some (8, 0)) (hs_a1 : S a1 = some (11, 0)) (hx2 : 3 ≤ x2 ∧ x2 ≤ 3) : xMt l yX7_readAll cX7_readAll 4 none 26 0 0 605 D kA b0 t0 [(8, 5), (8, 6), (8, 3), (8, 2), (14000, 0), (11, 2)] [.ref a0, .ref a1, .int (iI x2)] S g (fun (r : Option Value) (S1 : xT) (g1 : xG) => S = S1 ∧ r = none) := by
  refine xEnterV (by decide) (by simp [lg_sl, Value.category]) [(0, .ref a0), (1, .ref a1), (2, .int (iI x2))] rfl ?_
  intro K E hK hret _ _ _
  refine X_aloadn hK (i := 0) 0 kd29_0.1 rfl rfl ?_
  refine X_aloadn hK (i := 1) 1 kd29_0.2.1 rfl rfl ?_
  refine X_iloadn hK (i := 2) 2 kd29_0.2.2.1 rfl rfl ?_
  refine X_callV hK [.ref a1, .int (iI x2)] [] lk_X7_132 (c_X7_readOne_3 _ _ _ _ _ S g a0 a1 x2 hs_a0 hs_a1 (by omega)) hs_a0 ⟨by decide, rfl⟩ kd29_0.2.2.2.1 rfl rfl (by simp [Value.category]) (by decide) (by decide) (by decide) (by decide) (fun r1 S3 g2 pr1 qr1 hg2 => ?_)
  obtain ⟨rfl, rfl⟩ := pr1
  refine X_st [] rfl ?_
  refine X_iconst hK kd29_0.2.2.2.2.1 ?_
  refine X_istoren hK (i := 3) [(3, .int (iI 0)), (0, .ref a0), (1, .ref a1), (2, .int (iI x2))] kd29_0.2.2.2.2.2.1 rfl (by decide) rfl ?_
  have P117 : ∀ (nP117 : Nat) (g99 : xG) (_ : xM [(14000, 0), (11, 2), (8, 5), (8, 6), (8, 3), (8, 2)] S g2 g99) (z98 : Int) (_ : 0 ≤ z98) (_ : z98 ≤ 50) (_ : 66 - z98 < (nP117 : Int)), X K E 8 [(3, .int (iI z98)), (0, .ref a0), (1, .ref a1), (2, .int (iI x2))] [] S g99 0 0 := by
    intro nP117
    induction nP117 with
    | zero => intro g99 hg99 z98 lz98 uz98 mP117; exact False.elim (by omega)
    | succ nP117 ihP117 =>
      intro g99 hg99 z98 lz98 uz98 mP117
      refine X_iloadn hK (i := 3) 0 kd29_0.2.2.2.2.2.2.1 rfl rfl ?_
      refine X_bipush hK kd29_0.2.2.2.2.2.2.2.1 (by decide) ?_
      refine X_icmp_ge hK 60 (by omega) (by omega) kd29_0.2.2.2.2.2.2.2.2.1 (by decide) (fun c118 => ?_) (fun c118 => ?_)
      · exact hret _ _ _ _ _ _ kd29_2.2.2.2.2.2.2.2.2.2.1 ⟨rfl, rfl⟩ (Nat.le_refl _) (Nat.le_refl _)
      · refine X_aloadn hK (i := 0) 1 kd29_0.2.2.2.2.2.2.2.2.2.1 rfl rfl ?_
        refine X_geti hK fl_X7_29_8 hs_a0 sl_8_5 kd29_0.2.2.2.2.2.2.2.2.2.2.1 (fun z119 ez119 lz119 uz119 => ?_)
        refine X_if_ne hK 60 (by omega) kd29_0.2.2.2.2.2.2.2.2.2.2.2 (by decide) (fun c120 => ?_) (fun c120 => ?_)
        · exact hret _ _ _ _ _ _ kd29_2.2.2.2.2.2.2.2.2.2.1 ⟨rfl, rfl⟩ (Nat.le_refl _) (Nat.le_refl _)
        · refine X_aloadn hK (i := 0) 1 kd29_1.1 rfl rfl ?_
          refine X_know hs_a0 (by decide) sl_8_2 (fun z121 ez121 lz121 uz121 => ?_)
          refine X_callV hK [] [] lk_X7_47 (c_X7_now _ _ _ _ _ S g99 a0 z121 hs_a0 (by omega) ez121) hs_a0 ⟨by decide, rfl⟩ kd29_1.2.1 rfl rfl (by simp [Value.category]) (by decide) (by decide) (by decide) (by decide) (fun r122 S124 g123 pr122 qr122 hg123 => ?_)
          obtain ⟨rfl, rfl, z125, rfl, lz125, uz125, k126⟩ := pr122
          refine X_st [.int (iI z125)] rfl ?_
          refine X_bipush hK kd29_1.2.2.1 (by decide) ?_
          refine X_icmp_ne hK 60 (by omega) (by omega) kd29_1.2.2.2.1 (by decide) (fun c127 => ?_) (fun c127 => ?_)
          · exact hret _ _ _ _ _ _ kd29_2.2.2.2.2.2.2.2.2.2.1 ⟨rfl, rfl⟩ (Nat.le_refl _) (Nat.le_refl _)
          · refine X_aloadn hK (i := 0) 1 kd29_1.2.2.2.2.1 rfl rfl ?_
            refine X_dup hK kd29_1.2.2.2.2.2.1 rfl ?_
            refine X_getK hK fl_X7_18_8 hs_a0 ez121 kd29_1.2.2.2.2.2.2.1 ?_
            refine X_iconst hK kd29_1.2.2.2.2.2.2.2.1 ?_
            refine X_iadd hK kd29_1.2.2.2.2.2.2.2.2.1 ?_
            refine X_puti hK fl_X7_18_8 hs_a0 (by decide) sl_8_2 (by omega) (by omega) kd29_1.2.2.2.2.2.2.2.2.2.1 (fun g128 hg128 => ?_)
            refine X_aloadn hK (i := 0) 1 kd29_1.2.2.2.2.2.2.2.2.2.2.1 rfl rfl ?_
            refine X_aloadn hK (i := 1) 2 kd29_1.2.2.2.2.2.2.2.2.2.2.2 rfl rfl ?_
            refine X_iloadn hK (i := 2) 3 kd29_2.1 rfl rfl ?_
            refine X_callV hK [.ref a1, .int (iI x2)] [] lk_X7_132 (c_X7_readOne_3 _ _ _ _ _ S g128 a0 a1 x2 hs_a0 hs_a1 (by omega)) hs_a0 ⟨by decide, rfl⟩ kd29_2.2.1 rfl rfl (by simp [Value.category]) (by decide) (by decide) (by decide) (by decide) (fun r129 S131 g130 pr129 qr129 hg130 => ?_)
            obtain ⟨rfl, rfl⟩ := pr129
            refine X_st [] rfl ?_
            refine X_aloadn hK (i := 1) 2 kd29_2.2.2.1 rfl rfl ?_
            refine X_bipush hK kd29_2.2.2.2.1 (by decide) ?_
            refine X_iconst hK kd29_2.2.2.2.2.1 ?_
            refine X_iconst hK kd29_2.2.2.2.2.2.1 ?_
            refine X_callV hK [.int (iI 13), .int (iI 0), .int (iI 0)] [] lk_X7_129 (c_X10_addStep _ _ _ _ _ S g130 a1 13 0 0 hs_a1 (by omega) (by omega) (by omega)) hs_a1 ⟨by decide, rfl⟩ kd29_2.2.2.2.2.2.2.1 rfl rfl (by simp [Value.category]) (by decide) (by decide) (by decide) (by decide) (fun r132 S134 g133 pr132 qr132 hg133 => ?_)
            obtain ⟨rfl, rfl⟩ := pr132
            refine X_st [] rfl ?_
            refine X_iinc hK (i := 3) (z := z98) (n := 1) 0 [(3, .int (iI (z98 + 1))), (0, .ref a0), (1, .ref a1), (2, .int (iI x2))] kd29_2.2.2.2.2.2.2.2.1 rfl (by decide) rfl ?_
            refine X_goto hK 8 kd29_2.2.2.2.2.2.2.2.2.1 (by decide) ?_
            exact ihP117  g133 (xM.tr (xM.tr (xM_up (xM.tr xM.rf xLe.rf hg99 (by decide)) hg128 hs_a0 (by decide) (by decide)) xLe.rf hg130 (by decide)) xLe.rf hg133 (by decide)) (z98 + 1) (by omega) (by omega) (by omega)
  exact P117 ((66 - 0 : Int).toNat + 1) g2 xM.rf 0 (by omega) (by omega) (by omega)

set_option maxHeartbeats 4000000 in
set_option maxRecDepth 100000 in
theorem c_X7_readCond_3 (l : Launch) (D : va_G) (kA : Nat → ClassId) (b0 : Nat) (t0 : Nat → Nat) (S : xT) (g : xG) (a0 : Nat) (a1 : Nat) (x2 : Int) (hs_a0 : S a0 = some (8, 0)) (hs_a1 : S a1 = some (11, 0)) (hx2 : 3 ≤ x2 ∧ x2 ≤ 3) : xMt l yX7_readCond cX7_readCond 4 none 27 0 0 628 D kA b0 t0 [(8, 5), (8, 6), (8, 3), (8, 2), (14000, 0), (11, 2)] [.ref a0, .ref a1, .int (iI x2)] S g (fun (r : Option Value) (S1 : xT) (g1 : xG) => S = S1 ∧ r = none) := by
  refine xEnterV (by decide) (by simp [lg_sl, Value.category]) [(0, .ref a0), (1, .ref a1), (2, .int (iI x2))] rfl ?_
  intro K E hK hret _ _ _
  refine X_aloadn hK (i := 0) 0 kd29_2.2.2.2.2.2.2.2.2.2.2.1 rfl rfl ?_
  refine X_aloadn hK (i := 1) 1 kd29_2.2.2.2.2.2.2.2.2.2.2.2 rfl rfl ?_
  refine X_iloadn hK (i := 2) 2 kd29_3.1 rfl rfl ?_
  refine X_callV hK [.ref a1, .int (iI x2)] [] lk_X7_126 (c_X7_readAll_3 _ _ _ _ _ S g a0 a1 x2 hs_a0 hs_a1 (by omega)) hs_a0 ⟨by decide, rfl⟩ kd29_3.2.1 rfl rfl (by simp [Value.category]) (by decide) (by decide) (by decide) (by decide) (fun r1 S3 g2 pr1 qr1 hg2 => ?_)
  obtain ⟨rfl, rfl⟩ := pr1
  refine X_st [] rfl ?_
  refine X_iconst hK kd29_3.2.2.1 ?_
  refine X_istoren hK (i := 3) [(3, .int (iI 0)), (0, .ref a0), (1, .ref a1), (2, .int (iI x2))] kd29_3.2.2.2.1 rfl (by decide) rfl ?_
  have P117 : ∀ (nP117 : Nat) (g99 : xG) (_ : xM [(14000, 0), (11, 2), (8, 5), (8, 6), (8, 3), (8, 2)] S g2 g99) (z98 : Int) (_ : 0 ≤ z98) (_ : z98 ≤ 50) (_ : 66 - z98 < (nP117 : Int)), X K E 8 [(3, .int (iI z98)), (0, .ref a0), (1, .ref a1), (2, .int (iI x2))] [] S g99 0 0 := by
    intro nP117
    induction nP117 with
    | zero => intro g99 hg99 z98 lz98 uz98 mP117; exact False.elim (by omega)
    | succ nP117 ihP117 =>
      intro g99 hg99 z98 lz98 uz98 mP117
      refine X_iloadn hK (i := 3) 0 kd29_3.2.2.2.2.1 rfl rfl ?_
      refine X_bipush hK kd29_3.2.2.2.2.2.1 (by decide) ?_
      refine X_icmp_ge hK 60 (by omega) (by omega) kd29_3.2.2.2.2.2.2.1 (by decide) (fun c118 => ?_) (fun c118 => ?_)
      · exact hret _ _ _ _ _ _ kd29_5.2.2.2.2.2.2.2.1 ⟨rfl, rfl⟩ (Nat.le_refl _) (Nat.le_refl _)
      · refine X_aloadn hK (i := 0) 1 kd29_3.2.2.2.2.2.2.2.1 rfl rfl ?_
        refine X_geti hK fl_X7_29_8 hs_a0 sl_8_5 kd29_3.2.2.2.2.2.2.2.2.1 (fun z119 ez119 lz119 uz119 => ?_)
        refine X_if_ne hK 60 (by omega) kd29_3.2.2.2.2.2.2.2.2.2.1 (by decide) (fun c120 => ?_) (fun c120 => ?_)
        · exact hret _ _ _ _ _ _ kd29_5.2.2.2.2.2.2.2.1 ⟨rfl, rfl⟩ (Nat.le_refl _) (Nat.le_refl _)
        · refine X_aloadn hK (i := 0) 1 kd29_3.2.2.2.2.2.2.2.2.2.2.1 rfl rfl ?_
          refine X_know hs_a0 (by decide) sl_8_2 (fun z121 ez121 lz121 uz121 => ?_)
          refine X_callV hK [] [] lk_X7_47 (c_X7_now _ _ _ _ _ S g99 a0 z121 hs_a0 (by omega) ez121) hs_a0 ⟨by decide, rfl⟩ kd29_3.2.2.2.2.2.2.2.2.2.2.2 rfl rfl (by simp [Value.category]) (by decide) (by decide) (by decide) (by decide) (fun r122 S124 g123 pr122 qr122 hg123 => ?_)
          obtain ⟨rfl, rfl, z125, rfl, lz125, uz125, k126⟩ := pr122
          refine X_st [.int (iI z125)] rfl ?_
          refine X_bipush hK kd29_4.1 (by decide) ?_
          refine X_icmp_ne hK 60 (by omega) (by omega) kd29_4.2.1 (by decide) (fun c127 => ?_) (fun c127 => ?_)
          · exact hret _ _ _ _ _ _ kd29_5.2.2.2.2.2.2.2.1 ⟨rfl, rfl⟩ (Nat.le_refl _) (Nat.le_refl _)
          · refine X_aloadn hK (i := 0) 1 kd29_4.2.2.1 rfl rfl ?_
            refine X_dup hK kd29_4.2.2.2.1 rfl ?_
            refine X_getK hK fl_X7_18_8 hs_a0 ez121 kd29_4.2.2.2.2.1 ?_
            refine X_iconst hK kd29_4.2.2.2.2.2.1 ?_
            refine X_iadd hK kd29_4.2.2.2.2.2.2.1 ?_
            refine X_puti hK fl_X7_18_8 hs_a0 (by decide) sl_8_2 (by omega) (by omega) kd29_4.2.2.2.2.2.2.2.1 (fun g128 hg128 => ?_)
            refine X_aloadn hK (i := 0) 1 kd29_4.2.2.2.2.2.2.2.2.1 rfl rfl ?_
            refine X_aloadn hK (i := 1) 2 kd29_4.2.2.2.2.2.2.2.2.2.1 rfl rfl ?_
            refine X_iloadn hK (i := 2) 3 kd29_4.2.2.2.2.2.2.2.2.2.2.1 rfl rfl ?_
            refine X_callV hK [.ref a1, .int (iI x2)] [] lk_X7_126 (c_X7_readAll_3 _ _ _ _ _ S g128 a0 a1 x2 hs_a0 hs_a1 (by omega)) hs_a0 ⟨by decide, rfl⟩ kd29_4.2.2.2.2.2.2.2.2.2.2.2 rfl rfl (by simp [Value.category]) (by decide) (by decide) (by decide) (by decide) (fun r129 S131 g130 pr129 qr129 hg130 => ?_)
            obtain ⟨rfl, rfl⟩ := pr129
            refine X_st [] rfl ?_
            refine X_aloadn hK (i := 1) 2 kd29_5.1 rfl rfl ?_
            refine X_bipush hK kd29_5.2.1 (by decide) ?_
            refine X_iconst hK kd29_5.2.2.1 ?_
            refine X_iconst hK kd29_5.2.2.2.1 ?_
            refine X_callV hK [.int (iI 14), .int (iI 0), .int (iI 0)] [] lk_X7_129 (c_X10_addStep _ _ _ _ _ S g130 a1 14 0 0 hs_a1 (by omega) (by omega) (by omega)) hs_a1 ⟨by decide, rfl⟩ kd29_5.2.2.2.2.1 rfl rfl (by simp [Value.category]) (by decide) (by decide) (by decide) (by decide) (fun r132 S134 g133 pr132 qr132 hg133 => ?_)
            obtain ⟨rfl, rfl⟩ := pr132
            refine X_st [] rfl ?_
            refine X_iinc hK (i := 3) (z := z98) (n := 1) 0 [(3, .int (iI (z98 + 1))), (0, .ref a0), (1, .ref a1), (2, .int (iI x2))] kd29_5.2.2.2.2.2.1 rfl (by decide) rfl ?_
            refine X_goto hK 8 kd29_5.2.2.2.2.2.2.1 (by decide) ?_
            exact ihP117  g133 (xM.tr (xM.tr (xM_up (xM.tr xM.rf xLe.rf hg99 (by decide)) hg128 hs_a0 (by decide) (by decide)) xLe.rf hg130 (by decide)) xLe.rf hg133 (by decide)) (z98 + 1) (by omega) (by omega) (by omega)
  exact P117 ((66 - 0 : Int).toNat + 1) g2 xM.rf 0 (by omega) (by omega) (by omega)

set_option maxHeartbeats 4000000 in
set_option maxRecDepth 100000 in
theorem c_X7_readOne_2 (l : Launch) (D : va_G) (kA : Nat → ClassId) (b0 : Nat) (t0 : Nat → Nat) (S : xT) (g : xG) (a0 : Nat) (a1 : Nat) (x2 : Int) (hs_a0 : S a0 = some (8, 0)) (hs_a1 : S a1 = some (11, 0)) (hx2 : 2 ≤ x2 ∧ x2 ≤ 2) : xMt l yX7_readOne cX7_readOne 5 none 28 0 0 651 D kA b0 t0 [(8, 5), (8, 6), (8, 3), (8, 2), (14000, 0), (11, 2)] [.ref a0, .ref a1, .int (iI x2)] S g (fun (r : Option Value) (S1 : xT) (g1 : xG) => S = S1 ∧ r = none) := by
  refine xEnterV (by decide) (by simp [lg_sl, Value.category]) [(0, .ref a0), (1, .ref a1), (2, .int (iI x2))] rfl ?_
  intro K E hK hret _ _ _
  refine X_aloadn hK (i := 0) 0 kd29_20.2.2.2.2.2.2.1 rfl rfl ?_
  refine X_know hs_a0 (by decide) sl_8_2 (fun z1 ez1 lz1 uz1 => ?_)
  refine X_callV hK [] [] lk_X7_47 (c_X7_now _ _ _ _ _ S g a0 z1 hs_a0 (by omega) ez1) hs_a0 ⟨by decide, rfl⟩ kd29_20.2.2.2.2.2.2.2.1 rfl rfl (by simp [Value.category]) (by decide) (by decide) (by decide) (by decide) (fun r2 S4 g3 pr2 qr2 hg3 => ?_)
  obtain ⟨rfl, rfl, z5, rfl, lz5, uz5, k6⟩ := pr2
  refine X_st [.int (iI z5)] rfl ?_
  refine X_istoren hK (i := 3) [(3, .int (iI z5)), (0, .ref a0), (1, .ref a1), (2, .int (iI x2))] kd29_20.2.2.2.2.2.2.2.2.1 rfl (by decide) rfl ?_
  refine X_iloadn hK (i := 3) 0 kd29_20.2.2.2.2.2.2.2.2.2.1 rfl rfl ?_
  refine X_bipush hK kd29_20.2.2.2.2.2.2.2.2.2.2.1 (by decide) ?_
  refine X_icmp_lt hK 21 (by omega) (by omega) kd29_20.2.2.2.2.2.2.2.2.2.2.2 (by decide) (fun c7 => ?_) (fun c7 => ?_)
  · refine X_iconst hK kd29_21.2.2.2.2.2.1 ?_
    refine X_istore hK (i := 4) [(4, .int (iI 0)), (3, .int (iI z5)), (0, .ref a0), (1, .ref a1), (2, .int (iI x2))] kd29_21.2.2.2.2.2.2.1 (by decide) rfl ?_
    refine X_iload hK (i := 4) 0 kd29_21.2.2.2.2.2.2.2.1 rfl ?_
    refine X_if_ne hK 49 (by omega) kd29_21.2.2.2.2.2.2.2.2.1 (by decide) (fun c8 => False.elim (by omega)) (fun c8 => ?_)
    refine X_iloadn hK (i := 3) 1 kd29_21.2.2.2.2.2.2.2.2.2.1 rfl rfl ?_
    refine X_bipush hK kd29_21.2.2.2.2.2.2.2.2.2.2.1 (by decide) ?_
    refine X_icmp_eq hK 49 (by omega) (by omega) kd29_21.2.2.2.2.2.2.2.2.2.2.2 (by decide) (fun c9 => ?_) (fun c9 => ?_)
    · refine X_aloadn hK (i := 0) 2 kd29_22.2.2.2.2.2.2.2.1 rfl rfl ?_
      refine X_geti hK fl_X7_22_8 hs_a0 sl_8_3 kd29_22.2.2.2.2.2.2.2.2.1 (fun z10 ez10 lz10 uz10 => ?_)
      refine X_bipush hK kd29_22.2.2.2.2.2.2.2.2.2.1 (by decide) ?_
      refine X_icmp_ge hK 64 (by omega) (by omega) kd29_22.2.2.2.2.2.2.2.2.2.2.1 (by decide) (fun c11 => ?_) (fun c11 => ?_)
      · refine X_aloadn hK (i := 0) 2 kd29_23.2.2.1 rfl rfl ?_
        refine X_iconst hK kd29_23.2.2.2.1 ?_
        refine X_callV hK [.int (iI 4)] [] lk_X7_60 (c_X7_tell _ _ _ _ _ S g a0 4 hs_a0 (by omega)) hs_a0 ⟨by decide, rfl⟩ kd29_23.2.2.2.2.1 rfl rfl (by simp [Value.category]) (by decide) (by decide) (by decide) (by decide) (fun r12 S14 g13 pr12 qr12 hg13 => ?_)
        obtain ⟨rfl, rfl⟩ := pr12
        refine X_st [] rfl ?_
        refine X_goto hK 148 kd29_23.2.2.2.2.2.1 (by decide) ?_
        exact hret _ _ _ _ _ _ kd29_27.2.2.2 ⟨rfl, rfl⟩ (Nat.le_refl _) (Nat.le_refl _)
      · refine X_iloadn hK (i := 2) 4 kd29_22.2.2.2.2.2.2.2.2.2.2.2 rfl rfl ?_
        refine X_bipush hK kd29_23.1 (by decide) ?_
        refine X_icmp_le hK 72 (by omega) (by omega) kd29_23.2.1 (by decide) (fun c15 => ?_) (fun c15 => False.elim (by omega))
        refine X_aloadn hK (i := 0) 2 kd29_23.2.2.2.2.2.2.1 rfl rfl ?_
        refine X_dup hK kd29_23.2.2.2.2.2.2.2.1 rfl ?_
        refine X_getK hK fl_X7_22_8 hs_a0 ez10 kd29_23.2.2.2.2.2.2.2.2.1 ?_
        refine X_iconst hK kd29_23.2.2.2.2.2.2.2.2.2.1 ?_
        refine X_iadd hK kd29_23.2.2.2.2.2.2.2.2.2.2.1 ?_
        refine X_puti hK fl_X7_22_8 hs_a0 (by decide) sl_8_3 (by omega) (by omega) kd29_23.2.2.2.2.2.2.2.2.2.2.2 (fun g16 hg16 => ?_)
        refine X_aloadn hK (i := 0) 2 kd29_24.1 rfl rfl ?_
        refine X_dup hK kd29_24.2.1 rfl ?_
        refine X_getK hK fl_X7_18_8 hs_a0 ((xs_k hg16 (by decide)).trans ez1) kd29_24.2.2.1 ?_
        refine X_iconst hK kd29_24.2.2.2.1 ?_
        refine X_iadd hK kd29_24.2.2.2.2.1 ?_
        refine X_puti hK fl_X7_18_8 hs_a0 (by decide) sl_8_2 (by omega) (by omega) kd29_24.2.2.2.2.2.1 (fun g17 hg17 => ?_)
        refine X_iload hK (i := 4) 0 kd29_24.2.2.2.2.2.2.1 rfl ?_
        refine X_if_eq hK 109 (by omega) kd29_24.2.2.2.2.2.2.2.1 (by decide) (fun c18 => ?_) (fun c18 => False.elim (by omega))
        refine X_iloadn hK (i := 3) 1 kd29_25.2.2.2.1 rfl rfl ?_
        refine X_bipush hK kd29_25.2.2.2.2.1 (by decide) ?_
        refine X_icmp_ne hK 132 (by omega) (by omega) kd29_25.2.2.2.2.2.1 (by decide) (fun c19 => ?_) (fun c19 => False.elim (by omega))
        refine X_aloadn hK (i := 0) 2 kd29_26.2.2.2.2.1 rfl rfl ?_
        refine X_aloadn hK (i := 1) 3 kd29_26.2.2.2.2.2.1 rfl rfl ?_
        refine X_iloadn hK (i := 2) 4 kd29_26.2.2.2.2.2.2.1 rfl rfl ?_
        refine X_iconst hK kd29_26.2.2.2.2.2.2.2.1 ?_
        refine X_iadd hK kd29_26.2.2.2.2.2.2.2.2.1 ?_
        refine X_callV hK [.ref a1, .int (iI (x2 + 1))] [] lk_X7_132 (c_X7_readOne_3 _ _ _ _ _ S g17 a0 a1 (x2 + 1) hs_a0 hs_a1 (by omega)) hs_a0 ⟨by decide, rfl⟩ kd29_26.2.2.2.2.2.2.2.2.2.1 rfl rfl (by simp [Value.category]) (by decide) (by decide) (by decide) (by decide) (fun r20 S22 g21 pr20 qr20 hg21 => ?_)
        obtain ⟨rfl, rfl⟩ := pr20
        refine X_st [] rfl ?_
        refine X_aloadn hK (i := 1) 3 kd29_26.2.2.2.2.2.2.2.2.2.2.1 rfl rfl ?_
        refine X_bipush hK kd29_26.2.2.2.2.2.2.2.2.2.2.2 (by decide) ?_
        refine X_iconst hK kd29_27.1 ?_
        refine X_iconst hK kd29_27.2.1 ?_
        refine X_callV hK [.int (iI 12), .int (iI 0), .int (iI 0)] [] lk_X7_129 (c_X10_addStep _ _ _ _ _ S g21 a1 12 0 0 hs_a1 (by omega) (by omega) (by omega)) hs_a1 ⟨by decide, rfl⟩ kd29_27.2.2.1 rfl rfl (by simp [Value.category]) (by decide) (by decide) (by decide) (by decide) (fun r23 S25 g24 pr23 qr23 hg24 => ?_)
        obtain ⟨rfl, rfl⟩ := pr23
        refine X_st [] rfl ?_
        exact hret _ _ _ _ _ _ kd29_27.2.2.2 ⟨rfl, rfl⟩ (Nat.le_refl _) (Nat.le_refl _)
    · refine X_iloadn hK (i := 3) 1 kd29_22.1 rfl rfl ?_
      refine X_bipush hK kd29_22.2.1 (by decide) ?_
      refine X_icmp_eq hK 49 (by omega) (by omega) kd29_22.2.2.1 (by decide) (fun c26 => False.elim (by omega)) (fun c26 => ?_)
      refine X_aloadn hK (i := 0) 2 kd29_22.2.2.2.1 rfl rfl ?_
      refine X_iconst hK kd29_22.2.2.2.2.1 ?_
      refine X_callV hK [.int (iI 1)] [] lk_X7_60 (c_X7_tell _ _ _ _ _ S g a0 1 hs_a0 (by omega)) hs_a0 ⟨by decide, rfl⟩ kd29_22.2.2.2.2.2.1 rfl rfl (by simp [Value.category]) (by decide) (by decide) (by decide) (by decide) (fun r27 S29 g28 pr27 qr27 hg28 => ?_)
      obtain ⟨rfl, rfl⟩ := pr27
      refine X_st [] rfl ?_
      refine X_goto hK 148 kd29_22.2.2.2.2.2.2.1 (by decide) ?_
      exact hret _ _ _ _ _ _ kd29_27.2.2.2 ⟨rfl, rfl⟩ (Nat.le_refl _) (Nat.le_refl _)
  · refine X_iloadn hK (i := 3) 0 kd29_21.1 rfl rfl ?_
    refine X_bipush hK kd29_21.2.1 (by decide) ?_
    refine X_icmp_ge hK 21 (by omega) (by omega) kd29_21.2.2.1 (by decide) (fun c30 => ?_) (fun c30 => ?_)
    · refine X_iconst hK kd29_21.2.2.2.2.2.1 ?_
      refine X_istore hK (i := 4) [(4, .int (iI 0)), (3, .int (iI z5)), (0, .ref a0), (1, .ref a1), (2, .int (iI x2))] kd29_21.2.2.2.2.2.2.1 (by decide) rfl ?_
      refine X_iload hK (i := 4) 0 kd29_21.2.2.2.2.2.2.2.1 rfl ?_
      refine X_if_ne hK 49 (by omega) kd29_21.2.2.2.2.2.2.2.2.1 (by decide) (fun c31 => False.elim (by omega)) (fun c31 => ?_)
      refine X_iloadn hK (i := 3) 1 kd29_21.2.2.2.2.2.2.2.2.2.1 rfl rfl ?_
      refine X_bipush hK kd29_21.2.2.2.2.2.2.2.2.2.2.1 (by decide) ?_
      refine X_icmp_eq hK 49 (by omega) (by omega) kd29_21.2.2.2.2.2.2.2.2.2.2.2 (by decide) (fun c32 => False.elim (by omega)) (fun c32 => ?_)
      refine X_iloadn hK (i := 3) 1 kd29_22.1 rfl rfl ?_
      refine X_bipush hK kd29_22.2.1 (by decide) ?_
      refine X_icmp_eq hK 49 (by omega) (by omega) kd29_22.2.2.1 (by decide) (fun c33 => ?_) (fun c33 => ?_)
      · refine X_aloadn hK (i := 0) 2 kd29_22.2.2.2.2.2.2.2.1 rfl rfl ?_
        refine X_geti hK fl_X7_22_8 hs_a0 sl_8_3 kd29_22.2.2.2.2.2.2.2.2.1 (fun z34 ez34 lz34 uz34 => ?_)
        refine X_bipush hK kd29_22.2.2.2.2.2.2.2.2.2.1 (by decide) ?_
        refine X_icmp_ge hK 64 (by omega) (by omega) kd29_22.2.2.2.2.2.2.2.2.2.2.1 (by decide) (fun c35 => ?_) (fun c35 => ?_)
        · refine X_aloadn hK (i := 0) 2 kd29_23.2.2.1 rfl rfl ?_
          refine X_iconst hK kd29_23.2.2.2.1 ?_
          refine X_callV hK [.int (iI 4)] [] lk_X7_60 (c_X7_tell _ _ _ _ _ S g a0 4 hs_a0 (by omega)) hs_a0 ⟨by decide, rfl⟩ kd29_23.2.2.2.2.1 rfl rfl (by simp [Value.category]) (by decide) (by decide) (by decide) (by decide) (fun r36 S38 g37 pr36 qr36 hg37 => ?_)
          obtain ⟨rfl, rfl⟩ := pr36
          refine X_st [] rfl ?_
          refine X_goto hK 148 kd29_23.2.2.2.2.2.1 (by decide) ?_
          exact hret _ _ _ _ _ _ kd29_27.2.2.2 ⟨rfl, rfl⟩ (Nat.le_refl _) (Nat.le_refl _)
        · refine X_iloadn hK (i := 2) 4 kd29_22.2.2.2.2.2.2.2.2.2.2.2 rfl rfl ?_
          refine X_bipush hK kd29_23.1 (by decide) ?_
          refine X_icmp_le hK 72 (by omega) (by omega) kd29_23.2.1 (by decide) (fun c39 => ?_) (fun c39 => False.elim (by omega))
          refine X_aloadn hK (i := 0) 2 kd29_23.2.2.2.2.2.2.1 rfl rfl ?_
          refine X_dup hK kd29_23.2.2.2.2.2.2.2.1 rfl ?_
          refine X_getK hK fl_X7_22_8 hs_a0 ez34 kd29_23.2.2.2.2.2.2.2.2.1 ?_
          refine X_iconst hK kd29_23.2.2.2.2.2.2.2.2.2.1 ?_
          refine X_iadd hK kd29_23.2.2.2.2.2.2.2.2.2.2.1 ?_
          refine X_puti hK fl_X7_22_8 hs_a0 (by decide) sl_8_3 (by omega) (by omega) kd29_23.2.2.2.2.2.2.2.2.2.2.2 (fun g40 hg40 => ?_)
          refine X_aloadn hK (i := 0) 2 kd29_24.1 rfl rfl ?_
          refine X_dup hK kd29_24.2.1 rfl ?_
          refine X_getK hK fl_X7_18_8 hs_a0 ((xs_k hg40 (by decide)).trans ez1) kd29_24.2.2.1 ?_
          refine X_iconst hK kd29_24.2.2.2.1 ?_
          refine X_iadd hK kd29_24.2.2.2.2.1 ?_
          refine X_puti hK fl_X7_18_8 hs_a0 (by decide) sl_8_2 (by omega) (by omega) kd29_24.2.2.2.2.2.1 (fun g41 hg41 => ?_)
          refine X_iload hK (i := 4) 0 kd29_24.2.2.2.2.2.2.1 rfl ?_
          refine X_if_eq hK 109 (by omega) kd29_24.2.2.2.2.2.2.2.1 (by decide) (fun c42 => ?_) (fun c42 => False.elim (by omega))
          refine X_iloadn hK (i := 3) 1 kd29_25.2.2.2.1 rfl rfl ?_
          refine X_bipush hK kd29_25.2.2.2.2.1 (by decide) ?_
          refine X_icmp_ne hK 132 (by omega) (by omega) kd29_25.2.2.2.2.2.1 (by decide) (fun c43 => False.elim (by omega)) (fun c43 => ?_)
          refine X_aloadn hK (i := 0) 2 kd29_25.2.2.2.2.2.2.1 rfl rfl ?_
          refine X_aloadn hK (i := 1) 3 kd29_25.2.2.2.2.2.2.2.1 rfl rfl ?_
          refine X_iloadn hK (i := 2) 4 kd29_25.2.2.2.2.2.2.2.2.1 rfl rfl ?_
          refine X_iconst hK kd29_25.2.2.2.2.2.2.2.2.2.1 ?_
          refine X_iadd hK kd29_25.2.2.2.2.2.2.2.2.2.2.1 ?_
          refine X_callV hK [.ref a1, .int (iI (x2 + 1))] [] lk_X7_115 (c_X7_readCond_3 _ _ _ _ _ S g41 a0 a1 (x2 + 1) hs_a0 hs_a1 (by omega)) hs_a0 ⟨by decide, rfl⟩ kd29_25.2.2.2.2.2.2.2.2.2.2.2 rfl rfl (by simp [Value.category]) (by decide) (by decide) (by decide) (by decide) (fun r44 S46 g45 pr44 qr44 hg45 => ?_)
          obtain ⟨rfl, rfl⟩ := pr44
          refine X_st [] rfl ?_
          refine X_aloadn hK (i := 0) 2 kd29_26.1 rfl rfl ?_
          refine X_bipush hK kd29_26.2.1 (by decide) ?_
          refine X_callV hK [.int (iI 26)] [] lk_X7_119 (c_X7_expect _ _ _ _ _ S g45 a0 26 hs_a0 (by omega)) hs_a0 ⟨by decide, rfl⟩ kd29_26.2.2.1 rfl rfl (by simp [Value.category]) (by decide) (by decide) (by decide) (by decide) (fun r47 S49 g48 pr47 qr47 hg48 => ?_)
          obtain ⟨rfl, rfl⟩ := pr47
          refine X_st [] rfl ?_
          refine X_goto hK 148 kd29_26.2.2.2.1 (by decide) ?_
          exact hret _ _ _ _ _ _ kd29_27.2.2.2 ⟨rfl, rfl⟩ (Nat.le_refl _) (Nat.le_refl _)
      · refine X_aloadn hK (i := 0) 2 kd29_22.2.2.2.1 rfl rfl ?_
        refine X_iconst hK kd29_22.2.2.2.2.1 ?_
        refine X_callV hK [.int (iI 1)] [] lk_X7_60 (c_X7_tell _ _ _ _ _ S g a0 1 hs_a0 (by omega)) hs_a0 ⟨by decide, rfl⟩ kd29_22.2.2.2.2.2.1 rfl rfl (by simp [Value.category]) (by decide) (by decide) (by decide) (by decide) (fun r50 S52 g51 pr50 qr50 hg51 => ?_)
        obtain ⟨rfl, rfl⟩ := pr50
        refine X_st [] rfl ?_
        refine X_goto hK 148 kd29_22.2.2.2.2.2.2.1 (by decide) ?_
        exact hret _ _ _ _ _ _ kd29_27.2.2.2 ⟨rfl, rfl⟩ (Nat.le_refl _) (Nat.le_refl _)
    · refine X_iconst hK kd29_21.2.2.2.1 ?_
      refine X_goto hK 22 kd29_21.2.2.2.2.1 (by decide) ?_
      refine X_istore hK (i := 4) [(4, .int (iI 1)), (3, .int (iI z5)), (0, .ref a0), (1, .ref a1), (2, .int (iI x2))] kd29_21.2.2.2.2.2.2.1 (by decide) rfl ?_
      refine X_iload hK (i := 4) 0 kd29_21.2.2.2.2.2.2.2.1 rfl ?_
      refine X_if_ne hK 49 (by omega) kd29_21.2.2.2.2.2.2.2.2.1 (by decide) (fun c53 => ?_) (fun c53 => False.elim (by omega))
      refine X_aloadn hK (i := 0) 2 kd29_22.2.2.2.2.2.2.2.1 rfl rfl ?_
      refine X_geti hK fl_X7_22_8 hs_a0 sl_8_3 kd29_22.2.2.2.2.2.2.2.2.1 (fun z54 ez54 lz54 uz54 => ?_)
      refine X_bipush hK kd29_22.2.2.2.2.2.2.2.2.2.1 (by decide) ?_
      refine X_icmp_ge hK 64 (by omega) (by omega) kd29_22.2.2.2.2.2.2.2.2.2.2.1 (by decide) (fun c55 => ?_) (fun c55 => ?_)
      · refine X_aloadn hK (i := 0) 2 kd29_23.2.2.1 rfl rfl ?_
        refine X_iconst hK kd29_23.2.2.2.1 ?_
        refine X_callV hK [.int (iI 4)] [] lk_X7_60 (c_X7_tell _ _ _ _ _ S g a0 4 hs_a0 (by omega)) hs_a0 ⟨by decide, rfl⟩ kd29_23.2.2.2.2.1 rfl rfl (by simp [Value.category]) (by decide) (by decide) (by decide) (by decide) (fun r56 S58 g57 pr56 qr56 hg57 => ?_)
        obtain ⟨rfl, rfl⟩ := pr56
        refine X_st [] rfl ?_
        refine X_goto hK 148 kd29_23.2.2.2.2.2.1 (by decide) ?_
        exact hret _ _ _ _ _ _ kd29_27.2.2.2 ⟨rfl, rfl⟩ (Nat.le_refl _) (Nat.le_refl _)
      · refine X_iloadn hK (i := 2) 4 kd29_22.2.2.2.2.2.2.2.2.2.2.2 rfl rfl ?_
        refine X_bipush hK kd29_23.1 (by decide) ?_
        refine X_icmp_le hK 72 (by omega) (by omega) kd29_23.2.1 (by decide) (fun c59 => ?_) (fun c59 => False.elim (by omega))
        refine X_aloadn hK (i := 0) 2 kd29_23.2.2.2.2.2.2.1 rfl rfl ?_
        refine X_dup hK kd29_23.2.2.2.2.2.2.2.1 rfl ?_
        refine X_getK hK fl_X7_22_8 hs_a0 ez54 kd29_23.2.2.2.2.2.2.2.2.1 ?_
        refine X_iconst hK kd29_23.2.2.2.2.2.2.2.2.2.1 ?_
        refine X_iadd hK kd29_23.2.2.2.2.2.2.2.2.2.2.1 ?_
        refine X_puti hK fl_X7_22_8 hs_a0 (by decide) sl_8_3 (by omega) (by omega) kd29_23.2.2.2.2.2.2.2.2.2.2.2 (fun g60 hg60 => ?_)
        refine X_aloadn hK (i := 0) 2 kd29_24.1 rfl rfl ?_
        refine X_dup hK kd29_24.2.1 rfl ?_
        refine X_getK hK fl_X7_18_8 hs_a0 ((xs_k hg60 (by decide)).trans ez1) kd29_24.2.2.1 ?_
        refine X_iconst hK kd29_24.2.2.2.1 ?_
        refine X_iadd hK kd29_24.2.2.2.2.1 ?_
        refine X_puti hK fl_X7_18_8 hs_a0 (by decide) sl_8_2 (by omega) (by omega) kd29_24.2.2.2.2.2.1 (fun g61 hg61 => ?_)
        refine X_iload hK (i := 4) 0 kd29_24.2.2.2.2.2.2.1 rfl ?_
        refine X_if_eq hK 109 (by omega) kd29_24.2.2.2.2.2.2.2.1 (by decide) (fun c62 => False.elim (by omega)) (fun c62 => ?_)
        refine X_aloadn hK (i := 0) 2 kd29_24.2.2.2.2.2.2.2.2.1 rfl rfl ?_
        refine X_aloadn hK (i := 1) 3 kd29_24.2.2.2.2.2.2.2.2.2.1 rfl rfl ?_
        refine X_iloadn hK (i := 3) 1 kd29_24.2.2.2.2.2.2.2.2.2.2.1 rfl rfl ?_
        refine X_bipush hK kd29_24.2.2.2.2.2.2.2.2.2.2.2 (by decide) ?_
        refine X_isub hK kd29_25.1 ?_
        refine X_callV hK [.ref a1, .int (iI (z5 - 10))] [] lk_X7_135 (c_X7_readFact _ _ _ _ _ S g61 a0 a1 (z5 - 10) hs_a0 hs_a1 (by omega)) hs_a0 ⟨by decide, rfl⟩ kd29_25.2.1 rfl rfl (by simp [Value.category]) (by decide) (by decide) (by decide) (by decide) (fun r63 S65 g64 pr63 qr63 hg64 => ?_)
        obtain ⟨rfl, rfl⟩ := pr63
        refine X_st [] rfl ?_
        refine X_goto hK 148 kd29_25.2.2.1 (by decide) ?_
        exact hret _ _ _ _ _ _ kd29_27.2.2.2 ⟨rfl, rfl⟩ (Nat.le_refl _) (Nat.le_refl _)

set_option maxHeartbeats 4000000 in
set_option maxRecDepth 100000 in
theorem c_X7_readAll_2 (l : Launch) (D : va_G) (kA : Nat → ClassId) (b0 : Nat) (t0 : Nat → Nat) (S : xT) (g : xG) (a0 : Nat) (a1 : Nat) (x2 : Int) (hs_a0 : S a0 = some (8, 0)) (hs_a1 : S a1 = some (11, 0)) (hx2 : 2 ≤ x2 ∧ x2 ≤ 2) : xMt l yX7_readAll cX7_readAll 4 none 29 0 0 675 D kA b0 t0 [(8, 5), (8, 6), (8, 3), (8, 2), (14000, 0), (11, 2)] [.ref a0, .ref a1, .int (iI x2)] S g (fun (r : Option Value) (S1 : xT) (g1 : xG) => S = S1 ∧ r = none) := by
  refine xEnterV (by decide) (by simp [lg_sl, Value.category]) [(0, .ref a0), (1, .ref a1), (2, .int (iI x2))] rfl ?_
  intro K E hK hret _ _ _
  refine X_aloadn hK (i := 0) 0 kd29_0.1 rfl rfl ?_
  refine X_aloadn hK (i := 1) 1 kd29_0.2.1 rfl rfl ?_
  refine X_iloadn hK (i := 2) 2 kd29_0.2.2.1 rfl rfl ?_
  refine X_callV hK [.ref a1, .int (iI x2)] [] lk_X7_132 (c_X7_readOne_2 _ _ _ _ _ S g a0 a1 x2 hs_a0 hs_a1 (by omega)) hs_a0 ⟨by decide, rfl⟩ kd29_0.2.2.2.1 rfl rfl (by simp [Value.category]) (by decide) (by decide) (by decide) (by decide) (fun r1 S3 g2 pr1 qr1 hg2 => ?_)
  obtain ⟨rfl, rfl⟩ := pr1
  refine X_st [] rfl ?_
  refine X_iconst hK kd29_0.2.2.2.2.1 ?_
  refine X_istoren hK (i := 3) [(3, .int (iI 0)), (0, .ref a0), (1, .ref a1), (2, .int (iI x2))] kd29_0.2.2.2.2.2.1 rfl (by decide) rfl ?_
  have P117 : ∀ (nP117 : Nat) (g99 : xG) (_ : xM [(14000, 0), (11, 2), (8, 5), (8, 6), (8, 3), (8, 2)] S g2 g99) (z98 : Int) (_ : 0 ≤ z98) (_ : z98 ≤ 50) (_ : 66 - z98 < (nP117 : Int)), X K E 8 [(3, .int (iI z98)), (0, .ref a0), (1, .ref a1), (2, .int (iI x2))] [] S g99 0 0 := by
    intro nP117
    induction nP117 with
    | zero => intro g99 hg99 z98 lz98 uz98 mP117; exact False.elim (by omega)
    | succ nP117 ihP117 =>
      intro g99 hg99 z98 lz98 uz98 mP117
      refine X_iloadn hK (i := 3) 0 kd29_0.2.2.2.2.2.2.1 rfl rfl ?_
      refine X_bipush hK kd29_0.2.2.2.2.2.2.2.1 (by decide) ?_
      refine X_icmp_ge hK 60 (by omega) (by omega) kd29_0.2.2.2.2.2.2.2.2.1 (by decide) (fun c118 => ?_) (fun c118 => ?_)
      · exact hret _ _ _ _ _ _ kd29_2.2.2.2.2.2.2.2.2.2.1 ⟨rfl, rfl⟩ (Nat.le_refl _) (Nat.le_refl _)
      · refine X_aloadn hK (i := 0) 1 kd29_0.2.2.2.2.2.2.2.2.2.1 rfl rfl ?_
        refine X_geti hK fl_X7_29_8 hs_a0 sl_8_5 kd29_0.2.2.2.2.2.2.2.2.2.2.1 (fun z119 ez119 lz119 uz119 => ?_)
        refine X_if_ne hK 60 (by omega) kd29_0.2.2.2.2.2.2.2.2.2.2.2 (by decide) (fun c120 => ?_) (fun c120 => ?_)
        · exact hret _ _ _ _ _ _ kd29_2.2.2.2.2.2.2.2.2.2.1 ⟨rfl, rfl⟩ (Nat.le_refl _) (Nat.le_refl _)
        · refine X_aloadn hK (i := 0) 1 kd29_1.1 rfl rfl ?_
          refine X_know hs_a0 (by decide) sl_8_2 (fun z121 ez121 lz121 uz121 => ?_)
          refine X_callV hK [] [] lk_X7_47 (c_X7_now _ _ _ _ _ S g99 a0 z121 hs_a0 (by omega) ez121) hs_a0 ⟨by decide, rfl⟩ kd29_1.2.1 rfl rfl (by simp [Value.category]) (by decide) (by decide) (by decide) (by decide) (fun r122 S124 g123 pr122 qr122 hg123 => ?_)
          obtain ⟨rfl, rfl, z125, rfl, lz125, uz125, k126⟩ := pr122
          refine X_st [.int (iI z125)] rfl ?_
          refine X_bipush hK kd29_1.2.2.1 (by decide) ?_
          refine X_icmp_ne hK 60 (by omega) (by omega) kd29_1.2.2.2.1 (by decide) (fun c127 => ?_) (fun c127 => ?_)
          · exact hret _ _ _ _ _ _ kd29_2.2.2.2.2.2.2.2.2.2.1 ⟨rfl, rfl⟩ (Nat.le_refl _) (Nat.le_refl _)
          · refine X_aloadn hK (i := 0) 1 kd29_1.2.2.2.2.1 rfl rfl ?_
            refine X_dup hK kd29_1.2.2.2.2.2.1 rfl ?_
            refine X_getK hK fl_X7_18_8 hs_a0 ez121 kd29_1.2.2.2.2.2.2.1 ?_
            refine X_iconst hK kd29_1.2.2.2.2.2.2.2.1 ?_
            refine X_iadd hK kd29_1.2.2.2.2.2.2.2.2.1 ?_
            refine X_puti hK fl_X7_18_8 hs_a0 (by decide) sl_8_2 (by omega) (by omega) kd29_1.2.2.2.2.2.2.2.2.2.1 (fun g128 hg128 => ?_)
            refine X_aloadn hK (i := 0) 1 kd29_1.2.2.2.2.2.2.2.2.2.2.1 rfl rfl ?_
            refine X_aloadn hK (i := 1) 2 kd29_1.2.2.2.2.2.2.2.2.2.2.2 rfl rfl ?_
            refine X_iloadn hK (i := 2) 3 kd29_2.1 rfl rfl ?_
            refine X_callV hK [.ref a1, .int (iI x2)] [] lk_X7_132 (c_X7_readOne_2 _ _ _ _ _ S g128 a0 a1 x2 hs_a0 hs_a1 (by omega)) hs_a0 ⟨by decide, rfl⟩ kd29_2.2.1 rfl rfl (by simp [Value.category]) (by decide) (by decide) (by decide) (by decide) (fun r129 S131 g130 pr129 qr129 hg130 => ?_)
            obtain ⟨rfl, rfl⟩ := pr129
            refine X_st [] rfl ?_
            refine X_aloadn hK (i := 1) 2 kd29_2.2.2.1 rfl rfl ?_
            refine X_bipush hK kd29_2.2.2.2.1 (by decide) ?_
            refine X_iconst hK kd29_2.2.2.2.2.1 ?_
            refine X_iconst hK kd29_2.2.2.2.2.2.1 ?_
            refine X_callV hK [.int (iI 13), .int (iI 0), .int (iI 0)] [] lk_X7_129 (c_X10_addStep _ _ _ _ _ S g130 a1 13 0 0 hs_a1 (by omega) (by omega) (by omega)) hs_a1 ⟨by decide, rfl⟩ kd29_2.2.2.2.2.2.2.1 rfl rfl (by simp [Value.category]) (by decide) (by decide) (by decide) (by decide) (fun r132 S134 g133 pr132 qr132 hg133 => ?_)
            obtain ⟨rfl, rfl⟩ := pr132
            refine X_st [] rfl ?_
            refine X_iinc hK (i := 3) (z := z98) (n := 1) 0 [(3, .int (iI (z98 + 1))), (0, .ref a0), (1, .ref a1), (2, .int (iI x2))] kd29_2.2.2.2.2.2.2.2.1 rfl (by decide) rfl ?_
            refine X_goto hK 8 kd29_2.2.2.2.2.2.2.2.2.1 (by decide) ?_
            exact ihP117  g133 (xM.tr (xM.tr (xM_up (xM.tr xM.rf xLe.rf hg99 (by decide)) hg128 hs_a0 (by decide) (by decide)) xLe.rf hg130 (by decide)) xLe.rf hg133 (by decide)) (z98 + 1) (by omega) (by omega) (by omega)
  exact P117 ((66 - 0 : Int).toNat + 1) g2 xM.rf 0 (by omega) (by omega) (by omega)

set_option maxHeartbeats 4000000 in
set_option maxRecDepth 100000 in
theorem c_X7_readCond_2 (l : Launch) (D : va_G) (kA : Nat → ClassId) (b0 : Nat) (t0 : Nat → Nat) (S : xT) (g : xG) (a0 : Nat) (a1 : Nat) (x2 : Int) (hs_a0 : S a0 = some (8, 0)) (hs_a1 : S a1 = some (11, 0)) (hx2 : 2 ≤ x2 ∧ x2 ≤ 2) : xMt l yX7_readCond cX7_readCond 4 none 30 0 0 698 D kA b0 t0 [(8, 5), (8, 6), (8, 3), (8, 2), (14000, 0), (11, 2)] [.ref a0, .ref a1, .int (iI x2)] S g (fun (r : Option Value) (S1 : xT) (g1 : xG) => S = S1 ∧ r = none) := by
  refine xEnterV (by decide) (by simp [lg_sl, Value.category]) [(0, .ref a0), (1, .ref a1), (2, .int (iI x2))] rfl ?_
  intro K E hK hret _ _ _
  refine X_aloadn hK (i := 0) 0 kd29_2.2.2.2.2.2.2.2.2.2.2.1 rfl rfl ?_
  refine X_aloadn hK (i := 1) 1 kd29_2.2.2.2.2.2.2.2.2.2.2.2 rfl rfl ?_
  refine X_iloadn hK (i := 2) 2 kd29_3.1 rfl rfl ?_
  refine X_callV hK [.ref a1, .int (iI x2)] [] lk_X7_126 (c_X7_readAll_2 _ _ _ _ _ S g a0 a1 x2 hs_a0 hs_a1 (by omega)) hs_a0 ⟨by decide, rfl⟩ kd29_3.2.1 rfl rfl (by simp [Value.category]) (by decide) (by decide) (by decide) (by decide) (fun r1 S3 g2 pr1 qr1 hg2 => ?_)
  obtain ⟨rfl, rfl⟩ := pr1
  refine X_st [] rfl ?_
  refine X_iconst hK kd29_3.2.2.1 ?_
  refine X_istoren hK (i := 3) [(3, .int (iI 0)), (0, .ref a0), (1, .ref a1), (2, .int (iI x2))] kd29_3.2.2.2.1 rfl (by decide) rfl ?_
  have P117 : ∀ (nP117 : Nat) (g99 : xG) (_ : xM [(14000, 0), (11, 2), (8, 5), (8, 6), (8, 3), (8, 2)] S g2 g99) (z98 : Int) (_ : 0 ≤ z98) (_ : z98 ≤ 50) (_ : 66 - z98 < (nP117 : Int)), X K E 8 [(3, .int (iI z98)), (0, .ref a0), (1, .ref a1), (2, .int (iI x2))] [] S g99 0 0 := by
    intro nP117
    induction nP117 with
    | zero => intro g99 hg99 z98 lz98 uz98 mP117; exact False.elim (by omega)
    | succ nP117 ihP117 =>
      intro g99 hg99 z98 lz98 uz98 mP117
      refine X_iloadn hK (i := 3) 0 kd29_3.2.2.2.2.1 rfl rfl ?_
      refine X_bipush hK kd29_3.2.2.2.2.2.1 (by decide) ?_
      refine X_icmp_ge hK 60 (by omega) (by omega) kd29_3.2.2.2.2.2.2.1 (by decide) (fun c118 => ?_) (fun c118 => ?_)
      · exact hret _ _ _ _ _ _ kd29_5.2.2.2.2.2.2.2.1 ⟨rfl, rfl⟩ (Nat.le_refl _) (Nat.le_refl _)
      · refine X_aloadn hK (i := 0) 1 kd29_3.2.2.2.2.2.2.2.1 rfl rfl ?_
        refine X_geti hK fl_X7_29_8 hs_a0 sl_8_5 kd29_3.2.2.2.2.2.2.2.2.1 (fun z119 ez119 lz119 uz119 => ?_)
        refine X_if_ne hK 60 (by omega) kd29_3.2.2.2.2.2.2.2.2.2.1 (by decide) (fun c120 => ?_) (fun c120 => ?_)
        · exact hret _ _ _ _ _ _ kd29_5.2.2.2.2.2.2.2.1 ⟨rfl, rfl⟩ (Nat.le_refl _) (Nat.le_refl _)
        · refine X_aloadn hK (i := 0) 1 kd29_3.2.2.2.2.2.2.2.2.2.2.1 rfl rfl ?_
          refine X_know hs_a0 (by decide) sl_8_2 (fun z121 ez121 lz121 uz121 => ?_)
          refine X_callV hK [] [] lk_X7_47 (c_X7_now _ _ _ _ _ S g99 a0 z121 hs_a0 (by omega) ez121) hs_a0 ⟨by decide, rfl⟩ kd29_3.2.2.2.2.2.2.2.2.2.2.2 rfl rfl (by simp [Value.category]) (by decide) (by decide) (by decide) (by decide) (fun r122 S124 g123 pr122 qr122 hg123 => ?_)
          obtain ⟨rfl, rfl, z125, rfl, lz125, uz125, k126⟩ := pr122
          refine X_st [.int (iI z125)] rfl ?_
          refine X_bipush hK kd29_4.1 (by decide) ?_
          refine X_icmp_ne hK 60 (by omega) (by omega) kd29_4.2.1 (by decide) (fun c127 => ?_) (fun c127 => ?_)
          · exact hret _ _ _ _ _ _ kd29_5.2.2.2.2.2.2.2.1 ⟨rfl, rfl⟩ (Nat.le_refl _) (Nat.le_refl _)
          · refine X_aloadn hK (i := 0) 1 kd29_4.2.2.1 rfl rfl ?_
            refine X_dup hK kd29_4.2.2.2.1 rfl ?_
            refine X_getK hK fl_X7_18_8 hs_a0 ez121 kd29_4.2.2.2.2.1 ?_
            refine X_iconst hK kd29_4.2.2.2.2.2.1 ?_
            refine X_iadd hK kd29_4.2.2.2.2.2.2.1 ?_
            refine X_puti hK fl_X7_18_8 hs_a0 (by decide) sl_8_2 (by omega) (by omega) kd29_4.2.2.2.2.2.2.2.1 (fun g128 hg128 => ?_)
            refine X_aloadn hK (i := 0) 1 kd29_4.2.2.2.2.2.2.2.2.1 rfl rfl ?_
            refine X_aloadn hK (i := 1) 2 kd29_4.2.2.2.2.2.2.2.2.2.1 rfl rfl ?_
            refine X_iloadn hK (i := 2) 3 kd29_4.2.2.2.2.2.2.2.2.2.2.1 rfl rfl ?_
            refine X_callV hK [.ref a1, .int (iI x2)] [] lk_X7_126 (c_X7_readAll_2 _ _ _ _ _ S g128 a0 a1 x2 hs_a0 hs_a1 (by omega)) hs_a0 ⟨by decide, rfl⟩ kd29_4.2.2.2.2.2.2.2.2.2.2.2 rfl rfl (by simp [Value.category]) (by decide) (by decide) (by decide) (by decide) (fun r129 S131 g130 pr129 qr129 hg130 => ?_)
            obtain ⟨rfl, rfl⟩ := pr129
            refine X_st [] rfl ?_
            refine X_aloadn hK (i := 1) 2 kd29_5.1 rfl rfl ?_
            refine X_bipush hK kd29_5.2.1 (by decide) ?_
            refine X_iconst hK kd29_5.2.2.1 ?_
            refine X_iconst hK kd29_5.2.2.2.1 ?_
            refine X_callV hK [.int (iI 14), .int (iI 0), .int (iI 0)] [] lk_X7_129 (c_X10_addStep _ _ _ _ _ S g130 a1 14 0 0 hs_a1 (by omega) (by omega) (by omega)) hs_a1 ⟨by decide, rfl⟩ kd29_5.2.2.2.2.1 rfl rfl (by simp [Value.category]) (by decide) (by decide) (by decide) (by decide) (fun r132 S134 g133 pr132 qr132 hg133 => ?_)
            obtain ⟨rfl, rfl⟩ := pr132
            refine X_st [] rfl ?_
            refine X_iinc hK (i := 3) (z := z98) (n := 1) 0 [(3, .int (iI (z98 + 1))), (0, .ref a0), (1, .ref a1), (2, .int (iI x2))] kd29_5.2.2.2.2.2.1 rfl (by decide) rfl ?_
            refine X_goto hK 8 kd29_5.2.2.2.2.2.2.1 (by decide) ?_
            exact ihP117  g133 (xM.tr (xM.tr (xM_up (xM.tr xM.rf xLe.rf hg99 (by decide)) hg128 hs_a0 (by decide) (by decide)) xLe.rf hg130 (by decide)) xLe.rf hg133 (by decide)) (z98 + 1) (by omega) (by omega) (by omega)
  exact P117 ((66 - 0 : Int).toNat + 1) g2 xM.rf 0 (by omega) (by omega) (by omega)

set_option maxHeartbeats 4000000 in
set_option maxRecDepth 100000 in
theorem c_X7_readOne_1 (l : Launch) (D : va_G) (kA : Nat → ClassId) (b0 : Nat) (t0 : Nat → Nat) (S : xT) (g : xG) (a0 : Nat) (a1 : Nat) (x2 : Int) (hs_a0 : S a0 = some (8, 0)) (hs_a1 : S a1 = some (11, 0)) (hx2 : 1 ≤ x2 ∧ x2 ≤ 1) : xMt l yX7_readOne cX7_readOne 5 none 31 0 0 721 D kA b0 t0 [(8, 5), (8, 6), (8, 3), (8, 2), (14000, 0), (11, 2)] [.ref a0, .ref a1, .int (iI x2)] S g (fun (r : Option Value) (S1 : xT) (g1 : xG) => S = S1 ∧ r = none) := by
  refine xEnterV (by decide) (by simp [lg_sl, Value.category]) [(0, .ref a0), (1, .ref a1), (2, .int (iI x2))] rfl ?_
  intro K E hK hret _ _ _
  refine X_aloadn hK (i := 0) 0 kd29_20.2.2.2.2.2.2.1 rfl rfl ?_
  refine X_know hs_a0 (by decide) sl_8_2 (fun z1 ez1 lz1 uz1 => ?_)
  refine X_callV hK [] [] lk_X7_47 (c_X7_now _ _ _ _ _ S g a0 z1 hs_a0 (by omega) ez1) hs_a0 ⟨by decide, rfl⟩ kd29_20.2.2.2.2.2.2.2.1 rfl rfl (by simp [Value.category]) (by decide) (by decide) (by decide) (by decide) (fun r2 S4 g3 pr2 qr2 hg3 => ?_)
  obtain ⟨rfl, rfl, z5, rfl, lz5, uz5, k6⟩ := pr2
  refine X_st [.int (iI z5)] rfl ?_
  refine X_istoren hK (i := 3) [(3, .int (iI z5)), (0, .ref a0), (1, .ref a1), (2, .int (iI x2))] kd29_20.2.2.2.2.2.2.2.2.1 rfl (by decide) rfl ?_
  refine X_iloadn hK (i := 3) 0 kd29_20.2.2.2.2.2.2.2.2.2.1 rfl rfl ?_
  refine X_bipush hK kd29_20.2.2.2.2.2.2.2.2.2.2.1 (by decide) ?_
  refine X_icmp_lt hK 21 (by omega) (by omega) kd29_20.2.2.2.2.2.2.2.2.2.2.2 (by decide) (fun c7 => ?_) (fun c7 => ?_)
  · refine X_iconst hK kd29_21.2.2.2.2.2.1 ?_
    refine X_istore hK (i := 4) [(4, .int (iI 0)), (3, .int (iI z5)), (0, .ref a0), (1, .ref a1), (2, .int (iI x2))] kd29_21.2.2.2.2.2.2.1 (by decide) rfl ?_
    refine X_iload hK (i := 4) 0 kd29_21.2.2.2.2.2.2.2.1 rfl ?_
    refine X_if_ne hK 49 (by omega) kd29_21.2.2.2.2.2.2.2.2.1 (by decide) (fun c8 => False.elim (by omega)) (fun c8 => ?_)
    refine X_iloadn hK (i := 3) 1 kd29_21.2.2.2.2.2.2.2.2.2.1 rfl rfl ?_
    refine X_bipush hK kd29_21.2.2.2.2.2.2.2.2.2.2.1 (by decide) ?_
    refine X_icmp_eq hK 49 (by omega) (by omega) kd29_21.2.2.2.2.2.2.2.2.2.2.2 (by decide) (fun c9 => ?_) (fun c9 => ?_)
    · refine X_aloadn hK (i := 0) 2 kd29_22.2.2.2.2.2.2.2.1 rfl rfl ?_
      refine X_geti hK fl_X7_22_8 hs_a0 sl_8_3 kd29_22.2.2.2.2.2.2.2.2.1 (fun z10 ez10 lz10 uz10 => ?_)
      refine X_bipush hK kd29_22.2.2.2.2.2.2.2.2.2.1 (by decide) ?_
      refine X_icmp_ge hK 64 (by omega) (by omega) kd29_22.2.2.2.2.2.2.2.2.2.2.1 (by decide) (fun c11 => ?_) (fun c11 => ?_)
      · refine X_aloadn hK (i := 0) 2 kd29_23.2.2.1 rfl rfl ?_
        refine X_iconst hK kd29_23.2.2.2.1 ?_
        refine X_callV hK [.int (iI 4)] [] lk_X7_60 (c_X7_tell _ _ _ _ _ S g a0 4 hs_a0 (by omega)) hs_a0 ⟨by decide, rfl⟩ kd29_23.2.2.2.2.1 rfl rfl (by simp [Value.category]) (by decide) (by decide) (by decide) (by decide) (fun r12 S14 g13 pr12 qr12 hg13 => ?_)
        obtain ⟨rfl, rfl⟩ := pr12
        refine X_st [] rfl ?_
        refine X_goto hK 148 kd29_23.2.2.2.2.2.1 (by decide) ?_
        exact hret _ _ _ _ _ _ kd29_27.2.2.2 ⟨rfl, rfl⟩ (Nat.le_refl _) (Nat.le_refl _)
      · refine X_iloadn hK (i := 2) 4 kd29_22.2.2.2.2.2.2.2.2.2.2.2 rfl rfl ?_
        refine X_bipush hK kd29_23.1 (by decide) ?_
        refine X_icmp_le hK 72 (by omega) (by omega) kd29_23.2.1 (by decide) (fun c15 => ?_) (fun c15 => False.elim (by omega))
        refine X_aloadn hK (i := 0) 2 kd29_23.2.2.2.2.2.2.1 rfl rfl ?_
        refine X_dup hK kd29_23.2.2.2.2.2.2.2.1 rfl ?_
        refine X_getK hK fl_X7_22_8 hs_a0 ez10 kd29_23.2.2.2.2.2.2.2.2.1 ?_
        refine X_iconst hK kd29_23.2.2.2.2.2.2.2.2.2.1 ?_
        refine X_iadd hK kd29_23.2.2.2.2.2.2.2.2.2.2.1 ?_
        refine X_puti hK fl_X7_22_8 hs_a0 (by decide) sl_8_3 (by omega) (by omega) kd29_23.2.2.2.2.2.2.2.2.2.2.2 (fun g16 hg16 => ?_)
        refine X_aloadn hK (i := 0) 2 kd29_24.1 rfl rfl ?_
        refine X_dup hK kd29_24.2.1 rfl ?_
        refine X_getK hK fl_X7_18_8 hs_a0 ((xs_k hg16 (by decide)).trans ez1) kd29_24.2.2.1 ?_
        refine X_iconst hK kd29_24.2.2.2.1 ?_
        refine X_iadd hK kd29_24.2.2.2.2.1 ?_
        refine X_puti hK fl_X7_18_8 hs_a0 (by decide) sl_8_2 (by omega) (by omega) kd29_24.2.2.2.2.2.1 (fun g17 hg17 => ?_)
        refine X_iload hK (i := 4) 0 kd29_24.2.2.2.2.2.2.1 rfl ?_
        refine X_if_eq hK 109 (by omega) kd29_24.2.2.2.2.2.2.2.1 (by decide) (fun c18 => ?_) (fun c18 => False.elim (by omega))
        refine X_iloadn hK (i := 3) 1 kd29_25.2.2.2.1 rfl rfl ?_
        refine X_bipush hK kd29_25.2.2.2.2.1 (by decide) ?_
        refine X_icmp_ne hK 132 (by omega) (by omega) kd29_25.2.2.2.2.2.1 (by decide) (fun c19 => ?_) (fun c19 => False.elim (by omega))
        refine X_aloadn hK (i := 0) 2 kd29_26.2.2.2.2.1 rfl rfl ?_
        refine X_aloadn hK (i := 1) 3 kd29_26.2.2.2.2.2.1 rfl rfl ?_
        refine X_iloadn hK (i := 2) 4 kd29_26.2.2.2.2.2.2.1 rfl rfl ?_
        refine X_iconst hK kd29_26.2.2.2.2.2.2.2.1 ?_
        refine X_iadd hK kd29_26.2.2.2.2.2.2.2.2.1 ?_
        refine X_callV hK [.ref a1, .int (iI (x2 + 1))] [] lk_X7_132 (c_X7_readOne_2 _ _ _ _ _ S g17 a0 a1 (x2 + 1) hs_a0 hs_a1 (by omega)) hs_a0 ⟨by decide, rfl⟩ kd29_26.2.2.2.2.2.2.2.2.2.1 rfl rfl (by simp [Value.category]) (by decide) (by decide) (by decide) (by decide) (fun r20 S22 g21 pr20 qr20 hg21 => ?_)
        obtain ⟨rfl, rfl⟩ := pr20
        refine X_st [] rfl ?_
        refine X_aloadn hK (i := 1) 3 kd29_26.2.2.2.2.2.2.2.2.2.2.1 rfl rfl ?_
        refine X_bipush hK kd29_26.2.2.2.2.2.2.2.2.2.2.2 (by decide) ?_
        refine X_iconst hK kd29_27.1 ?_
        refine X_iconst hK kd29_27.2.1 ?_
        refine X_callV hK [.int (iI 12), .int (iI 0), .int (iI 0)] [] lk_X7_129 (c_X10_addStep _ _ _ _ _ S g21 a1 12 0 0 hs_a1 (by omega) (by omega) (by omega)) hs_a1 ⟨by decide, rfl⟩ kd29_27.2.2.1 rfl rfl (by simp [Value.category]) (by decide) (by decide) (by decide) (by decide) (fun r23 S25 g24 pr23 qr23 hg24 => ?_)
        obtain ⟨rfl, rfl⟩ := pr23
        refine X_st [] rfl ?_
        exact hret _ _ _ _ _ _ kd29_27.2.2.2 ⟨rfl, rfl⟩ (Nat.le_refl _) (Nat.le_refl _)
    · refine X_iloadn hK (i := 3) 1 kd29_22.1 rfl rfl ?_
      refine X_bipush hK kd29_22.2.1 (by decide) ?_
      refine X_icmp_eq hK 49 (by omega) (by omega) kd29_22.2.2.1 (by decide) (fun c26 => False.elim (by omega)) (fun c26 => ?_)
      refine X_aloadn hK (i := 0) 2 kd29_22.2.2.2.1 rfl rfl ?_
      refine X_iconst hK kd29_22.2.2.2.2.1 ?_
      refine X_callV hK [.int (iI 1)] [] lk_X7_60 (c_X7_tell _ _ _ _ _ S g a0 1 hs_a0 (by omega)) hs_a0 ⟨by decide, rfl⟩ kd29_22.2.2.2.2.2.1 rfl rfl (by simp [Value.category]) (by decide) (by decide) (by decide) (by decide) (fun r27 S29 g28 pr27 qr27 hg28 => ?_)
      obtain ⟨rfl, rfl⟩ := pr27
      refine X_st [] rfl ?_
      refine X_goto hK 148 kd29_22.2.2.2.2.2.2.1 (by decide) ?_
      exact hret _ _ _ _ _ _ kd29_27.2.2.2 ⟨rfl, rfl⟩ (Nat.le_refl _) (Nat.le_refl _)
  · refine X_iloadn hK (i := 3) 0 kd29_21.1 rfl rfl ?_
    refine X_bipush hK kd29_21.2.1 (by decide) ?_
    refine X_icmp_ge hK 21 (by omega) (by omega) kd29_21.2.2.1 (by decide) (fun c30 => ?_) (fun c30 => ?_)
    · refine X_iconst hK kd29_21.2.2.2.2.2.1 ?_
      refine X_istore hK (i := 4) [(4, .int (iI 0)), (3, .int (iI z5)), (0, .ref a0), (1, .ref a1), (2, .int (iI x2))] kd29_21.2.2.2.2.2.2.1 (by decide) rfl ?_
      refine X_iload hK (i := 4) 0 kd29_21.2.2.2.2.2.2.2.1 rfl ?_
      refine X_if_ne hK 49 (by omega) kd29_21.2.2.2.2.2.2.2.2.1 (by decide) (fun c31 => False.elim (by omega)) (fun c31 => ?_)
      refine X_iloadn hK (i := 3) 1 kd29_21.2.2.2.2.2.2.2.2.2.1 rfl rfl ?_
      refine X_bipush hK kd29_21.2.2.2.2.2.2.2.2.2.2.1 (by decide) ?_
      refine X_icmp_eq hK 49 (by omega) (by omega) kd29_21.2.2.2.2.2.2.2.2.2.2.2 (by decide) (fun c32 => False.elim (by omega)) (fun c32 => ?_)
      refine X_iloadn hK (i := 3) 1 kd29_22.1 rfl rfl ?_
      refine X_bipush hK kd29_22.2.1 (by decide) ?_
      refine X_icmp_eq hK 49 (by omega) (by omega) kd29_22.2.2.1 (by decide) (fun c33 => ?_) (fun c33 => ?_)
      · refine X_aloadn hK (i := 0) 2 kd29_22.2.2.2.2.2.2.2.1 rfl rfl ?_
        refine X_geti hK fl_X7_22_8 hs_a0 sl_8_3 kd29_22.2.2.2.2.2.2.2.2.1 (fun z34 ez34 lz34 uz34 => ?_)
        refine X_bipush hK kd29_22.2.2.2.2.2.2.2.2.2.1 (by decide) ?_
        refine X_icmp_ge hK 64 (by omega) (by omega) kd29_22.2.2.2.2.2.2.2.2.2.2.1 (by decide) (fun c35 => ?_) (fun c35 => ?_)
        · refine X_aloadn hK (i := 0) 2 kd29_23.2.2.1 rfl rfl ?_
          refine X_iconst hK kd29_23.2.2.2.1 ?_
          refine X_callV hK [.int (iI 4)] [] lk_X7_60 (c_X7_tell _ _ _ _ _ S g a0 4 hs_a0 (by omega)) hs_a0 ⟨by decide, rfl⟩ kd29_23.2.2.2.2.1 rfl rfl (by simp [Value.category]) (by decide) (by decide) (by decide) (by decide) (fun r36 S38 g37 pr36 qr36 hg37 => ?_)
          obtain ⟨rfl, rfl⟩ := pr36
          refine X_st [] rfl ?_
          refine X_goto hK 148 kd29_23.2.2.2.2.2.1 (by decide) ?_
          exact hret _ _ _ _ _ _ kd29_27.2.2.2 ⟨rfl, rfl⟩ (Nat.le_refl _) (Nat.le_refl _)
        · refine X_iloadn hK (i := 2) 4 kd29_22.2.2.2.2.2.2.2.2.2.2.2 rfl rfl ?_
          refine X_bipush hK kd29_23.1 (by decide) ?_
          refine X_icmp_le hK 72 (by omega) (by omega) kd29_23.2.1 (by decide) (fun c39 => ?_) (fun c39 => False.elim (by omega))
          refine X_aloadn hK (i := 0) 2 kd29_23.2.2.2.2.2.2.1 rfl rfl ?_
          refine X_dup hK kd29_23.2.2.2.2.2.2.2.1 rfl ?_
          refine X_getK hK fl_X7_22_8 hs_a0 ez34 kd29_23.2.2.2.2.2.2.2.2.1 ?_
          refine X_iconst hK kd29_23.2.2.2.2.2.2.2.2.2.1 ?_
          refine X_iadd hK kd29_23.2.2.2.2.2.2.2.2.2.2.1 ?_
          refine X_puti hK fl_X7_22_8 hs_a0 (by decide) sl_8_3 (by omega) (by omega) kd29_23.2.2.2.2.2.2.2.2.2.2.2 (fun g40 hg40 => ?_)
          refine X_aloadn hK (i := 0) 2 kd29_24.1 rfl rfl ?_
          refine X_dup hK kd29_24.2.1 rfl ?_
          refine X_getK hK fl_X7_18_8 hs_a0 ((xs_k hg40 (by decide)).trans ez1) kd29_24.2.2.1 ?_
          refine X_iconst hK kd29_24.2.2.2.1 ?_
          refine X_iadd hK kd29_24.2.2.2.2.1 ?_
          refine X_puti hK fl_X7_18_8 hs_a0 (by decide) sl_8_2 (by omega) (by omega) kd29_24.2.2.2.2.2.1 (fun g41 hg41 => ?_)
          refine X_iload hK (i := 4) 0 kd29_24.2.2.2.2.2.2.1 rfl ?_
          refine X_if_eq hK 109 (by omega) kd29_24.2.2.2.2.2.2.2.1 (by decide) (fun c42 => ?_) (fun c42 => False.elim (by omega))
          refine X_iloadn hK (i := 3) 1 kd29_25.2.2.2.1 rfl rfl ?_
          refine X_bipush hK kd29_25.2.2.2.2.1 (by decide) ?_
          refine X_icmp_ne hK 132 (by omega) (by omega) kd29_25.2.2.2.2.2.1 (by decide) (fun c43 => False.elim (by omega)) (fun c43 => ?_)
          refine X_aloadn hK (i := 0) 2 kd29_25.2.2.2.2.2.2.1 rfl rfl ?_
          refine X_aloadn hK (i := 1) 3 kd29_25.2.2.2.2.2.2.2.1 rfl rfl ?_
          refine X_iloadn hK (i := 2) 4 kd29_25.2.2.2.2.2.2.2.2.1 rfl rfl ?_
          refine X_iconst hK kd29_25.2.2.2.2.2.2.2.2.2.1 ?_
          refine X_iadd hK kd29_25.2.2.2.2.2.2.2.2.2.2.1 ?_
          refine X_callV hK [.ref a1, .int (iI (x2 + 1))] [] lk_X7_115 (c_X7_readCond_2 _ _ _ _ _ S g41 a0 a1 (x2 + 1) hs_a0 hs_a1 (by omega)) hs_a0 ⟨by decide, rfl⟩ kd29_25.2.2.2.2.2.2.2.2.2.2.2 rfl rfl (by simp [Value.category]) (by decide) (by decide) (by decide) (by decide) (fun r44 S46 g45 pr44 qr44 hg45 => ?_)
          obtain ⟨rfl, rfl⟩ := pr44
          refine X_st [] rfl ?_
          refine X_aloadn hK (i := 0) 2 kd29_26.1 rfl rfl ?_
          refine X_bipush hK kd29_26.2.1 (by decide) ?_
          refine X_callV hK [.int (iI 26)] [] lk_X7_119 (c_X7_expect _ _ _ _ _ S g45 a0 26 hs_a0 (by omega)) hs_a0 ⟨by decide, rfl⟩ kd29_26.2.2.1 rfl rfl (by simp [Value.category]) (by decide) (by decide) (by decide) (by decide) (fun r47 S49 g48 pr47 qr47 hg48 => ?_)
          obtain ⟨rfl, rfl⟩ := pr47
          refine X_st [] rfl ?_
          refine X_goto hK 148 kd29_26.2.2.2.1 (by decide) ?_
          exact hret _ _ _ _ _ _ kd29_27.2.2.2 ⟨rfl, rfl⟩ (Nat.le_refl _) (Nat.le_refl _)
      · refine X_aloadn hK (i := 0) 2 kd29_22.2.2.2.1 rfl rfl ?_
        refine X_iconst hK kd29_22.2.2.2.2.1 ?_
        refine X_callV hK [.int (iI 1)] [] lk_X7_60 (c_X7_tell _ _ _ _ _ S g a0 1 hs_a0 (by omega)) hs_a0 ⟨by decide, rfl⟩ kd29_22.2.2.2.2.2.1 rfl rfl (by simp [Value.category]) (by decide) (by decide) (by decide) (by decide) (fun r50 S52 g51 pr50 qr50 hg51 => ?_)
        obtain ⟨rfl, rfl⟩ := pr50
        refine X_st [] rfl ?_
        refine X_goto hK 148 kd29_22.2.2.2.2.2.2.1 (by decide) ?_
        exact hret _ _ _ _ _ _ kd29_27.2.2.2 ⟨rfl, rfl⟩ (Nat.le_refl _) (Nat.le_refl _)
    · refine X_iconst hK kd29_21.2.2.2.1 ?_
      refine X_goto hK 22 kd29_21.2.2.2.2.1 (by decide) ?_
      refine X_istore hK (i := 4) [(4, .int (iI 1)), (3, .int (iI z5)), (0, .ref a0), (1, .ref a1), (2, .int (iI x2))] kd29_21.2.2.2.2.2.2.1 (by decide) rfl ?_
      refine X_iload hK (i := 4) 0 kd29_21.2.2.2.2.2.2.2.1 rfl ?_
      refine X_if_ne hK 49 (by omega) kd29_21.2.2.2.2.2.2.2.2.1 (by decide) (fun c53 => ?_) (fun c53 => False.elim (by omega))
      refine X_aloadn hK (i := 0) 2 kd29_22.2.2.2.2.2.2.2.1 rfl rfl ?_
      refine X_geti hK fl_X7_22_8 hs_a0 sl_8_3 kd29_22.2.2.2.2.2.2.2.2.1 (fun z54 ez54 lz54 uz54 => ?_)
      refine X_bipush hK kd29_22.2.2.2.2.2.2.2.2.2.1 (by decide) ?_
      refine X_icmp_ge hK 64 (by omega) (by omega) kd29_22.2.2.2.2.2.2.2.2.2.2.1 (by decide) (fun c55 => ?_) (fun c55 => ?_)
      · refine X_aloadn hK (i := 0) 2 kd29_23.2.2.1 rfl rfl ?_
        refine X_iconst hK kd29_23.2.2.2.1 ?_
        refine X_callV hK [.int (iI 4)] [] lk_X7_60 (c_X7_tell _ _ _ _ _ S g a0 4 hs_a0 (by omega)) hs_a0 ⟨by decide, rfl⟩ kd29_23.2.2.2.2.1 rfl rfl (by simp [Value.category]) (by decide) (by decide) (by decide) (by decide) (fun r56 S58 g57 pr56 qr56 hg57 => ?_)
        obtain ⟨rfl, rfl⟩ := pr56
        refine X_st [] rfl ?_
        refine X_goto hK 148 kd29_23.2.2.2.2.2.1 (by decide) ?_
        exact hret _ _ _ _ _ _ kd29_27.2.2.2 ⟨rfl, rfl⟩ (Nat.le_refl _) (Nat.le_refl _)
      · refine X_iloadn hK (i := 2) 4 kd29_22.2.2.2.2.2.2.2.2.2.2.2 rfl rfl ?_
        refine X_bipush hK kd29_23.1 (by decide) ?_
        refine X_icmp_le hK 72 (by omega) (by omega) kd29_23.2.1 (by decide) (fun c59 => ?_) (fun c59 => False.elim (by omega))
        refine X_aloadn hK (i := 0) 2 kd29_23.2.2.2.2.2.2.1 rfl rfl ?_
        refine X_dup hK kd29_23.2.2.2.2.2.2.2.1 rfl ?_
        refine X_getK hK fl_X7_22_8 hs_a0 ez54 kd29_23.2.2.2.2.2.2.2.2.1 ?_
        refine X_iconst hK kd29_23.2.2.2.2.2.2.2.2.2.1 ?_
        refine X_iadd hK kd29_23.2.2.2.2.2.2.2.2.2.2.1 ?_
        refine X_puti hK fl_X7_22_8 hs_a0 (by decide) sl_8_3 (by omega) (by omega) kd29_23.2.2.2.2.2.2.2.2.2.2.2 (fun g60 hg60 => ?_)
        refine X_aloadn hK (i := 0) 2 kd29_24.1 rfl rfl ?_
        refine X_dup hK kd29_24.2.1 rfl ?_
        refine X_getK hK fl_X7_18_8 hs_a0 ((xs_k hg60 (by decide)).trans ez1) kd29_24.2.2.1 ?_
        refine X_iconst hK kd29_24.2.2.2.1 ?_
        refine X_iadd hK kd29_24.2.2.2.2.1 ?_
        refine X_puti hK fl_X7_18_8 hs_a0 (by decide) sl_8_2 (by omega) (by omega) kd29_24.2.2.2.2.2.1 (fun g61 hg61 => ?_)
        refine X_iload hK (i := 4) 0 kd29_24.2.2.2.2.2.2.1 rfl ?_
        refine X_if_eq hK 109 (by omega) kd29_24.2.2.2.2.2.2.2.1 (by decide) (fun c62 => False.elim (by omega)) (fun c62 => ?_)
        refine X_aloadn hK (i := 0) 2 kd29_24.2.2.2.2.2.2.2.2.1 rfl rfl ?_
        refine X_aloadn hK (i := 1) 3 kd29_24.2.2.2.2.2.2.2.2.2.1 rfl rfl ?_
        refine X_iloadn hK (i := 3) 1 kd29_24.2.2.2.2.2.2.2.2.2.2.1 rfl rfl ?_
        refine X_bipush hK kd29_24.2.2.2.2.2.2.2.2.2.2.2 (by decide) ?_
        refine X_isub hK kd29_25.1 ?_
        refine X_callV hK [.ref a1, .int (iI (z5 - 10))] [] lk_X7_135 (c_X7_readFact _ _ _ _ _ S g61 a0 a1 (z5 - 10) hs_a0 hs_a1 (by omega)) hs_a0 ⟨by decide, rfl⟩ kd29_25.2.1 rfl rfl (by simp [Value.category]) (by decide) (by decide) (by decide) (by decide) (fun r63 S65 g64 pr63 qr63 hg64 => ?_)
        obtain ⟨rfl, rfl⟩ := pr63
        refine X_st [] rfl ?_
        refine X_goto hK 148 kd29_25.2.2.1 (by decide) ?_
        exact hret _ _ _ _ _ _ kd29_27.2.2.2 ⟨rfl, rfl⟩ (Nat.le_refl _) (Nat.le_refl _)

set_option maxHeartbeats 4000000 in
set_option maxRecDepth 100000 in
theorem c_X7_readAll_1 (l : Launch) (D : va_G) (kA : Nat → ClassId) (b0 : Nat) (t0 : Nat → Nat) (S : xT) (g : xG) (a0 : Nat) (a1 : Nat) (x2 : Int) (hs_a0 : S a0 = some (8, 0)) (hs_a1 : S a1 = some (11, 0)) (hx2 : 1 ≤ x2 ∧ x2 ≤ 1) : xMt l yX7_readAll cX7_readAll 4 none 32 0 0 745 D kA b0 t0 [(8, 5), (8, 6), (8, 3), (8, 2), (14000, 0), (11, 2)] [.ref a0, .ref a1, .int (iI x2)] S g (fun (r : Option Value) (S1 : xT) (g1 : xG) => S = S1 ∧ r = none) := by
  refine xEnterV (by decide) (by simp [lg_sl, Value.category]) [(0, .ref a0), (1, .ref a1), (2, .int (iI x2))] rfl ?_
  intro K E hK hret _ _ _
  refine X_aloadn hK (i := 0) 0 kd29_0.1 rfl rfl ?_
  refine X_aloadn hK (i := 1) 1 kd29_0.2.1 rfl rfl ?_
  refine X_iloadn hK (i := 2) 2 kd29_0.2.2.1 rfl rfl ?_
  refine X_callV hK [.ref a1, .int (iI x2)] [] lk_X7_132 (c_X7_readOne_1 _ _ _ _ _ S g a0 a1 x2 hs_a0 hs_a1 (by omega)) hs_a0 ⟨by decide, rfl⟩ kd29_0.2.2.2.1 rfl rfl (by simp [Value.category]) (by decide) (by decide) (by decide) (by decide) (fun r1 S3 g2 pr1 qr1 hg2 => ?_)
  obtain ⟨rfl, rfl⟩ := pr1
  refine X_st [] rfl ?_
  refine X_iconst hK kd29_0.2.2.2.2.1 ?_
  refine X_istoren hK (i := 3) [(3, .int (iI 0)), (0, .ref a0), (1, .ref a1), (2, .int (iI x2))] kd29_0.2.2.2.2.2.1 rfl (by decide) rfl ?_
  have P117 : ∀ (nP117 : Nat) (g99 : xG) (_ : xM [(14000, 0), (11, 2), (8, 5), (8, 6), (8, 3), (8, 2)] S g2 g99) (z98 : Int) (_ : 0 ≤ z98) (_ : z98 ≤ 50) (_ : 66 - z98 < (nP117 : Int)), X K E 8 [(3, .int (iI z98)), (0, .ref a0), (1, .ref a1), (2, .int (iI x2))] [] S g99 0 0 := by
    intro nP117
    induction nP117 with
    | zero => intro g99 hg99 z98 lz98 uz98 mP117; exact False.elim (by omega)
    | succ nP117 ihP117 =>
      intro g99 hg99 z98 lz98 uz98 mP117
      refine X_iloadn hK (i := 3) 0 kd29_0.2.2.2.2.2.2.1 rfl rfl ?_
      refine X_bipush hK kd29_0.2.2.2.2.2.2.2.1 (by decide) ?_
      refine X_icmp_ge hK 60 (by omega) (by omega) kd29_0.2.2.2.2.2.2.2.2.1 (by decide) (fun c118 => ?_) (fun c118 => ?_)
      · exact hret _ _ _ _ _ _ kd29_2.2.2.2.2.2.2.2.2.2.1 ⟨rfl, rfl⟩ (Nat.le_refl _) (Nat.le_refl _)
      · refine X_aloadn hK (i := 0) 1 kd29_0.2.2.2.2.2.2.2.2.2.1 rfl rfl ?_
        refine X_geti hK fl_X7_29_8 hs_a0 sl_8_5 kd29_0.2.2.2.2.2.2.2.2.2.2.1 (fun z119 ez119 lz119 uz119 => ?_)
        refine X_if_ne hK 60 (by omega) kd29_0.2.2.2.2.2.2.2.2.2.2.2 (by decide) (fun c120 => ?_) (fun c120 => ?_)
        · exact hret _ _ _ _ _ _ kd29_2.2.2.2.2.2.2.2.2.2.1 ⟨rfl, rfl⟩ (Nat.le_refl _) (Nat.le_refl _)
        · refine X_aloadn hK (i := 0) 1 kd29_1.1 rfl rfl ?_
          refine X_know hs_a0 (by decide) sl_8_2 (fun z121 ez121 lz121 uz121 => ?_)
          refine X_callV hK [] [] lk_X7_47 (c_X7_now _ _ _ _ _ S g99 a0 z121 hs_a0 (by omega) ez121) hs_a0 ⟨by decide, rfl⟩ kd29_1.2.1 rfl rfl (by simp [Value.category]) (by decide) (by decide) (by decide) (by decide) (fun r122 S124 g123 pr122 qr122 hg123 => ?_)
          obtain ⟨rfl, rfl, z125, rfl, lz125, uz125, k126⟩ := pr122
          refine X_st [.int (iI z125)] rfl ?_
          refine X_bipush hK kd29_1.2.2.1 (by decide) ?_
          refine X_icmp_ne hK 60 (by omega) (by omega) kd29_1.2.2.2.1 (by decide) (fun c127 => ?_) (fun c127 => ?_)
          · exact hret _ _ _ _ _ _ kd29_2.2.2.2.2.2.2.2.2.2.1 ⟨rfl, rfl⟩ (Nat.le_refl _) (Nat.le_refl _)
          · refine X_aloadn hK (i := 0) 1 kd29_1.2.2.2.2.1 rfl rfl ?_
            refine X_dup hK kd29_1.2.2.2.2.2.1 rfl ?_
            refine X_getK hK fl_X7_18_8 hs_a0 ez121 kd29_1.2.2.2.2.2.2.1 ?_
            refine X_iconst hK kd29_1.2.2.2.2.2.2.2.1 ?_
            refine X_iadd hK kd29_1.2.2.2.2.2.2.2.2.1 ?_
            refine X_puti hK fl_X7_18_8 hs_a0 (by decide) sl_8_2 (by omega) (by omega) kd29_1.2.2.2.2.2.2.2.2.2.1 (fun g128 hg128 => ?_)
            refine X_aloadn hK (i := 0) 1 kd29_1.2.2.2.2.2.2.2.2.2.2.1 rfl rfl ?_
            refine X_aloadn hK (i := 1) 2 kd29_1.2.2.2.2.2.2.2.2.2.2.2 rfl rfl ?_
            refine X_iloadn hK (i := 2) 3 kd29_2.1 rfl rfl ?_
            refine X_callV hK [.ref a1, .int (iI x2)] [] lk_X7_132 (c_X7_readOne_1 _ _ _ _ _ S g128 a0 a1 x2 hs_a0 hs_a1 (by omega)) hs_a0 ⟨by decide, rfl⟩ kd29_2.2.1 rfl rfl (by simp [Value.category]) (by decide) (by decide) (by decide) (by decide) (fun r129 S131 g130 pr129 qr129 hg130 => ?_)
            obtain ⟨rfl, rfl⟩ := pr129
            refine X_st [] rfl ?_
            refine X_aloadn hK (i := 1) 2 kd29_2.2.2.1 rfl rfl ?_
            refine X_bipush hK kd29_2.2.2.2.1 (by decide) ?_
            refine X_iconst hK kd29_2.2.2.2.2.1 ?_
            refine X_iconst hK kd29_2.2.2.2.2.2.1 ?_
            refine X_callV hK [.int (iI 13), .int (iI 0), .int (iI 0)] [] lk_X7_129 (c_X10_addStep _ _ _ _ _ S g130 a1 13 0 0 hs_a1 (by omega) (by omega) (by omega)) hs_a1 ⟨by decide, rfl⟩ kd29_2.2.2.2.2.2.2.1 rfl rfl (by simp [Value.category]) (by decide) (by decide) (by decide) (by decide) (fun r132 S134 g133 pr132 qr132 hg133 => ?_)
            obtain ⟨rfl, rfl⟩ := pr132
            refine X_st [] rfl ?_
            refine X_iinc hK (i := 3) (z := z98) (n := 1) 0 [(3, .int (iI (z98 + 1))), (0, .ref a0), (1, .ref a1), (2, .int (iI x2))] kd29_2.2.2.2.2.2.2.2.1 rfl (by decide) rfl ?_
            refine X_goto hK 8 kd29_2.2.2.2.2.2.2.2.2.1 (by decide) ?_
            exact ihP117  g133 (xM.tr (xM.tr (xM_up (xM.tr xM.rf xLe.rf hg99 (by decide)) hg128 hs_a0 (by decide) (by decide)) xLe.rf hg130 (by decide)) xLe.rf hg133 (by decide)) (z98 + 1) (by omega) (by omega) (by omega)
  exact P117 ((66 - 0 : Int).toNat + 1) g2 xM.rf 0 (by omega) (by omega) (by omega)

set_option maxHeartbeats 4000000 in
set_option maxRecDepth 100000 in
theorem c_X7_readCond_1 (l : Launch) (D : va_G) (kA : Nat → ClassId) (b0 : Nat) (t0 : Nat → Nat) (S : xT) (g : xG) (a0 : Nat) (a1 : Nat) (x2 : Int) (hs_a0 : S a0 = some (8, 0)) (hs_a1 : S a1 = some (11, 0)) (hx2 : 1 ≤ x2 ∧ x2 ≤ 1) : xMt l yX7_readCond cX7_readCond 4 none 33 0 0 768 D kA b0 t0 [(8, 5), (8, 6), (8, 3), (8, 2), (14000, 0), (11, 2)] [.ref a0, .ref a1, .int (iI x2)] S g (fun (r : Option Value) (S1 : xT) (g1 : xG) => S = S1 ∧ r = none) := by
  refine xEnterV (by decide) (by simp [lg_sl, Value.category]) [(0, .ref a0), (1, .ref a1), (2, .int (iI x2))] rfl ?_
  intro K E hK hret _ _ _
  refine X_aloadn hK (i := 0) 0 kd29_2.2.2.2.2.2.2.2.2.2.2.1 rfl rfl ?_
  refine X_aloadn hK (i := 1) 1 kd29_2.2.2.2.2.2.2.2.2.2.2.2 rfl rfl ?_
  refine X_iloadn hK (i := 2) 2 kd29_3.1 rfl rfl ?_
  refine X_callV hK [.ref a1, .int (iI x2)] [] lk_X7_126 (c_X7_readAll_1 _ _ _ _ _ S g a0 a1 x2 hs_a0 hs_a1 (by omega)) hs_a0 ⟨by decide, rfl⟩ kd29_3.2.1 rfl rfl (by simp [Value.category]) (by decide) (by decide) (by decide) (by decide) (fun r1 S3 g2 pr1 qr1 hg2 => ?_)
  obtain ⟨rfl, rfl⟩ := pr1
  refine X_st [] rfl ?_
  refine X_iconst hK kd29_3.2.2.1 ?_
  refine X_istoren hK (i := 3) [(3, .int (iI 0)), (0, .ref a0), (1, .ref a1), (2, .int (iI x2))] kd29_3.2.2.2.1 rfl (by decide) rfl ?_
  have P117 : ∀ (nP117 : Nat) (g99 : xG) (_ : xM [(14000, 0), (11, 2), (8, 5), (8, 6), (8, 3), (8, 2)] S g2 g99) (z98 : Int) (_ : 0 ≤ z98) (_ : z98 ≤ 50) (_ : 66 - z98 < (nP117 : Int)), X K E 8 [(3, .int (iI z98)), (0, .ref a0), (1, .ref a1), (2, .int (iI x2))] [] S g99 0 0 := by
    intro nP117
    induction nP117 with
    | zero => intro g99 hg99 z98 lz98 uz98 mP117; exact False.elim (by omega)
    | succ nP117 ihP117 =>
      intro g99 hg99 z98 lz98 uz98 mP117
      refine X_iloadn hK (i := 3) 0 kd29_3.2.2.2.2.1 rfl rfl ?_
      refine X_bipush hK kd29_3.2.2.2.2.2.1 (by decide) ?_
      refine X_icmp_ge hK 60 (by omega) (by omega) kd29_3.2.2.2.2.2.2.1 (by decide) (fun c118 => ?_) (fun c118 => ?_)
      · exact hret _ _ _ _ _ _ kd29_5.2.2.2.2.2.2.2.1 ⟨rfl, rfl⟩ (Nat.le_refl _) (Nat.le_refl _)
      · refine X_aloadn hK (i := 0) 1 kd29_3.2.2.2.2.2.2.2.1 rfl rfl ?_
        refine X_geti hK fl_X7_29_8 hs_a0 sl_8_5 kd29_3.2.2.2.2.2.2.2.2.1 (fun z119 ez119 lz119 uz119 => ?_)
        refine X_if_ne hK 60 (by omega) kd29_3.2.2.2.2.2.2.2.2.2.1 (by decide) (fun c120 => ?_) (fun c120 => ?_)
        · exact hret _ _ _ _ _ _ kd29_5.2.2.2.2.2.2.2.1 ⟨rfl, rfl⟩ (Nat.le_refl _) (Nat.le_refl _)
        · refine X_aloadn hK (i := 0) 1 kd29_3.2.2.2.2.2.2.2.2.2.2.1 rfl rfl ?_
          refine X_know hs_a0 (by decide) sl_8_2 (fun z121 ez121 lz121 uz121 => ?_)
          refine X_callV hK [] [] lk_X7_47 (c_X7_now _ _ _ _ _ S g99 a0 z121 hs_a0 (by omega) ez121) hs_a0 ⟨by decide, rfl⟩ kd29_3.2.2.2.2.2.2.2.2.2.2.2 rfl rfl (by simp [Value.category]) (by decide) (by decide) (by decide) (by decide) (fun r122 S124 g123 pr122 qr122 hg123 => ?_)
          obtain ⟨rfl, rfl, z125, rfl, lz125, uz125, k126⟩ := pr122
          refine X_st [.int (iI z125)] rfl ?_
          refine X_bipush hK kd29_4.1 (by decide) ?_
          refine X_icmp_ne hK 60 (by omega) (by omega) kd29_4.2.1 (by decide) (fun c127 => ?_) (fun c127 => ?_)
          · exact hret _ _ _ _ _ _ kd29_5.2.2.2.2.2.2.2.1 ⟨rfl, rfl⟩ (Nat.le_refl _) (Nat.le_refl _)
          · refine X_aloadn hK (i := 0) 1 kd29_4.2.2.1 rfl rfl ?_
            refine X_dup hK kd29_4.2.2.2.1 rfl ?_
            refine X_getK hK fl_X7_18_8 hs_a0 ez121 kd29_4.2.2.2.2.1 ?_
            refine X_iconst hK kd29_4.2.2.2.2.2.1 ?_
            refine X_iadd hK kd29_4.2.2.2.2.2.2.1 ?_
            refine X_puti hK fl_X7_18_8 hs_a0 (by decide) sl_8_2 (by omega) (by omega) kd29_4.2.2.2.2.2.2.2.1 (fun g128 hg128 => ?_)
            refine X_aloadn hK (i := 0) 1 kd29_4.2.2.2.2.2.2.2.2.1 rfl rfl ?_
            refine X_aloadn hK (i := 1) 2 kd29_4.2.2.2.2.2.2.2.2.2.1 rfl rfl ?_
            refine X_iloadn hK (i := 2) 3 kd29_4.2.2.2.2.2.2.2.2.2.2.1 rfl rfl ?_
            refine X_callV hK [.ref a1, .int (iI x2)] [] lk_X7_126 (c_X7_readAll_1 _ _ _ _ _ S g128 a0 a1 x2 hs_a0 hs_a1 (by omega)) hs_a0 ⟨by decide, rfl⟩ kd29_4.2.2.2.2.2.2.2.2.2.2.2 rfl rfl (by simp [Value.category]) (by decide) (by decide) (by decide) (by decide) (fun r129 S131 g130 pr129 qr129 hg130 => ?_)
            obtain ⟨rfl, rfl⟩ := pr129
            refine X_st [] rfl ?_
            refine X_aloadn hK (i := 1) 2 kd29_5.1 rfl rfl ?_
            refine X_bipush hK kd29_5.2.1 (by decide) ?_
            refine X_iconst hK kd29_5.2.2.1 ?_
            refine X_iconst hK kd29_5.2.2.2.1 ?_
            refine X_callV hK [.int (iI 14), .int (iI 0), .int (iI 0)] [] lk_X7_129 (c_X10_addStep _ _ _ _ _ S g130 a1 14 0 0 hs_a1 (by omega) (by omega) (by omega)) hs_a1 ⟨by decide, rfl⟩ kd29_5.2.2.2.2.1 rfl rfl (by simp [Value.category]) (by decide) (by decide) (by decide) (by decide) (fun r132 S134 g133 pr132 qr132 hg133 => ?_)
            obtain ⟨rfl, rfl⟩ := pr132
            refine X_st [] rfl ?_
            refine X_iinc hK (i := 3) (z := z98) (n := 1) 0 [(3, .int (iI (z98 + 1))), (0, .ref a0), (1, .ref a1), (2, .int (iI x2))] kd29_5.2.2.2.2.2.1 rfl (by decide) rfl ?_
            refine X_goto hK 8 kd29_5.2.2.2.2.2.2.1 (by decide) ?_
            exact ihP117  g133 (xM.tr (xM.tr (xM_up (xM.tr xM.rf xLe.rf hg99 (by decide)) hg128 hs_a0 (by decide) (by decide)) xLe.rf hg130 (by decide)) xLe.rf hg133 (by decide)) (z98 + 1) (by omega) (by omega) (by omega)
  exact P117 ((66 - 0 : Int).toNat + 1) g2 xM.rf 0 (by omega) (by omega) (by omega)

set_option maxHeartbeats 4000000 in
set_option maxRecDepth 100000 in
theorem c_X7_readLine (l : Launch) (D : va_G) (kA : Nat → ClassId) (b0 : Nat) (t0 : Nat → Nat) (S : xT) (g : xG) (a0 : Nat) (a1 : Nat) (hs_a0 : S a0 = some (8, 0)) (hs_a1 : S a1 = some (11, 0)) : xMt l yX7_readLine cX7_readLine 5 none 34 0 0 791 D kA b0 t0 [(8, 5), (8, 6), (8, 2), (8, 3), (14000, 0), (11, 2), (8, 4), (13600, 0), (13700, 0), (13800, 0), (13900, 0), (11, 1)] [.ref a0, .ref a1] S g (fun (r : Option Value) (S1 : xT) (g1 : xG) => S = S1 ∧ r = none) := by
  refine xEnterV (by decide) (by simp [lg_sl, Value.category]) [(0, .ref a0), (1, .ref a1)] rfl ?_
  intro K E hK hret _ _ _
  refine X_aloadn hK (i := 0) 0 kd29_10.2.1 rfl rfl ?_
  refine X_know hs_a0 (by decide) sl_8_2 (fun z1 ez1 lz1 uz1 => ?_)
  refine X_callV hK [] [] lk_X7_47 (c_X7_now _ _ _ _ _ S g a0 z1 hs_a0 (by omega) ez1) hs_a0 ⟨by decide, rfl⟩ kd29_10.2.2.1 rfl rfl (by simp [Value.category]) (by decide) (by decide) (by decide) (by decide) (fun r2 S4 g3 pr2 qr2 hg3 => ?_)
  obtain ⟨rfl, rfl, z5, rfl, lz5, uz5, k6⟩ := pr2
  refine X_st [.int (iI z5)] rfl ?_
  refine X_istoren hK (i := 2) [(2, .int (iI z5)), (0, .ref a0), (1, .ref a1)] kd29_10.2.2.2.1 rfl (by decide) rfl ?_
  refine X_iloadn hK (i := 2) 0 kd29_10.2.2.2.2.1 rfl rfl ?_
  refine X_bipush hK kd29_10.2.2.2.2.2.1 (by decide) ?_
  refine X_icmp_lt hK 19 (by omega) (by omega) kd29_10.2.2.2.2.2.2.1 (by decide) (fun c7 => ?_) (fun c7 => ?_)
  · refine X_aloadn hK (i := 1) 2 kd29_10.2.2.2.2.2.2.2.2.2.2.2 rfl rfl ?_
    refine X_geti hK fl_X7_39_11 hs_a1 sl_11_1 kd29_11.1 (fun z8 ez8 lz8 uz8 => ?_)
    refine X_bipush hK kd29_11.2.1 (by decide) ?_
    refine X_icmp_ge hK 40 (by omega) (by omega) kd29_11.2.2.1 (by decide) (fun c9 => ?_) (fun c9 => ?_)
    · refine X_aloadn hK (i := 0) 1 kd29_11.2.2.2.2.2.2.2.2.2.1 rfl rfl ?_
      refine X_iconst hK kd29_11.2.2.2.2.2.2.2.2.2.2.1 ?_
      refine X_callV hK [.int (iI 3)] [] lk_X7_60 (c_X7_tell _ _ _ _ _ S g a0 3 hs_a0 (by omega)) hs_a0 ⟨by decide, rfl⟩ kd29_11.2.2.2.2.2.2.2.2.2.2.2 rfl rfl (by simp [Value.category]) (by decide) (by decide) (by decide) (by decide) (fun r10 S12 g11 pr10 qr10 hg11 => ?_)
      obtain ⟨rfl, rfl⟩ := pr10
      refine X_st [] rfl ?_
      refine X_goto hK 160 kd29_12.1 (by decide) ?_
      exact hret _ _ _ _ _ _ kd29_17.2.1 ⟨rfl, rfl⟩ (Nat.le_refl _) (Nat.le_refl _)
    · refine X_iloadn hK (i := 2) 0 kd29_11.2.2.2.1 rfl rfl ?_
      refine X_iconst hK kd29_11.2.2.2.2.1 ?_
      refine X_icmp_ne hK 48 (by omega) (by omega) kd29_11.2.2.2.2.2.1 (by decide) (fun c13 => ?_) (fun c13 => ?_)
      · refine X_aloadn hK (i := 0) 1 kd29_12.2.1 rfl rfl ?_
        refine X_dup hK kd29_12.2.2.1 rfl ?_
        refine X_getK hK fl_X7_18_8 hs_a0 ez1 kd29_12.2.2.2.1 ?_
        refine X_iconst hK kd29_12.2.2.2.2.1 ?_
        refine X_iadd hK kd29_12.2.2.2.2.2.1 ?_
        refine X_puti hK fl_X7_18_8 hs_a0 (by decide) sl_8_2 (by omega) (by omega) kd29_12.2.2.2.2.2.2.1 (fun g14 hg14 => ?_)
        refine X_iloadn hK (i := 2) 0 kd29_12.2.2.2.2.2.2.2.1 rfl rfl ?_
        refine X_iconst hK kd29_12.2.2.2.2.2.2.2.2.1 ?_
        have J25 : ∀ (g26 : xG) (hg26 : xM [(8, 2), (8, 5), (8, 6)] S g14 g26) (z24 : Int) (lz24 : (-100) ≤ z24) (uz24 : z24 ≤ 9999), X K E 74 [(2, .int (iI z5)), (0, .ref a0), (1, .ref a1)] [.int (iI z24)] S g26 0 0 := by
          intro g26 hg26 z24 lz24 uz24
          refine X_istoren hK (i := 3) [(3, .int (iI z24)), (2, .int (iI z5)), (0, .ref a0), (1, .ref a1)] kd29_13.2.2.2.1 rfl (by decide) rfl ?_
          refine X_aloadn hK (i := 1) 3 kd29_13.2.2.2.2.1 rfl rfl ?_
          refine X_geti hK fl_X7_44_11 hs_a1 sl_11_2 kd29_13.2.2.2.2.2.1 (fun z27 ez27 lz27 uz27 => ?_)
          refine X_istore hK (i := 4) [(4, .int (iI z27)), (3, .int (iI z24)), (2, .int (iI z5)), (0, .ref a0), (1, .ref a1)] kd29_13.2.2.2.2.2.2.1 (by decide) rfl ?_
          refine X_aloadn hK (i := 0) 3 kd29_13.2.2.2.2.2.2.2.1 rfl rfl ?_
          refine X_geti hK fl_X7_29_8 hs_a0 sl_8_5 kd29_13.2.2.2.2.2.2.2.2.1 (fun z28 ez28 lz28 uz28 => ?_)
          have J42 : ∀ (g43 : xG) (hg43 : xM [(8, 5), (8, 6), (8, 3), (8, 2), (14000, 0), (11, 2)] S g26 g43), X K E 118 [(4, .int (iI z27)), (3, .int (iI z24)), (2, .int (iI z5)), (0, .ref a0), (1, .ref a1)] [] S g43 0 0 := by
            intro g43 hg43
            refine X_aloadn hK (i := 0) 3 kd29_15.2.2.2.1 rfl rfl ?_
            refine X_geti hK fl_X7_29_8 hs_a0 sl_8_5 kd29_15.2.2.2.2.1 (fun z44 ez44 lz44 uz44 => ?_)
            refine X_if_ne hK 160 (by omega) kd29_15.2.2.2.2.2.1 (by decide) (fun c45 => ?_) (fun c45 => ?_)
            · exact hret _ _ _ _ _ _ kd29_17.2.1 ⟨rfl, rfl⟩ (Nat.le_refl _) (Nat.le_refl _)
            · refine X_aloadn hK (i := 0) 3 kd29_15.2.2.2.2.2.2.1 rfl rfl ?_
              refine X_bipush hK kd29_15.2.2.2.2.2.2.2.1 (by decide) ?_
              refine X_callV hK [.int (iI 24)] [] lk_X7_119 (c_X7_expect _ _ _ _ _ S g43 a0 24 hs_a0 (by omega)) hs_a0 ⟨by decide, rfl⟩ kd29_15.2.2.2.2.2.2.2.2.1 rfl rfl (by simp [Value.category]) (by decide) (by decide) (by decide) (by decide) (fun r46 S48 g47 pr46 qr46 hg47 => ?_)
              obtain ⟨rfl, rfl⟩ := pr46
              refine X_st [] rfl ?_
              refine X_aloadn hK (i := 0) 3 kd29_15.2.2.2.2.2.2.2.2.2.1 rfl rfl ?_
              refine X_aloadn hK (i := 0) 3 kd29_15.2.2.2.2.2.2.2.2.2.2.1 rfl rfl ?_
              refine X_geti hK fl_X7_25_8 hs_a0 sl_8_4 kd29_15.2.2.2.2.2.2.2.2.2.2.2 (fun z49 ez49 lz49 uz49 => ?_)
              refine X_if_ne hK 144 (by omega) kd29_16.1 (by decide) (fun c50 => ?_) (fun c50 => ?_)
              · refine X_iconst hK kd29_16.2.2.2.2.1 ?_
                refine X_goto hK 149 kd29_16.2.2.2.2.2.1 (by decide) ?_
                refine X_putz hK fl_X7_25_8 hs_a0 (by decide) sl_8_4 (by omega) (by omega) kd29_16.2.2.2.2.2.2.2.1 (fun g51 hg51 => ?_)
                refine X_aloadn hK (i := 1) 4 kd29_16.2.2.2.2.2.2.2.2.1 rfl rfl ?_
                refine X_iloadn hK (i := 2) 2 kd29_16.2.2.2.2.2.2.2.2.2.1 rfl rfl ?_
                refine X_iloadn hK (i := 3) 1 kd29_16.2.2.2.2.2.2.2.2.2.2.1 rfl rfl ?_
                refine X_iload hK (i := 4) 0 kd29_16.2.2.2.2.2.2.2.2.2.2.2 rfl ?_
                refine X_callV hK [.int (iI z5), .int (iI z24), .int (iI z27)] [] lk_X7_122 (c_X10_addLine _ _ _ _ _ S g51 a1 z5 z24 z27 hs_a1 (by omega) (by omega) (by omega)) hs_a1 ⟨by decide, rfl⟩ kd29_17.1 rfl rfl (by simp [Value.category]) (by decide) (by decide) (by decide) (by decide) (fun r52 S54 g53 pr52 qr52 hg53 => ?_)
                obtain ⟨rfl, rfl⟩ := pr52
                refine X_st [] rfl ?_
                exact hret _ _ _ _ _ _ kd29_17.2.1 ⟨rfl, rfl⟩ (Nat.le_refl _) (Nat.le_refl _)
              · refine X_iloadn hK (i := 2) 2 kd29_16.2.1 rfl rfl ?_
                refine X_iconst hK kd29_16.2.2.1 ?_
                refine X_icmp_ne hK 148 (by omega) (by omega) kd29_16.2.2.2.1 (by decide) (fun c55 => ?_) (fun c55 => False.elim (by omega))
                refine X_iconst hK kd29_16.2.2.2.2.2.2.1 ?_
                refine X_putz hK fl_X7_25_8 hs_a0 (by decide) sl_8_4 (by omega) (by omega) kd29_16.2.2.2.2.2.2.2.1 (fun g56 hg56 => ?_)
                refine X_aloadn hK (i := 1) 4 kd29_16.2.2.2.2.2.2.2.2.1 rfl rfl ?_
                refine X_iloadn hK (i := 2) 2 kd29_16.2.2.2.2.2.2.2.2.2.1 rfl rfl ?_
                refine X_iloadn hK (i := 3) 1 kd29_16.2.2.2.2.2.2.2.2.2.2.1 rfl rfl ?_
                refine X_iload hK (i := 4) 0 kd29_16.2.2.2.2.2.2.2.2.2.2.2 rfl ?_
                refine X_callV hK [.int (iI z5), .int (iI z24), .int (iI z27)] [] lk_X7_122 (c_X10_addLine _ _ _ _ _ S g56 a1 z5 z24 z27 hs_a1 (by omega) (by omega) (by omega)) hs_a1 ⟨by decide, rfl⟩ kd29_17.1 rfl rfl (by simp [Value.category]) (by decide) (by decide) (by decide) (by decide) (fun r57 S59 g58 pr57 qr57 hg58 => ?_)
                obtain ⟨rfl, rfl⟩ := pr57
                refine X_st [] rfl ?_
                exact hret _ _ _ _ _ _ kd29_17.2.1 ⟨rfl, rfl⟩ (Nat.le_refl _) (Nat.le_refl _)
          refine X_if_ne hK 118 (by omega) kd29_13.2.2.2.2.2.2.2.2.2.1 (by decide) (fun c29 => ?_) (fun c29 => ?_)
          · exact J42 g26 xM.rf
          · refine X_iloadn hK (i := 2) 2 kd29_13.2.2.2.2.2.2.2.2.2.2.1 rfl rfl ?_
            refine X_iconst hK kd29_13.2.2.2.2.2.2.2.2.2.2.2 ?_
            refine X_icmp_eq hK 118 (by omega) (by omega) kd29_14.1 (by decide) (fun c60 => False.elim (by omega)) (fun c60 => ?_)
            refine X_aloadn hK (i := 0) 3 kd29_14.2.1 rfl rfl ?_
            refine X_know hs_a0 (by decide) sl_8_2 (fun z61 ez61 lz61 uz61 => ?_)
            refine X_callV hK [] [] lk_X7_47 (c_X7_now _ _ _ _ _ S g26 a0 z61 hs_a0 (by omega) ez61) hs_a0 ⟨by decide, rfl⟩ kd29_14.2.2.1 rfl rfl (by simp [Value.category]) (by decide) (by decide) (by decide) (by decide) (fun r62 S64 g63 pr62 qr62 hg63 => ?_)
            obtain ⟨rfl, rfl, z65, rfl, lz65, uz65, k66⟩ := pr62
            refine X_st [.int (iI z65)] rfl ?_
            refine X_bipush hK kd29_14.2.2.2.1 (by decide) ?_
            refine X_icmp_ne hK 118 (by omega) (by omega) kd29_14.2.2.2.2.1 (by decide) (fun c67 => ?_) (fun c67 => ?_)
            · exact J42 g26 xM.rf
            · refine X_aloadn hK (i := 0) 3 kd29_14.2.2.2.2.2.1 rfl rfl ?_
              refine X_dup hK kd29_14.2.2.2.2.2.2.1 rfl ?_
              refine X_getK hK fl_X7_18_8 hs_a0 ez61 kd29_14.2.2.2.2.2.2.2.1 ?_
              refine X_iconst hK kd29_14.2.2.2.2.2.2.2.2.1 ?_
              refine X_iadd hK kd29_14.2.2.2.2.2.2.2.2.2.1 ?_
              refine X_puti hK fl_X7_18_8 hs_a0 (by decide) sl_8_2 (by omega) (by omega) kd29_14.2.2.2.2.2.2.2.2.2.2.1 (fun g68 hg68 => ?_)
              refine X_aloadn hK (i := 0) 3 kd29_14.2.2.2.2.2.2.2.2.2.2.2 rfl rfl ?_
              refine X_aloadn hK (i := 1) 4 kd29_15.1 rfl rfl ?_
              refine X_iconst hK kd29_15.2.1 ?_
              refine X_callV hK [.ref a1, .int (iI 1)] [] lk_X7_115 (c_X7_readCond_1 _ _ _ _ _ S g68 a0 a1 1 hs_a0 hs_a1 (by omega)) hs_a0 ⟨by decide, rfl⟩ kd29_15.2.2.1 rfl rfl (by simp [Value.category]) (by decide) (by decide) (by decide) (by decide) (fun r69 S71 g70 pr69 qr69 hg70 => ?_)
              obtain ⟨rfl, rfl⟩ := pr69
              refine X_st [] rfl ?_
              exact J42 g70 (xM.tr (xM_up xM.rf hg68 hs_a0 (by decide) (by decide)) xLe.rf hg70 (by decide))
        refine X_icmp_ne hK 70 (by omega) (by omega) kd29_12.2.2.2.2.2.2.2.2.2.1 (by decide) (fun c15 => ?_) (fun c15 => ?_)
        · refine X_aloadn hK (i := 0) 1 kd29_13.2.1 rfl rfl ?_
          refine X_callV hK [] [] lk_X7_112 (c_X7_readNumber _ _ _ _ _ S g14 a0 hs_a0) hs_a0 ⟨by decide, rfl⟩ kd29_13.2.2.1 rfl rfl (by simp [Value.category]) (by decide) (by decide) (by decide) (by decide) (fun r72 S74 g73 pr72 qr72 hg73 => ?_)
          obtain ⟨rfl, z75, rfl, lz75, uz75⟩ := pr72
          refine X_st [.int (iI z75)] rfl ?_
          exact J25 g73 (xM.tr xM.rf xLe.rf hg73 (by decide)) z75 (by omega) (by omega)
        · refine X_aloadn hK (i := 0) 1 kd29_12.2.2.2.2.2.2.2.2.2.2.1 rfl rfl ?_
          refine X_callV hK [] [] lk_X7_109 (c_X7_readMay _ _ _ _ _ S g14 a0 hs_a0) hs_a0 ⟨by decide, rfl⟩ kd29_12.2.2.2.2.2.2.2.2.2.2.2 rfl rfl (by simp [Value.category]) (by decide) (by decide) (by decide) (by decide) (fun r76 S78 g77 pr76 qr76 hg77 => ?_)
          obtain ⟨rfl, z79, rfl, lz79, uz79⟩ := pr76
          refine X_st [.int (iI z79)] rfl ?_
          refine X_goto hK 74 kd29_13.1 (by decide) ?_
          exact J25 g77 (xM.tr xM.rf xLe.rf hg77 (by decide)) z79 (by omega) (by omega)
      · refine X_aloadn hK (i := 0) 1 kd29_11.2.2.2.2.2.2.1 rfl rfl ?_
        refine X_geti hK fl_X7_25_8 hs_a0 sl_8_4 kd29_11.2.2.2.2.2.2.2.1 (fun z80 ez80 lz80 uz80 => ?_)
        refine X_if_eq hK 48 (by omega) kd29_11.2.2.2.2.2.2.2.2.1 (by decide) (fun c81 => ?_) (fun c81 => ?_)
        · refine X_aloadn hK (i := 0) 1 kd29_12.2.1 rfl rfl ?_
          refine X_dup hK kd29_12.2.2.1 rfl ?_
          refine X_getK hK fl_X7_18_8 hs_a0 ez1 kd29_12.2.2.2.1 ?_
          refine X_iconst hK kd29_12.2.2.2.2.1 ?_
          refine X_iadd hK kd29_12.2.2.2.2.2.1 ?_
          refine X_puti hK fl_X7_18_8 hs_a0 (by decide) sl_8_2 (by omega) (by omega) kd29_12.2.2.2.2.2.2.1 (fun g82 hg82 => ?_)
          refine X_iloadn hK (i := 2) 0 kd29_12.2.2.2.2.2.2.2.1 rfl rfl ?_
          refine X_iconst hK kd29_12.2.2.2.2.2.2.2.2.1 ?_
          refine X_icmp_ne hK 70 (by omega) (by omega) kd29_12.2.2.2.2.2.2.2.2.2.1 (by decide) (fun c83 => ?_) (fun c83 => False.elim (by omega))
          refine X_aloadn hK (i := 0) 1 kd29_13.2.1 rfl rfl ?_
          refine X_callV hK [] [] lk_X7_112 (c_X7_readNumber _ _ _ _ _ S g82 a0 hs_a0) hs_a0 ⟨by decide, rfl⟩ kd29_13.2.2.1 rfl rfl (by simp [Value.category]) (by decide) (by decide) (by decide) (by decide) (fun r84 S86 g85 pr84 qr84 hg85 => ?_)
          obtain ⟨rfl, z87, rfl, lz87, uz87⟩ := pr84
          refine X_st [.int (iI z87)] rfl ?_
          refine X_istoren hK (i := 3) [(3, .int (iI z87)), (2, .int (iI z5)), (0, .ref a0), (1, .ref a1)] kd29_13.2.2.2.1 rfl (by decide) rfl ?_
          refine X_aloadn hK (i := 1) 3 kd29_13.2.2.2.2.1 rfl rfl ?_
          refine X_geti hK fl_X7_44_11 hs_a1 sl_11_2 kd29_13.2.2.2.2.2.1 (fun z88 ez88 lz88 uz88 => ?_)
          refine X_istore hK (i := 4) [(4, .int (iI z88)), (3, .int (iI z87)), (2, .int (iI z5)), (0, .ref a0), (1, .ref a1)] kd29_13.2.2.2.2.2.2.1 (by decide) rfl ?_
          refine X_aloadn hK (i := 0) 3 kd29_13.2.2.2.2.2.2.2.1 rfl rfl ?_
          refine X_geti hK fl_X7_29_8 hs_a0 sl_8_5 kd29_13.2.2.2.2.2.2.2.2.1 (fun z89 ez89 lz89 uz89 => ?_)
          have J92 : X K E 118 [(4, .int (iI z88)), (3, .int (iI z87)), (2, .int (iI z5)), (0, .ref a0), (1, .ref a1)] [] S g85 0 0 := by
            refine X_aloadn hK (i := 0) 3 kd29_15.2.2.2.1 rfl rfl ?_
            refine X_getK hK fl_X7_29_8 hs_a0 ez89 kd29_15.2.2.2.2.1 ?_
            refine X_if_ne hK 160 (by omega) kd29_15.2.2.2.2.2.1 (by decide) (fun c93 => ?_) (fun c93 => ?_)
            · exact hret _ _ _ _ _ _ kd29_17.2.1 ⟨rfl, rfl⟩ (Nat.le_refl _) (Nat.le_refl _)
            · refine X_aloadn hK (i := 0) 3 kd29_15.2.2.2.2.2.2.1 rfl rfl ?_
              refine X_bipush hK kd29_15.2.2.2.2.2.2.2.1 (by decide) ?_
              refine X_callV hK [.int (iI 24)] [] lk_X7_119 (c_X7_expect _ _ _ _ _ S g85 a0 24 hs_a0 (by omega)) hs_a0 ⟨by decide, rfl⟩ kd29_15.2.2.2.2.2.2.2.2.1 rfl rfl (by simp [Value.category]) (by decide) (by decide) (by decide) (by decide) (fun r94 S96 g95 pr94 qr94 hg95 => ?_)
              obtain ⟨rfl, rfl⟩ := pr94
              refine X_st [] rfl ?_
              refine X_aloadn hK (i := 0) 3 kd29_15.2.2.2.2.2.2.2.2.2.1 rfl rfl ?_
              refine X_aloadn hK (i := 0) 3 kd29_15.2.2.2.2.2.2.2.2.2.2.1 rfl rfl ?_
              refine X_getK hK fl_X7_25_8 hs_a0 ((hg95 a0 8 0 4 hs_a0 (by decide)).trans ((hg85 a0 8 0 4 hs_a0 (by decide)).trans ((xs_k hg82 (by decide)).trans ez80))) kd29_15.2.2.2.2.2.2.2.2.2.2.2 ?_
              refine X_if_ne hK 144 (by omega) kd29_16.1 (by decide) (fun c97 => False.elim (by omega)) (fun c97 => ?_)
              refine X_iloadn hK (i := 2) 2 kd29_16.2.1 rfl rfl ?_
              refine X_iconst hK kd29_16.2.2.1 ?_
              refine X_icmp_ne hK 148 (by omega) (by omega) kd29_16.2.2.2.1 (by decide) (fun c98 => False.elim (by omega)) (fun c98 => ?_)
              refine X_iconst hK kd29_16.2.2.2.2.1 ?_
              refine X_goto hK 149 kd29_16.2.2.2.2.2.1 (by decide) ?_
              refine X_putz hK fl_X7_25_8 hs_a0 (by decide) sl_8_4 (by omega) (by omega) kd29_16.2.2.2.2.2.2.2.1 (fun g99 hg99 => ?_)
              refine X_aloadn hK (i := 1) 4 kd29_16.2.2.2.2.2.2.2.2.1 rfl rfl ?_
              refine X_iloadn hK (i := 2) 2 kd29_16.2.2.2.2.2.2.2.2.2.1 rfl rfl ?_
              refine X_iloadn hK (i := 3) 1 kd29_16.2.2.2.2.2.2.2.2.2.2.1 rfl rfl ?_
              refine X_iload hK (i := 4) 0 kd29_16.2.2.2.2.2.2.2.2.2.2.2 rfl ?_
              refine X_callV hK [.int (iI z5), .int (iI z87), .int (iI z88)] [] lk_X7_122 (c_X10_addLine _ _ _ _ _ S g99 a1 z5 z87 z88 hs_a1 (by omega) (by omega) (by omega)) hs_a1 ⟨by decide, rfl⟩ kd29_17.1 rfl rfl (by simp [Value.category]) (by decide) (by decide) (by decide) (by decide) (fun r100 S102 g101 pr100 qr100 hg101 => ?_)
              obtain ⟨rfl, rfl⟩ := pr100
              refine X_st [] rfl ?_
              exact hret _ _ _ _ _ _ kd29_17.2.1 ⟨rfl, rfl⟩ (Nat.le_refl _) (Nat.le_refl _)
          refine X_if_ne hK 118 (by omega) kd29_13.2.2.2.2.2.2.2.2.2.1 (by decide) (fun c90 => ?_) (fun c90 => ?_)
          · exact J92 
          · refine X_iloadn hK (i := 2) 2 kd29_13.2.2.2.2.2.2.2.2.2.2.1 rfl rfl ?_
            refine X_iconst hK kd29_13.2.2.2.2.2.2.2.2.2.2.2 ?_
            refine X_icmp_eq hK 118 (by omega) (by omega) kd29_14.1 (by decide) (fun c103 => ?_) (fun c103 => False.elim (by omega))
            exact J92 
        · refine X_aloadn hK (i := 0) 1 kd29_11.2.2.2.2.2.2.2.2.2.1 rfl rfl ?_
          refine X_iconst hK kd29_11.2.2.2.2.2.2.2.2.2.2.1 ?_
          refine X_callV hK [.int (iI 3)] [] lk_X7_60 (c_X7_tell _ _ _ _ _ S g a0 3 hs_a0 (by omega)) hs_a0 ⟨by decide, rfl⟩ kd29_11.2.2.2.2.2.2.2.2.2.2.2 rfl rfl (by simp [Value.category]) (by decide) (by decide) (by decide) (by decide) (fun r104 S106 g105 pr104 qr104 hg105 => ?_)
          obtain ⟨rfl, rfl⟩ := pr104
          refine X_st [] rfl ?_
          refine X_goto hK 160 kd29_12.1 (by decide) ?_
          exact hret _ _ _ _ _ _ kd29_17.2.1 ⟨rfl, rfl⟩ (Nat.le_refl _) (Nat.le_refl _)
  · refine X_aloadn hK (i := 0) 1 kd29_10.2.2.2.2.2.2.2.1 rfl rfl ?_
    refine X_iconst hK kd29_10.2.2.2.2.2.2.2.2.1 ?_
    refine X_callV hK [.int (iI 1)] [] lk_X7_60 (c_X7_tell _ _ _ _ _ S g a0 1 hs_a0 (by omega)) hs_a0 ⟨by decide, rfl⟩ kd29_10.2.2.2.2.2.2.2.2.2.1 rfl rfl (by simp [Value.category]) (by decide) (by decide) (by decide) (by decide) (fun r107 S109 g108 pr107 qr107 hg108 => ?_)
    obtain ⟨rfl, rfl⟩ := pr107
    refine X_st [] rfl ?_
    refine X_goto hK 160 kd29_10.2.2.2.2.2.2.2.2.2.2.1 (by decide) ?_
    exact hret _ _ _ _ _ _ kd29_17.2.1 ⟨rfl, rfl⟩ (Nat.le_refl _) (Nat.le_refl _)
