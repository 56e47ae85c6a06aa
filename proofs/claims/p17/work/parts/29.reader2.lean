theorem m_6_12 : Cond.fieldLink RX7 22 "PaperBoys$Reader" "ones" "I" ∈ wsL_law := ch_6 _ (List.mem_of_getElem? (i := 12) rfl)
theorem m_6_13 : Cond.fieldLink RX7 25 "PaperBoys$Reader" "oweTold" "Z" ∈ wsL_law := ch_6 _ (List.mem_of_getElem? (i := 13) rfl)
theorem m_22_17 : Cond.fieldLink RX7 39 "PaperBoys$Terms" "lines" "I" ∈ wsL_law := ch_22 _ (List.mem_of_getElem? (i := 17) rfl)
theorem m_22_18 : Cond.fieldLink RX7 44 "PaperBoys$Terms" "steps" "I" ∈ wsL_law := ch_22 _ (List.mem_of_getElem? (i := 18) rfl)
theorem m_26_9 : Cond.methodLink RX7 109 yX7_readMay ∈ wsL_law := ch_26 _ (List.mem_of_getElem? (i := 9) rfl)
theorem m_26_10 : Cond.instanceMethod yX7_readMay ∈ wsL_law := ch_26 _ (List.mem_of_getElem? (i := 10) rfl)
theorem m_26_11 : Cond.selects RX7 yX7_readMay yX7_readMay ∈ wsL_law := ch_26 _ (List.mem_of_getElem? (i := 11) rfl)
theorem m_26_12 : Cond.code yX7_readMay cX7_readMay 1 (some .int) ∈ wsL_law := ch_26 _ (List.mem_of_getElem? (i := 12) rfl)
theorem m_26_13 : Cond.methodLink RX7 112 yX7_readNumber ∈ wsL_law := ch_26 _ (List.mem_of_getElem? (i := 13) rfl)
theorem m_26_14 : Cond.instanceMethod yX7_readNumber ∈ wsL_law := ch_26 _ (List.mem_of_getElem? (i := 14) rfl)
theorem m_26_15 : Cond.selects RX7 yX7_readNumber yX7_readNumber ∈ wsL_law := ch_26 _ (List.mem_of_getElem? (i := 15) rfl)
theorem m_26_16 : Cond.code yX7_readNumber cX7_readNumber 2 (some .int) ∈ wsL_law := ch_26 _ (List.mem_of_getElem? (i := 16) rfl)
theorem m_26_17 : Cond.methodLink RX7 115 yX7_readCond ∈ wsL_law := ch_26 _ (List.mem_of_getElem? (i := 17) rfl)
theorem m_26_18 : Cond.instanceMethod yX7_readCond ∈ wsL_law := ch_26 _ (List.mem_of_getElem? (i := 18) rfl)
theorem m_26_19 : Cond.selects RX7 yX7_readCond yX7_readCond ∈ wsL_law := ch_26 _ (List.mem_of_getElem? (i := 19) rfl)
theorem m_26_20 : Cond.code yX7_readCond cX7_readCond 4 none ∈ wsL_law := ch_26 _ (List.mem_of_getElem? (i := 20) rfl)
theorem m_26_21 : Cond.methodLink RX7 126 yX7_readAll ∈ wsL_law := ch_26 _ (List.mem_of_getElem? (i := 21) rfl)
theorem m_26_22 : Cond.instanceMethod yX7_readAll ∈ wsL_law := ch_26 _ (List.mem_of_getElem? (i := 22) rfl)
theorem m_26_23 : Cond.selects RX7 yX7_readAll yX7_readAll ∈ wsL_law := ch_26 _ (List.mem_of_getElem? (i := 23) rfl)
theorem m_27_0 : Cond.methodLink RX7 129 yX10_addStep ∈ wsL_law := ch_27 _ (List.mem_of_getElem? (i := 0) rfl)
theorem m_27_1 : Cond.instanceMethod yX10_addStep ∈ wsL_law := ch_27 _ (List.mem_of_getElem? (i := 1) rfl)
theorem m_27_2 : Cond.selects RX10 yX10_addStep yX10_addStep ∈ wsL_law := ch_27 _ (List.mem_of_getElem? (i := 2) rfl)
theorem m_27_3 : Cond.code yX10_addStep cX10_addStep 4 none ∈ wsL_law := ch_27 _ (List.mem_of_getElem? (i := 3) rfl)
theorem m_27_4 : Cond.code yX7_readAll cX7_readAll 4 none ∈ wsL_law := ch_27 _ (List.mem_of_getElem? (i := 4) rfl)
theorem m_27_5 : Cond.methodLink RX7 132 yX7_readOne ∈ wsL_law := ch_27 _ (List.mem_of_getElem? (i := 5) rfl)
theorem m_27_6 : Cond.instanceMethod yX7_readOne ∈ wsL_law := ch_27 _ (List.mem_of_getElem? (i := 6) rfl)
theorem m_27_7 : Cond.selects RX7 yX7_readOne yX7_readOne ∈ wsL_law := ch_27 _ (List.mem_of_getElem? (i := 7) rfl)
theorem m_27_8 : Cond.code yX7_readOne cX7_readOne 5 none ∈ wsL_law := ch_27 _ (List.mem_of_getElem? (i := 8) rfl)
theorem m_27_9 : Cond.methodLink RX7 135 yX7_readFact ∈ wsL_law := ch_27 _ (List.mem_of_getElem? (i := 9) rfl)
theorem m_27_10 : Cond.instanceMethod yX7_readFact ∈ wsL_law := ch_27 _ (List.mem_of_getElem? (i := 10) rfl)
theorem m_27_11 : Cond.selects RX7 yX7_readFact yX7_readFact ∈ wsL_law := ch_27 _ (List.mem_of_getElem? (i := 11) rfl)
theorem m_27_12 : Cond.code yX7_readFact cX7_readFact 5 none ∈ wsL_law := ch_27 _ (List.mem_of_getElem? (i := 12) rfl)
theorem m_27_13 : Cond.methodLink RX7 119 yX7_expect ∈ wsL_law := ch_27 _ (List.mem_of_getElem? (i := 13) rfl)
theorem m_27_14 : Cond.instanceMethod yX7_expect ∈ wsL_law := ch_27 _ (List.mem_of_getElem? (i := 14) rfl)
theorem m_27_15 : Cond.selects RX7 yX7_expect yX7_expect ∈ wsL_law := ch_27 _ (List.mem_of_getElem? (i := 15) rfl)
theorem m_27_16 : Cond.code yX7_expect cX7_expect 2 none ∈ wsL_law := ch_27 _ (List.mem_of_getElem? (i := 16) rfl)
theorem m_27_17 : Cond.methodLink RX7 122 yX10_addLine ∈ wsL_law := ch_27 _ (List.mem_of_getElem? (i := 17) rfl)
theorem m_27_18 : Cond.instanceMethod yX10_addLine ∈ wsL_law := ch_27 _ (List.mem_of_getElem? (i := 18) rfl)
theorem m_27_19 : Cond.selects RX10 yX10_addLine yX10_addLine ∈ wsL_law := ch_27 _ (List.mem_of_getElem? (i := 19) rfl)
theorem m_27_20 : Cond.code yX10_addLine cX10_addLine 4 none ∈ wsL_law := ch_27 _ (List.mem_of_getElem? (i := 20) rfl)
theorem dX7_readAll_0 : decode cX7_readAll 0 = .ok (.aload_n 0, 1) := by decide +kernel
theorem dX7_readAll_1 : decode cX7_readAll 1 = .ok (.aload_n 1, 1) := by decide +kernel
theorem dX7_readAll_2 : decode cX7_readAll 2 = .ok (.iload_n 2, 1) := by decide +kernel
theorem dX7_readAll_3 : decode cX7_readAll 3 = .ok (.invokevirtual 132, 3) := by decide +kernel
theorem dX7_readAll_6 : decode cX7_readAll 6 = .ok (.iconst 0, 1) := by decide +kernel
theorem dX7_readAll_7 : decode cX7_readAll 7 = .ok (.istore_n 3, 1) := by decide +kernel
theorem dX7_readAll_8 : decode cX7_readAll 8 = .ok (.iload_n 3, 1) := by decide +kernel
theorem dX7_readAll_9 : decode cX7_readAll 9 = .ok (.bipush 50, 2) := by decide +kernel
theorem dX7_readAll_11 : decode cX7_readAll 11 = .ok (.if_icmp .ge 49, 3) := by decide +kernel
theorem dX7_readAll_14 : decode cX7_readAll 14 = .ok (.aload_n 0, 1) := by decide +kernel
theorem dX7_readAll_15 : decode cX7_readAll 15 = .ok (.getfield 29, 3) := by decide +kernel
theorem dX7_readAll_18 : decode cX7_readAll 18 = .ok (.ifCond .ne 42, 3) := by decide +kernel
theorem dX7_readAll_21 : decode cX7_readAll 21 = .ok (.aload_n 0, 1) := by decide +kernel
theorem dX7_readAll_22 : decode cX7_readAll 22 = .ok (.invokevirtual 47, 3) := by decide +kernel
theorem dX7_readAll_25 : decode cX7_readAll 25 = .ok (.bipush 8, 2) := by decide +kernel
theorem dX7_readAll_27 : decode cX7_readAll 27 = .ok (.if_icmp .ne 33, 3) := by decide +kernel
theorem dX7_readAll_30 : decode cX7_readAll 30 = .ok (.aload_n 0, 1) := by decide +kernel
theorem dX7_readAll_31 : decode cX7_readAll 31 = .ok (.dup, 1) := by decide +kernel
theorem dX7_readAll_32 : decode cX7_readAll 32 = .ok (.getfield 18, 3) := by decide +kernel
theorem dX7_readAll_35 : decode cX7_readAll 35 = .ok (.iconst 1, 1) := by decide +kernel
theorem dX7_readAll_36 : decode cX7_readAll 36 = .ok (.iadd, 1) := by decide +kernel
theorem dX7_readAll_37 : decode cX7_readAll 37 = .ok (.putfield 18, 3) := by decide +kernel
theorem dX7_readAll_40 : decode cX7_readAll 40 = .ok (.aload_n 0, 1) := by decide +kernel
theorem dX7_readAll_41 : decode cX7_readAll 41 = .ok (.aload_n 1, 1) := by decide +kernel
theorem dX7_readAll_42 : decode cX7_readAll 42 = .ok (.iload_n 2, 1) := by decide +kernel
theorem dX7_readAll_43 : decode cX7_readAll 43 = .ok (.invokevirtual 132, 3) := by decide +kernel
theorem dX7_readAll_46 : decode cX7_readAll 46 = .ok (.aload_n 1, 1) := by decide +kernel
theorem dX7_readAll_47 : decode cX7_readAll 47 = .ok (.bipush 13, 2) := by decide +kernel
theorem dX7_readAll_49 : decode cX7_readAll 49 = .ok (.iconst 0, 1) := by decide +kernel
theorem dX7_readAll_50 : decode cX7_readAll 50 = .ok (.iconst 0, 1) := by decide +kernel
theorem dX7_readAll_51 : decode cX7_readAll 51 = .ok (.invokevirtual 129, 3) := by decide +kernel
theorem dX7_readAll_54 : decode cX7_readAll 54 = .ok (.iinc 3 1, 3) := by decide +kernel
theorem dX7_readAll_57 : decode cX7_readAll 57 = .ok (.goto (-49), 3) := by decide +kernel
theorem dX7_readAll_60 : decode cX7_readAll 60 = .ok (.return_, 1) := by decide +kernel
theorem dX7_readCond_0 : decode cX7_readCond 0 = .ok (.aload_n 0, 1) := by decide +kernel
theorem dX7_readCond_1 : decode cX7_readCond 1 = .ok (.aload_n 1, 1) := by decide +kernel
theorem dX7_readCond_2 : decode cX7_readCond 2 = .ok (.iload_n 2, 1) := by decide +kernel
theorem dX7_readCond_3 : decode cX7_readCond 3 = .ok (.invokevirtual 126, 3) := by decide +kernel
theorem dX7_readCond_6 : decode cX7_readCond 6 = .ok (.iconst 0, 1) := by decide +kernel
theorem dX7_readCond_7 : decode cX7_readCond 7 = .ok (.istore_n 3, 1) := by decide +kernel
theorem dX7_readCond_8 : decode cX7_readCond 8 = .ok (.iload_n 3, 1) := by decide +kernel
theorem dX7_readCond_9 : decode cX7_readCond 9 = .ok (.bipush 50, 2) := by decide +kernel
theorem dX7_readCond_11 : decode cX7_readCond 11 = .ok (.if_icmp .ge 49, 3) := by decide +kernel
theorem dX7_readCond_14 : decode cX7_readCond 14 = .ok (.aload_n 0, 1) := by decide +kernel
theorem dX7_readCond_15 : decode cX7_readCond 15 = .ok (.getfield 29, 3) := by decide +kernel
theorem dX7_readCond_18 : decode cX7_readCond 18 = .ok (.ifCond .ne 42, 3) := by decide +kernel
theorem dX7_readCond_21 : decode cX7_readCond 21 = .ok (.aload_n 0, 1) := by decide +kernel
theorem dX7_readCond_22 : decode cX7_readCond 22 = .ok (.invokevirtual 47, 3) := by decide +kernel
theorem dX7_readCond_25 : decode cX7_readCond 25 = .ok (.bipush 9, 2) := by decide +kernel
theorem dX7_readCond_27 : decode cX7_readCond 27 = .ok (.if_icmp .ne 33, 3) := by decide +kernel
theorem dX7_readCond_30 : decode cX7_readCond 30 = .ok (.aload_n 0, 1) := by decide +kernel
theorem dX7_readCond_31 : decode cX7_readCond 31 = .ok (.dup, 1) := by decide +kernel
theorem dX7_readCond_32 : decode cX7_readCond 32 = .ok (.getfield 18, 3) := by decide +kernel
theorem dX7_readCond_35 : decode cX7_readCond 35 = .ok (.iconst 1, 1) := by decide +kernel
theorem dX7_readCond_36 : decode cX7_readCond 36 = .ok (.iadd, 1) := by decide +kernel
theorem dX7_readCond_37 : decode cX7_readCond 37 = .ok (.putfield 18, 3) := by decide +kernel
theorem dX7_readCond_40 : decode cX7_readCond 40 = .ok (.aload_n 0, 1) := by decide +kernel
theorem dX7_readCond_41 : decode cX7_readCond 41 = .ok (.aload_n 1, 1) := by decide +kernel
theorem dX7_readCond_42 : decode cX7_readCond 42 = .ok (.iload_n 2, 1) := by decide +kernel
theorem dX7_readCond_43 : decode cX7_readCond 43 = .ok (.invokevirtual 126, 3) := by decide +kernel
theorem dX7_readCond_46 : decode cX7_readCond 46 = .ok (.aload_n 1, 1) := by decide +kernel
theorem dX7_readCond_47 : decode cX7_readCond 47 = .ok (.bipush 14, 2) := by decide +kernel
theorem dX7_readCond_49 : decode cX7_readCond 49 = .ok (.iconst 0, 1) := by decide +kernel
theorem dX7_readCond_50 : decode cX7_readCond 50 = .ok (.iconst 0, 1) := by decide +kernel
theorem dX7_readCond_51 : decode cX7_readCond 51 = .ok (.invokevirtual 129, 3) := by decide +kernel
theorem dX7_readCond_54 : decode cX7_readCond 54 = .ok (.iinc 3 1, 3) := by decide +kernel
theorem dX7_readCond_57 : decode cX7_readCond 57 = .ok (.goto (-49), 3) := by decide +kernel
theorem dX7_readCond_60 : decode cX7_readCond 60 = .ok (.return_, 1) := by decide +kernel
theorem dX7_readFact_0 : decode cX7_readFact 0 = .ok (.iload_n 2, 1) := by decide +kernel
theorem dX7_readFact_1 : decode cX7_readFact 1 = .ok (.iconst 3, 1) := by decide +kernel
theorem dX7_readFact_2 : decode cX7_readFact 2 = .ok (.if_icmp .ge 11, 3) := by decide +kernel
theorem dX7_readFact_5 : decode cX7_readFact 5 = .ok (.aload_n 1, 1) := by decide +kernel
theorem dX7_readFact_6 : decode cX7_readFact 6 = .ok (.iload_n 2, 1) := by decide +kernel
theorem dX7_readFact_7 : decode cX7_readFact 7 = .ok (.iconst 2, 1) := by decide +kernel
theorem dX7_readFact_8 : decode cX7_readFact 8 = .ok (.iconst 0, 1) := by decide +kernel
theorem dX7_readFact_9 : decode cX7_readFact 9 = .ok (.invokevirtual 129, 3) := by decide +kernel
theorem dX7_readFact_12 : decode cX7_readFact 12 = .ok (.return_, 1) := by decide +kernel
theorem dX7_readFact_13 : decode cX7_readFact 13 = .ok (.aload_n 0, 1) := by decide +kernel
theorem dX7_readFact_14 : decode cX7_readFact 14 = .ok (.invokevirtual 47, 3) := by decide +kernel
theorem dX7_readFact_17 : decode cX7_readFact 17 = .ok (.istore_n 3, 1) := by decide +kernel
theorem dX7_readFact_18 : decode cX7_readFact 18 = .ok (.iload_n 3, 1) := by decide +kernel
theorem dX7_readFact_19 : decode cX7_readFact 19 = .ok (.bipush 27, 2) := by decide +kernel
theorem dX7_readFact_21 : decode cX7_readFact 21 = .ok (.if_icmp .lt 9, 3) := by decide +kernel
theorem dX7_readFact_24 : decode cX7_readFact 24 = .ok (.iload_n 3, 1) := by decide +kernel
theorem dX7_readFact_25 : decode cX7_readFact 25 = .ok (.bipush 29, 2) := by decide +kernel
theorem dX7_readFact_27 : decode cX7_readFact 27 = .ok (.if_icmp .le 9, 3) := by decide +kernel
theorem dX7_readFact_30 : decode cX7_readFact 30 = .ok (.aload_n 0, 1) := by decide +kernel
theorem dX7_readFact_31 : decode cX7_readFact 31 = .ok (.iconst 1, 1) := by decide +kernel
theorem dX7_readFact_32 : decode cX7_readFact 32 = .ok (.invokevirtual 60, 3) := by decide +kernel
theorem dX7_readFact_35 : decode cX7_readFact 35 = .ok (.return_, 1) := by decide +kernel
theorem dX7_readFact_36 : decode cX7_readFact 36 = .ok (.aload_n 0, 1) := by decide +kernel
theorem dX7_readFact_37 : decode cX7_readFact 37 = .ok (.dup, 1) := by decide +kernel
theorem dX7_readFact_38 : decode cX7_readFact 38 = .ok (.getfield 18, 3) := by decide +kernel
theorem dX7_readFact_41 : decode cX7_readFact 41 = .ok (.iconst 1, 1) := by decide +kernel
theorem dX7_readFact_42 : decode cX7_readFact 42 = .ok (.iadd, 1) := by decide +kernel
theorem dX7_readFact_43 : decode cX7_readFact 43 = .ok (.putfield 18, 3) := by decide +kernel
theorem dX7_readFact_46 : decode cX7_readFact 46 = .ok (.aload_n 0, 1) := by decide +kernel
theorem dX7_readFact_47 : decode cX7_readFact 47 = .ok (.invokevirtual 47, 3) := by decide +kernel
theorem dX7_readFact_50 : decode cX7_readFact 50 = .ok (.bipush 100, 2) := by decide +kernel
theorem dX7_readFact_52 : decode cX7_readFact 52 = .ok (.isub, 1) := by decide +kernel
theorem dX7_readFact_53 : decode cX7_readFact 53 = .ok (.istore 4, 2) := by decide +kernel
theorem dX7_readFact_55 : decode cX7_readFact 55 = .ok (.iload 4, 2) := by decide +kernel
theorem dX7_readFact_57 : decode cX7_readFact 57 = .ok (.ifCond .ge 9, 3) := by decide +kernel
theorem dX7_readFact_60 : decode cX7_readFact 60 = .ok (.aload_n 0, 1) := by decide +kernel
theorem dX7_readFact_61 : decode cX7_readFact 61 = .ok (.iconst 1, 1) := by decide +kernel
theorem dX7_readFact_62 : decode cX7_readFact 62 = .ok (.invokevirtual 60, 3) := by decide +kernel
theorem dX7_readFact_65 : decode cX7_readFact 65 = .ok (.return_, 1) := by decide +kernel
theorem dX7_readFact_66 : decode cX7_readFact 66 = .ok (.aload_n 0, 1) := by decide +kernel
theorem dX7_readFact_67 : decode cX7_readFact 67 = .ok (.dup, 1) := by decide +kernel
theorem dX7_readFact_68 : decode cX7_readFact 68 = .ok (.getfield 18, 3) := by decide +kernel
theorem dX7_readFact_71 : decode cX7_readFact 71 = .ok (.iconst 1, 1) := by decide +kernel
theorem dX7_readFact_72 : decode cX7_readFact 72 = .ok (.iadd, 1) := by decide +kernel
theorem dX7_readFact_73 : decode cX7_readFact 73 = .ok (.putfield 18, 3) := by decide +kernel
theorem dX7_readFact_76 : decode cX7_readFact 76 = .ok (.aload_n 1, 1) := by decide +kernel
theorem dX7_readFact_77 : decode cX7_readFact 77 = .ok (.iload_n 2, 1) := by decide +kernel
theorem dX7_readFact_78 : decode cX7_readFact 78 = .ok (.iload_n 3, 1) := by decide +kernel
theorem dX7_readFact_79 : decode cX7_readFact 79 = .ok (.bipush 27, 2) := by decide +kernel
theorem dX7_readFact_81 : decode cX7_readFact 81 = .ok (.isub, 1) := by decide +kernel
theorem dX7_readFact_82 : decode cX7_readFact 82 = .ok (.iload 4, 2) := by decide +kernel
theorem dX7_readFact_84 : decode cX7_readFact 84 = .ok (.invokevirtual 129, 3) := by decide +kernel
theorem dX7_readFact_87 : decode cX7_readFact 87 = .ok (.return_, 1) := by decide +kernel
theorem dX7_readLine_0 : decode cX7_readLine 0 = .ok (.aload_n 0, 1) := by decide +kernel
theorem dX7_readLine_1 : decode cX7_readLine 1 = .ok (.invokevirtual 47, 3) := by decide +kernel
theorem dX7_readLine_4 : decode cX7_readLine 4 = .ok (.istore_n 2, 1) := by decide +kernel
theorem dX7_readLine_5 : decode cX7_readLine 5 = .ok (.iload_n 2, 1) := by decide +kernel
theorem dX7_readLine_6 : decode cX7_readLine 6 = .ok (.bipush 6, 2) := by decide +kernel
theorem dX7_readLine_8 : decode cX7_readLine 8 = .ok (.if_icmp .lt 11, 3) := by decide +kernel
theorem dX7_readLine_11 : decode cX7_readLine 11 = .ok (.aload_n 0, 1) := by decide +kernel
theorem dX7_readLine_12 : decode cX7_readLine 12 = .ok (.iconst 1, 1) := by decide +kernel
theorem dX7_readLine_13 : decode cX7_readLine 13 = .ok (.invokevirtual 60, 3) := by decide +kernel
theorem dX7_readLine_16 : decode cX7_readLine 16 = .ok (.goto 144, 3) := by decide +kernel
theorem dX7_readLine_19 : decode cX7_readLine 19 = .ok (.aload_n 1, 1) := by decide +kernel
theorem dX7_readLine_20 : decode cX7_readLine 20 = .ok (.getfield 39, 3) := by decide +kernel
theorem dX7_readLine_23 : decode cX7_readLine 23 = .ok (.bipush 16, 2) := by decide +kernel
theorem dX7_readLine_25 : decode cX7_readLine 25 = .ok (.if_icmp .ge 15, 3) := by decide +kernel
theorem dX7_readLine_28 : decode cX7_readLine 28 = .ok (.iload_n 2, 1) := by decide +kernel
theorem dX7_readLine_29 : decode cX7_readLine 29 = .ok (.iconst 5, 1) := by decide +kernel
theorem dX7_readLine_30 : decode cX7_readLine 30 = .ok (.if_icmp .ne 18, 3) := by decide +kernel
theorem dX7_readLine_33 : decode cX7_readLine 33 = .ok (.aload_n 0, 1) := by decide +kernel
theorem dX7_readLine_34 : decode cX7_readLine 34 = .ok (.getfield 25, 3) := by decide +kernel
theorem dX7_readLine_37 : decode cX7_readLine 37 = .ok (.ifCond .eq 11, 3) := by decide +kernel
theorem dX7_readLine_40 : decode cX7_readLine 40 = .ok (.aload_n 0, 1) := by decide +kernel
theorem dX7_readLine_41 : decode cX7_readLine 41 = .ok (.iconst 3, 1) := by decide +kernel
theorem dX7_readLine_42 : decode cX7_readLine 42 = .ok (.invokevirtual 60, 3) := by decide +kernel
theorem dX7_readLine_45 : decode cX7_readLine 45 = .ok (.goto 115, 3) := by decide +kernel
theorem dX7_readLine_48 : decode cX7_readLine 48 = .ok (.aload_n 0, 1) := by decide +kernel
theorem dX7_readLine_49 : decode cX7_readLine 49 = .ok (.dup, 1) := by decide +kernel
theorem dX7_readLine_50 : decode cX7_readLine 50 = .ok (.getfield 18, 3) := by decide +kernel
theorem dX7_readLine_53 : decode cX7_readLine 53 = .ok (.iconst 1, 1) := by decide +kernel
theorem dX7_readLine_54 : decode cX7_readLine 54 = .ok (.iadd, 1) := by decide +kernel
theorem dX7_readLine_55 : decode cX7_readLine 55 = .ok (.putfield 18, 3) := by decide +kernel
theorem dX7_readLine_58 : decode cX7_readLine 58 = .ok (.iload_n 2, 1) := by decide +kernel
theorem dX7_readLine_59 : decode cX7_readLine 59 = .ok (.iconst 4, 1) := by decide +kernel
theorem dX7_readLine_60 : decode cX7_readLine 60 = .ok (.if_icmp .ne 10, 3) := by decide +kernel
theorem dX7_readLine_63 : decode cX7_readLine 63 = .ok (.aload_n 0, 1) := by decide +kernel
theorem dX7_readLine_64 : decode cX7_readLine 64 = .ok (.invokevirtual 109, 3) := by decide +kernel
theorem dX7_readLine_67 : decode cX7_readLine 67 = .ok (.goto 7, 3) := by decide +kernel
theorem dX7_readLine_70 : decode cX7_readLine 70 = .ok (.aload_n 0, 1) := by decide +kernel
theorem dX7_readLine_71 : decode cX7_readLine 71 = .ok (.invokevirtual 112, 3) := by decide +kernel
theorem dX7_readLine_74 : decode cX7_readLine 74 = .ok (.istore_n 3, 1) := by decide +kernel
theorem dX7_readLine_75 : decode cX7_readLine 75 = .ok (.aload_n 1, 1) := by decide +kernel
theorem dX7_readLine_76 : decode cX7_readLine 76 = .ok (.getfield 44, 3) := by decide +kernel
theorem dX7_readLine_79 : decode cX7_readLine 79 = .ok (.istore 4, 2) := by decide +kernel
theorem dX7_readLine_81 : decode cX7_readLine 81 = .ok (.aload_n 0, 1) := by decide +kernel
theorem dX7_readLine_82 : decode cX7_readLine 82 = .ok (.getfield 29, 3) := by decide +kernel
theorem dX7_readLine_85 : decode cX7_readLine 85 = .ok (.ifCond .ne 33, 3) := by decide +kernel
theorem dX7_readLine_88 : decode cX7_readLine 88 = .ok (.iload_n 2, 1) := by decide +kernel
theorem dX7_readLine_89 : decode cX7_readLine 89 = .ok (.iconst 5, 1) := by decide +kernel
theorem dX7_readLine_90 : decode cX7_readLine 90 = .ok (.if_icmp .eq 28, 3) := by decide +kernel
theorem dX7_readLine_93 : decode cX7_readLine 93 = .ok (.aload_n 0, 1) := by decide +kernel
theorem dX7_readLine_94 : decode cX7_readLine 94 = .ok (.invokevirtual 47, 3) := by decide +kernel
theorem dX7_readLine_97 : decode cX7_readLine 97 = .ok (.bipush 6, 2) := by decide +kernel
theorem dX7_readLine_99 : decode cX7_readLine 99 = .ok (.if_icmp .ne 19, 3) := by decide +kernel
theorem dX7_readLine_102 : decode cX7_readLine 102 = .ok (.aload_n 0, 1) := by decide +kernel
theorem dX7_readLine_103 : decode cX7_readLine 103 = .ok (.dup, 1) := by decide +kernel
theorem dX7_readLine_104 : decode cX7_readLine 104 = .ok (.getfield 18, 3) := by decide +kernel
theorem dX7_readLine_107 : decode cX7_readLine 107 = .ok (.iconst 1, 1) := by decide +kernel
theorem dX7_readLine_108 : decode cX7_readLine 108 = .ok (.iadd, 1) := by decide +kernel
theorem dX7_readLine_109 : decode cX7_readLine 109 = .ok (.putfield 18, 3) := by decide +kernel
theorem dX7_readLine_112 : decode cX7_readLine 112 = .ok (.aload_n 0, 1) := by decide +kernel
theorem dX7_readLine_113 : decode cX7_readLine 113 = .ok (.aload_n 1, 1) := by decide +kernel
theorem dX7_readLine_114 : decode cX7_readLine 114 = .ok (.iconst 1, 1) := by decide +kernel
theorem dX7_readLine_115 : decode cX7_readLine 115 = .ok (.invokevirtual 115, 3) := by decide +kernel
theorem dX7_readLine_118 : decode cX7_readLine 118 = .ok (.aload_n 0, 1) := by decide +kernel
theorem dX7_readLine_119 : decode cX7_readLine 119 = .ok (.getfield 29, 3) := by decide +kernel
theorem dX7_readLine_122 : decode cX7_readLine 122 = .ok (.ifCond .ne 38, 3) := by decide +kernel
theorem dX7_readLine_125 : decode cX7_readLine 125 = .ok (.aload_n 0, 1) := by decide +kernel
theorem dX7_readLine_126 : decode cX7_readLine 126 = .ok (.bipush 24, 2) := by decide +kernel
theorem dX7_readLine_128 : decode cX7_readLine 128 = .ok (.invokevirtual 119, 3) := by decide +kernel
theorem dX7_readLine_131 : decode cX7_readLine 131 = .ok (.aload_n 0, 1) := by decide +kernel
theorem dX7_readLine_132 : decode cX7_readLine 132 = .ok (.aload_n 0, 1) := by decide +kernel
theorem dX7_readLine_133 : decode cX7_readLine 133 = .ok (.getfield 25, 3) := by decide +kernel
theorem dX7_readLine_136 : decode cX7_readLine 136 = .ok (.ifCond .ne 8, 3) := by decide +kernel
theorem dX7_readLine_139 : decode cX7_readLine 139 = .ok (.iload_n 2, 1) := by decide +kernel
theorem dX7_readLine_140 : decode cX7_readLine 140 = .ok (.iconst 5, 1) := by decide +kernel
theorem dX7_readLine_141 : decode cX7_readLine 141 = .ok (.if_icmp .ne 7, 3) := by decide +kernel
theorem dX7_readLine_144 : decode cX7_readLine 144 = .ok (.iconst 1, 1) := by decide +kernel
theorem dX7_readLine_145 : decode cX7_readLine 145 = .ok (.goto 4, 3) := by decide +kernel
theorem dX7_readLine_148 : decode cX7_readLine 148 = .ok (.iconst 0, 1) := by decide +kernel
theorem dX7_readLine_149 : decode cX7_readLine 149 = .ok (.putfield 25, 3) := by decide +kernel
theorem dX7_readLine_152 : decode cX7_readLine 152 = .ok (.aload_n 1, 1) := by decide +kernel
theorem dX7_readLine_153 : decode cX7_readLine 153 = .ok (.iload_n 2, 1) := by decide +kernel
theorem dX7_readLine_154 : decode cX7_readLine 154 = .ok (.iload_n 3, 1) := by decide +kernel
theorem dX7_readLine_155 : decode cX7_readLine 155 = .ok (.iload 4, 2) := by decide +kernel
theorem dX7_readLine_157 : decode cX7_readLine 157 = .ok (.invokevirtual 122, 3) := by decide +kernel
theorem dX7_readLine_160 : decode cX7_readLine 160 = .ok (.return_, 1) := by decide +kernel
theorem dX7_readMay_0 : decode cX7_readMay 0 = .ok (.aload_n 0, 1) := by decide +kernel
theorem dX7_readMay_1 : decode cX7_readMay 1 = .ok (.invokevirtual 47, 3) := by decide +kernel
theorem dX7_readMay_4 : decode cX7_readMay 4 = .ok (.bipush 7, 2) := by decide +kernel
theorem dX7_readMay_6 : decode cX7_readMay 6 = .ok (.if_icmp .ne 15, 3) := by decide +kernel
theorem dX7_readMay_9 : decode cX7_readMay 9 = .ok (.aload_n 0, 1) := by decide +kernel
theorem dX7_readMay_10 : decode cX7_readMay 10 = .ok (.dup, 1) := by decide +kernel
theorem dX7_readMay_11 : decode cX7_readMay 11 = .ok (.getfield 18, 3) := by decide +kernel
theorem dX7_readMay_14 : decode cX7_readMay 14 = .ok (.iconst 1, 1) := by decide +kernel
theorem dX7_readMay_15 : decode cX7_readMay 15 = .ok (.iadd, 1) := by decide +kernel
theorem dX7_readMay_16 : decode cX7_readMay 16 = .ok (.putfield 18, 3) := by decide +kernel
theorem dX7_readMay_19 : decode cX7_readMay 19 = .ok (.iconst 0, 1) := by decide +kernel
theorem dX7_readMay_20 : decode cX7_readMay 20 = .ok (.ireturn, 1) := by decide +kernel
theorem dX7_readMay_21 : decode cX7_readMay 21 = .ok (.iconst 1, 1) := by decide +kernel
theorem dX7_readMay_22 : decode cX7_readMay 22 = .ok (.ireturn, 1) := by decide +kernel
theorem dX7_readNumber_0 : decode cX7_readNumber 0 = .ok (.aload_n 0, 1) := by decide +kernel
theorem dX7_readNumber_1 : decode cX7_readNumber 1 = .ok (.invokevirtual 47, 3) := by decide +kernel
theorem dX7_readNumber_4 : decode cX7_readNumber 4 = .ok (.bipush 100, 2) := by decide +kernel
theorem dX7_readNumber_6 : decode cX7_readNumber 6 = .ok (.isub, 1) := by decide +kernel
theorem dX7_readNumber_7 : decode cX7_readNumber 7 = .ok (.istore_n 1, 1) := by decide +kernel
theorem dX7_readNumber_8 : decode cX7_readNumber 8 = .ok (.iload_n 1, 1) := by decide +kernel
theorem dX7_readNumber_9 : decode cX7_readNumber 9 = .ok (.ifCond .ge 11, 3) := by decide +kernel
theorem dX7_readNumber_12 : decode cX7_readNumber 12 = .ok (.aload_n 0, 1) := by decide +kernel
theorem dX7_readNumber_13 : decode cX7_readNumber 13 = .ok (.iconst 1, 1) := by decide +kernel
theorem dX7_readNumber_14 : decode cX7_readNumber 14 = .ok (.invokevirtual 60, 3) := by decide +kernel
theorem dX7_readNumber_17 : decode cX7_readNumber 17 = .ok (.goto 28, 3) := by decide +kernel
theorem dX7_readNumber_20 : decode cX7_readNumber 20 = .ok (.iload_n 1, 1) := by decide +kernel
theorem dX7_readNumber_21 : decode cX7_readNumber 21 = .ok (.sipush 1000, 3) := by decide +kernel
theorem dX7_readNumber_24 : decode cX7_readNumber 24 = .ok (.if_icmp .le 11, 3) := by decide +kernel
theorem dX7_readNumber_27 : decode cX7_readNumber 27 = .ok (.aload_n 0, 1) := by decide +kernel
theorem dX7_readNumber_28 : decode cX7_readNumber 28 = .ok (.iconst 2, 1) := by decide +kernel
theorem dX7_readNumber_29 : decode cX7_readNumber 29 = .ok (.invokevirtual 60, 3) := by decide +kernel
theorem dX7_readNumber_32 : decode cX7_readNumber 32 = .ok (.goto 13, 3) := by decide +kernel
theorem dX7_readNumber_35 : decode cX7_readNumber 35 = .ok (.aload_n 0, 1) := by decide +kernel
theorem dX7_readNumber_36 : decode cX7_readNumber 36 = .ok (.dup, 1) := by decide +kernel
theorem dX7_readNumber_37 : decode cX7_readNumber 37 = .ok (.getfield 18, 3) := by decide +kernel
theorem dX7_readNumber_40 : decode cX7_readNumber 40 = .ok (.iconst 1, 1) := by decide +kernel
theorem dX7_readNumber_41 : decode cX7_readNumber 41 = .ok (.iadd, 1) := by decide +kernel
theorem dX7_readNumber_42 : decode cX7_readNumber 42 = .ok (.putfield 18, 3) := by decide +kernel
theorem dX7_readNumber_45 : decode cX7_readNumber 45 = .ok (.iload_n 1, 1) := by decide +kernel
theorem dX7_readNumber_46 : decode cX7_readNumber 46 = .ok (.ireturn, 1) := by decide +kernel
theorem dX7_readOne_0 : decode cX7_readOne 0 = .ok (.aload_n 0, 1) := by decide +kernel
theorem dX7_readOne_1 : decode cX7_readOne 1 = .ok (.invokevirtual 47, 3) := by decide +kernel
theorem dX7_readOne_4 : decode cX7_readOne 4 = .ok (.istore_n 3, 1) := by decide +kernel
theorem dX7_readOne_5 : decode cX7_readOne 5 = .ok (.iload_n 3, 1) := by decide +kernel
theorem dX7_readOne_6 : decode cX7_readOne 6 = .ok (.bipush 10, 2) := by decide +kernel
theorem dX7_readOne_8 : decode cX7_readOne 8 = .ok (.if_icmp .lt 13, 3) := by decide +kernel
theorem dX7_readOne_11 : decode cX7_readOne 11 = .ok (.iload_n 3, 1) := by decide +kernel
theorem dX7_readOne_12 : decode cX7_readOne 12 = .ok (.bipush 22, 2) := by decide +kernel
theorem dX7_readOne_14 : decode cX7_readOne 14 = .ok (.if_icmp .ge 7, 3) := by decide +kernel
theorem dX7_readOne_17 : decode cX7_readOne 17 = .ok (.iconst 1, 1) := by decide +kernel
theorem dX7_readOne_18 : decode cX7_readOne 18 = .ok (.goto 4, 3) := by decide +kernel
theorem dX7_readOne_21 : decode cX7_readOne 21 = .ok (.iconst 0, 1) := by decide +kernel
theorem dX7_readOne_22 : decode cX7_readOne 22 = .ok (.istore 4, 2) := by decide +kernel
theorem dX7_readOne_24 : decode cX7_readOne 24 = .ok (.iload 4, 2) := by decide +kernel
theorem dX7_readOne_26 : decode cX7_readOne 26 = .ok (.ifCond .ne 23, 3) := by decide +kernel
theorem dX7_readOne_29 : decode cX7_readOne 29 = .ok (.iload_n 3, 1) := by decide +kernel
theorem dX7_readOne_30 : decode cX7_readOne 30 = .ok (.bipush 7, 2) := by decide +kernel
theorem dX7_readOne_32 : decode cX7_readOne 32 = .ok (.if_icmp .eq 17, 3) := by decide +kernel
theorem dX7_readOne_35 : decode cX7_readOne 35 = .ok (.iload_n 3, 1) := by decide +kernel
theorem dX7_readOne_36 : decode cX7_readOne 36 = .ok (.bipush 25, 2) := by decide +kernel
theorem dX7_readOne_38 : decode cX7_readOne 38 = .ok (.if_icmp .eq 11, 3) := by decide +kernel
theorem dX7_readOne_41 : decode cX7_readOne 41 = .ok (.aload_n 0, 1) := by decide +kernel
theorem dX7_readOne_42 : decode cX7_readOne 42 = .ok (.iconst 1, 1) := by decide +kernel
theorem dX7_readOne_43 : decode cX7_readOne 43 = .ok (.invokevirtual 60, 3) := by decide +kernel
theorem dX7_readOne_46 : decode cX7_readOne 46 = .ok (.goto 102, 3) := by decide +kernel
theorem dX7_readOne_49 : decode cX7_readOne 49 = .ok (.aload_n 0, 1) := by decide +kernel
theorem dX7_readOne_50 : decode cX7_readOne 50 = .ok (.getfield 22, 3) := by decide +kernel
theorem dX7_readOne_53 : decode cX7_readOne 53 = .ok (.bipush 50, 2) := by decide +kernel
theorem dX7_readOne_55 : decode cX7_readOne 55 = .ok (.if_icmp .ge 9, 3) := by decide +kernel
theorem dX7_readOne_58 : decode cX7_readOne 58 = .ok (.iload_n 2, 1) := by decide +kernel
theorem dX7_readOne_59 : decode cX7_readOne 59 = .ok (.bipush 10, 2) := by decide +kernel
theorem dX7_readOne_61 : decode cX7_readOne 61 = .ok (.if_icmp .le 11, 3) := by decide +kernel
theorem dX7_readOne_64 : decode cX7_readOne 64 = .ok (.aload_n 0, 1) := by decide +kernel
theorem dX7_readOne_65 : decode cX7_readOne 65 = .ok (.iconst 4, 1) := by decide +kernel
theorem dX7_readOne_66 : decode cX7_readOne 66 = .ok (.invokevirtual 60, 3) := by decide +kernel
theorem dX7_readOne_69 : decode cX7_readOne 69 = .ok (.goto 79, 3) := by decide +kernel
theorem dX7_readOne_72 : decode cX7_readOne 72 = .ok (.aload_n 0, 1) := by decide +kernel
theorem dX7_readOne_73 : decode cX7_readOne 73 = .ok (.dup, 1) := by decide +kernel
theorem dX7_readOne_74 : decode cX7_readOne 74 = .ok (.getfield 22, 3) := by decide +kernel
theorem dX7_readOne_77 : decode cX7_readOne 77 = .ok (.iconst 1, 1) := by decide +kernel
theorem dX7_readOne_78 : decode cX7_readOne 78 = .ok (.iadd, 1) := by decide +kernel
theorem dX7_readOne_79 : decode cX7_readOne 79 = .ok (.putfield 22, 3) := by decide +kernel
theorem dX7_readOne_82 : decode cX7_readOne 82 = .ok (.aload_n 0, 1) := by decide +kernel
theorem dX7_readOne_83 : decode cX7_readOne 83 = .ok (.dup, 1) := by decide +kernel
theorem dX7_readOne_84 : decode cX7_readOne 84 = .ok (.getfield 18, 3) := by decide +kernel
theorem dX7_readOne_87 : decode cX7_readOne 87 = .ok (.iconst 1, 1) := by decide +kernel
theorem dX7_readOne_88 : decode cX7_readOne 88 = .ok (.iadd, 1) := by decide +kernel
theorem dX7_readOne_89 : decode cX7_readOne 89 = .ok (.putfield 18, 3) := by decide +kernel
theorem dX7_readOne_92 : decode cX7_readOne 92 = .ok (.iload 4, 2) := by decide +kernel
theorem dX7_readOne_94 : decode cX7_readOne 94 = .ok (.ifCond .eq 15, 3) := by decide +kernel
theorem dX7_readOne_97 : decode cX7_readOne 97 = .ok (.aload_n 0, 1) := by decide +kernel
theorem dX7_readOne_98 : decode cX7_readOne 98 = .ok (.aload_n 1, 1) := by decide +kernel
theorem dX7_readOne_99 : decode cX7_readOne 99 = .ok (.iload_n 3, 1) := by decide +kernel
theorem dX7_readOne_100 : decode cX7_readOne 100 = .ok (.bipush 10, 2) := by decide +kernel
theorem dX7_readOne_102 : decode cX7_readOne 102 = .ok (.isub, 1) := by decide +kernel
theorem dX7_readOne_103 : decode cX7_readOne 103 = .ok (.invokevirtual 135, 3) := by decide +kernel
theorem dX7_readOne_106 : decode cX7_readOne 106 = .ok (.goto 42, 3) := by decide +kernel
theorem dX7_readOne_109 : decode cX7_readOne 109 = .ok (.iload_n 3, 1) := by decide +kernel
theorem dX7_readOne_110 : decode cX7_readOne 110 = .ok (.bipush 25, 2) := by decide +kernel
theorem dX7_readOne_112 : decode cX7_readOne 112 = .ok (.if_icmp .ne 20, 3) := by decide +kernel
theorem dX7_readOne_115 : decode cX7_readOne 115 = .ok (.aload_n 0, 1) := by decide +kernel
theorem dX7_readOne_116 : decode cX7_readOne 116 = .ok (.aload_n 1, 1) := by decide +kernel
theorem dX7_readOne_117 : decode cX7_readOne 117 = .ok (.iload_n 2, 1) := by decide +kernel
theorem dX7_readOne_118 : decode cX7_readOne 118 = .ok (.iconst 1, 1) := by decide +kernel
theorem dX7_readOne_119 : decode cX7_readOne 119 = .ok (.iadd, 1) := by decide +kernel
theorem dX7_readOne_120 : decode cX7_readOne 120 = .ok (.invokevirtual 115, 3) := by decide +kernel
theorem dX7_readOne_123 : decode cX7_readOne 123 = .ok (.aload_n 0, 1) := by decide +kernel
theorem dX7_readOne_124 : decode cX7_readOne 124 = .ok (.bipush 26, 2) := by decide +kernel
theorem dX7_readOne_126 : decode cX7_readOne 126 = .ok (.invokevirtual 119, 3) := by decide +kernel
theorem dX7_readOne_129 : decode cX7_readOne 129 = .ok (.goto 19, 3) := by decide +kernel
theorem dX7_readOne_132 : decode cX7_readOne 132 = .ok (.aload_n 0, 1) := by decide +kernel
theorem dX7_readOne_133 : decode cX7_readOne 133 = .ok (.aload_n 1, 1) := by decide +kernel
theorem dX7_readOne_134 : decode cX7_readOne 134 = .ok (.iload_n 2, 1) := by decide +kernel
theorem dX7_readOne_135 : decode cX7_readOne 135 = .ok (.iconst 1, 1) := by decide +kernel
theorem dX7_readOne_136 : decode cX7_readOne 136 = .ok (.iadd, 1) := by decide +kernel
theorem dX7_readOne_137 : decode cX7_readOne 137 = .ok (.invokevirtual 132, 3) := by decide +kernel
theorem dX7_readOne_140 : decode cX7_readOne 140 = .ok (.aload_n 1, 1) := by decide +kernel
theorem dX7_readOne_141 : decode cX7_readOne 141 = .ok (.bipush 12, 2) := by decide +kernel
theorem dX7_readOne_143 : decode cX7_readOne 143 = .ok (.iconst 0, 1) := by decide +kernel
theorem dX7_readOne_144 : decode cX7_readOne 144 = .ok (.iconst 0, 1) := by decide +kernel
theorem dX7_readOne_145 : decode cX7_readOne 145 = .ok (.invokevirtual 129, 3) := by decide +kernel
theorem dX7_readOne_148 : decode cX7_readOne 148 = .ok (.return_, 1) := by decide +kernel
theorem fl_X7_22_8 : xF RX7 22 8 3 .int false := ⟨by decide, RX7, TX7, 7, tyX7, "PaperBoys$Reader", rfl, inlX7, tyX7_ok, nmX7, by decide, rfl, rfl, m_6_12, Or.inl rfl⟩
theorem fl_X7_25_8 : xF RX7 25 8 4 .boolean false := ⟨by decide, RX7, TX7, 7, tyX7, "PaperBoys$Reader", rfl, inlX7, tyX7_ok, nmX7, by decide, rfl, rfl, m_6_13, Or.inl rfl⟩
theorem fl_X7_39_11 : xF RX7 39 11 1 .int false := ⟨by decide, RX10, TX10, 8, tyX10, "PaperBoys$Terms", rfl, inlX10, tyX10_ok, nmX10, by decide, rfl, rfl, m_22_17, Or.inl rfl⟩
theorem fl_X7_44_11 : xF RX7 44 11 2 .int false := ⟨by decide, RX10, TX10, 8, tyX10, "PaperBoys$Terms", rfl, inlX10, tyX10_ok, nmX10, by decide, rfl, rfl, m_22_18, Or.inl rfl⟩
theorem lk_X7_109 : xLV RX7 109 yX7_readMay cX7_readMay 1 (some .int) 0 := ⟨m_26_9, m_26_10, m_26_11, m_2_13, m_26_12, by decide +kernel⟩
theorem lk_X7_112 : xLV RX7 112 yX7_readNumber cX7_readNumber 2 (some .int) 0 := ⟨m_26_13, m_26_14, m_26_15, m_2_13, m_26_16, by decide +kernel⟩
theorem lk_X7_115 : xLV RX7 115 yX7_readCond cX7_readCond 4 none 2 := ⟨m_26_17, m_26_18, m_26_19, m_2_13, m_26_20, by decide +kernel⟩
theorem lk_X7_119 : xLV RX7 119 yX7_expect cX7_expect 2 none 1 := ⟨m_27_13, m_27_14, m_27_15, m_2_13, m_27_16, by decide +kernel⟩
theorem lk_X7_122 : xLV RX7 122 yX10_addLine cX10_addLine 4 none 3 := ⟨m_27_17, m_27_18, m_27_19, m_2_9, m_27_20, by decide +kernel⟩
theorem lk_X7_126 : xLV RX7 126 yX7_readAll cX7_readAll 4 none 2 := ⟨m_26_21, m_26_22, m_26_23, m_2_13, m_27_4, by decide +kernel⟩
theorem lk_X7_129 : xLV RX7 129 yX10_addStep cX10_addStep 4 none 3 := ⟨m_27_0, m_27_1, m_27_2, m_2_9, m_27_3, by decide +kernel⟩
theorem lk_X7_132 : xLV RX7 132 yX7_readOne cX7_readOne 5 none 2 := ⟨m_27_5, m_27_6, m_27_7, m_2_13, m_27_8, by decide +kernel⟩
theorem lk_X7_135 : xLV RX7 135 yX7_readFact cX7_readFact 5 none 2 := ⟨m_27_9, m_27_10, m_27_11, m_2_13, m_27_12, by decide +kernel⟩