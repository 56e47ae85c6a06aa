theorem m_1_15 : Cond.initialized RX9 ∈ wsL_law := ch_1 _ (List.mem_of_getElem? (i := 15) rfl)
theorem m_2_22 : Cond.initialized RX8 ∈ wsL_law := ch_2 _ (List.mem_of_getElem? (i := 22) rfl)
theorem m_3_14 : Cond.arrayClass .int ∈ wsL_law := ch_3 _ (List.mem_of_getElem? (i := 14) rfl)
theorem m_7_2 : Cond.fieldLink RX8 11 "PaperBoys$Route" "stops" "[I" ∈ wsL_law := ch_7 _ (List.mem_of_getElem? (i := 2) rfl)
theorem m_7_3 : Cond.fieldLink RX8 15 "PaperBoys$Route" "by" "[I" ∈ wsL_law := ch_7 _ (List.mem_of_getElem? (i := 3) rfl)
theorem m_7_4 : Cond.fieldLink RX8 18 "PaperBoys$Route" "way" "[I" ∈ wsL_law := ch_7 _ (List.mem_of_getElem? (i := 4) rfl)
theorem m_7_5 : Cond.fieldLink RX8 21 "PaperBoys$Route" "soonest" "[I" ∈ wsL_law := ch_7 _ (List.mem_of_getElem? (i := 5) rfl)
theorem m_7_6 : Cond.fieldLink RX8 24 "PaperBoys$Route" "size" "I" ∈ wsL_law := ch_7 _ (List.mem_of_getElem? (i := 6) rfl)
theorem m_7_7 : Cond.fieldLink RX8 28 "PaperBoys$Route" "wayLength" "I" ∈ wsL_law := ch_7 _ (List.mem_of_getElem? (i := 7) rfl)
theorem m_53_22 : Cond.constant RX8 43 (1000000) ∈ wsL_law := ch_53 _ (List.mem_of_getElem? (i := 22) rfl)
theorem m_53_23 : Cond.methodLink RX8 31 yX8_learn ∈ wsL_law := ch_53 _ (List.mem_of_getElem? (i := 23) rfl)
theorem m_54_0 : Cond.instanceMethod yX8_learn ∈ wsL_law := ch_54 _ (List.mem_of_getElem? (i := 0) rfl)
theorem m_54_1 : Cond.selects RX8 yX8_learn yX8_learn ∈ wsL_law := ch_54 _ (List.mem_of_getElem? (i := 1) rfl)
theorem m_54_2 : Cond.code yX8_learn cX8_learn 3 none ∈ wsL_law := ch_54 _ (List.mem_of_getElem? (i := 2) rfl)
theorem m_54_3 : Cond.constant RX8 57 (65535) ∈ wsL_law := ch_54 _ (List.mem_of_getElem? (i := 3) rfl)
theorem m_54_4 : Cond.methodLink RX8 51 yX9_pairAt ∈ wsL_law := ch_54 _ (List.mem_of_getElem? (i := 4) rfl)
theorem m_54_5 : Cond.instanceMethod yX9_pairAt ∈ wsL_law := ch_54 _ (List.mem_of_getElem? (i := 5) rfl)
theorem m_54_6 : Cond.selects RX9 yX9_pairAt yX9_pairAt ∈ wsL_law := ch_54 _ (List.mem_of_getElem? (i := 6) rfl)
theorem m_54_7 : Cond.code yX9_pairAt cX9_pairAt 3 (some .int) ∈ wsL_law := ch_54 _ (List.mem_of_getElem? (i := 7) rfl)
theorem m_54_8 : Cond.methodLink RX8 35 yX8_findSoonest ∈ wsL_law := ch_54 _ (List.mem_of_getElem? (i := 8) rfl)
theorem m_54_9 : Cond.instanceMethod yX8_findSoonest ∈ wsL_law := ch_54 _ (List.mem_of_getElem? (i := 9) rfl)
theorem m_54_10 : Cond.selects RX8 yX8_findSoonest yX8_findSoonest ∈ wsL_law := ch_54 _ (List.mem_of_getElem? (i := 10) rfl)
theorem m_54_11 : Cond.code yX8_findSoonest cX8_findSoonest 4 none ∈ wsL_law := ch_54 _ (List.mem_of_getElem? (i := 11) rfl)
theorem m_54_12 : Cond.methodLink RX8 58 yX8_soonestAt ∈ wsL_law := ch_54 _ (List.mem_of_getElem? (i := 12) rfl)
theorem m_54_13 : Cond.instanceMethod yX8_soonestAt ∈ wsL_law := ch_54 _ (List.mem_of_getElem? (i := 13) rfl)
theorem m_54_14 : Cond.selects RX8 yX8_soonestAt yX8_soonestAt ∈ wsL_law := ch_54 _ (List.mem_of_getElem? (i := 14) rfl)
theorem m_54_15 : Cond.code yX8_soonestAt cX8_soonestAt 8 (some .int) ∈ wsL_law := ch_54 _ (List.mem_of_getElem? (i := 15) rfl)
theorem m_54_16 : Cond.fieldLink RX8 62 "PaperBoys$City" "minutes" "[[I" ∈ wsL_law := ch_54 _ (List.mem_of_getElem? (i := 16) rfl)
theorem m_54_17 : Cond.methodLink RX8 68 Lib.Math.min.name ∈ wsL_law := ch_54 _ (List.mem_of_getElem? (i := 17) rfl)
theorem m_54_18 : Cond.methodLink RX8 39 yX8_firstAtEnd ∈ wsL_law := ch_54 _ (List.mem_of_getElem? (i := 18) rfl)
theorem m_54_19 : Cond.instanceMethod yX8_firstAtEnd ∈ wsL_law := ch_54 _ (List.mem_of_getElem? (i := 19) rfl)
theorem m_54_20 : Cond.selects RX8 yX8_firstAtEnd yX8_firstAtEnd ∈ wsL_law := ch_54 _ (List.mem_of_getElem? (i := 20) rfl)
theorem m_54_21 : Cond.code yX8_firstAtEnd cX8_firstAtEnd 4 (some .int) ∈ wsL_law := ch_54 _ (List.mem_of_getElem? (i := 21) rfl)
theorem m_54_22 : Cond.methodLink RX8 44 yX8_dropOthers ∈ wsL_law := ch_54 _ (List.mem_of_getElem? (i := 22) rfl)
theorem m_54_23 : Cond.instanceMethod yX8_dropOthers ∈ wsL_law := ch_54 _ (List.mem_of_getElem? (i := 23) rfl)
theorem m_55_0 : Cond.selects RX8 yX8_dropOthers yX8_dropOthers ∈ wsL_law := ch_55 _ (List.mem_of_getElem? (i := 0) rfl)
theorem m_55_1 : Cond.code yX8_dropOthers cX8_dropOthers 8 none ∈ wsL_law := ch_55 _ (List.mem_of_getElem? (i := 1) rfl)
theorem m_55_2 : Cond.methodLink RX8 74 yX8_nextOf ∈ wsL_law := ch_55 _ (List.mem_of_getElem? (i := 2) rfl)
theorem m_55_3 : Cond.instanceMethod yX8_nextOf ∈ wsL_law := ch_55 _ (List.mem_of_getElem? (i := 3) rfl)
theorem m_55_4 : Cond.selects RX8 yX8_nextOf yX8_nextOf ∈ wsL_law := ch_55 _ (List.mem_of_getElem? (i := 4) rfl)
theorem m_55_5 : Cond.code yX8_nextOf cX8_nextOf 7 (some .int) ∈ wsL_law := ch_55 _ (List.mem_of_getElem? (i := 5) rfl)
theorem m_55_6 : Cond.methodLink RX8 48 yX8_walk ∈ wsL_law := ch_55 _ (List.mem_of_getElem? (i := 6) rfl)
theorem m_55_7 : Cond.instanceMethod yX8_walk ∈ wsL_law := ch_55 _ (List.mem_of_getElem? (i := 7) rfl)
theorem m_55_8 : Cond.selects RX8 yX8_walk yX8_walk ∈ wsL_law := ch_55 _ (List.mem_of_getElem? (i := 8) rfl)
theorem m_55_9 : Cond.code yX8_walk cX8_walk 5 none ∈ wsL_law := ch_55 _ (List.mem_of_getElem? (i := 9) rfl)
theorem kd36_0 : (decode cX8_drive 0 = .ok (.aload_n 0, 1)) ∧ (decode cX8_drive 1 = .ok (.aload_n 2, 1)) ∧ (decode cX8_drive 2 = .ok (.invokevirtual 31, 3)) ∧ (decode cX8_drive 5 = .ok (.aload_n 0, 1)) ∧ (decode cX8_drive 6 = .ok (.getfield 24, 3)) ∧ (decode cX8_drive 9 = .ok (.ifCond .ne 10, 3)) ∧ (decode cX8_drive 12 = .ok (.aload_n 0, 1)) ∧ (decode cX8_drive 13 = .ok (.iconst 0, 1)) ∧ (decode cX8_drive 14 = .ok (.putfield 28, 3)) ∧ (decode cX8_drive 17 = .ok (.iconst 0, 1)) ∧ (decode cX8_drive 18 = .ok (.ireturn, 1)) ∧ (decode cX8_drive 19 = .ok (.aload_n 0, 1)) := by decide +kernel
theorem kd36_1 : (decode cX8_drive 20 = .ok (.aload_n 1, 1)) ∧ (decode cX8_drive 21 = .ok (.invokevirtual 35, 3)) ∧ (decode cX8_drive 24 = .ok (.aload_n 0, 1)) ∧ (decode cX8_drive 25 = .ok (.invokevirtual 39, 3)) ∧ (decode cX8_drive 28 = .ok (.istore_n 3, 1)) ∧ (decode cX8_drive 29 = .ok (.iload_n 3, 1)) ∧ (decode cX8_drive 30 = .ok (.ldc 43, 2)) ∧ (decode cX8_drive 32 = .ok (.if_icmp .ne 5, 3)) ∧ (decode cX8_drive 35 = .ok (.iconst (-1), 1)) ∧ (decode cX8_drive 36 = .ok (.ireturn, 1)) ∧ (decode cX8_drive 37 = .ok (.aload_n 0, 1)) ∧ (decode cX8_drive 38 = .ok (.aload_n 1, 1)) := by decide +kernel
theorem kd36_2 : (decode cX8_drive 39 = .ok (.iload_n 3, 1)) ∧ (decode cX8_drive 40 = .ok (.invokevirtual 44, 3)) ∧ (decode cX8_drive 43 = .ok (.aload_n 0, 1)) ∧ (decode cX8_drive 44 = .ok (.aload_n 1, 1)) ∧ (decode cX8_drive 45 = .ok (.invokevirtual 48, 3)) ∧ (decode cX8_drive 48 = .ok (.iload_n 3, 1)) ∧ (decode cX8_drive 49 = .ok (.ireturn, 1)) ∧ (decode cX8_dropOthers 0 = .ok (.iconst 1, 1)) ∧ (decode cX8_dropOthers 1 = .ok (.aload_n 0, 1)) ∧ (decode cX8_dropOthers 2 = .ok (.getfield 24, 3)) ∧ (decode cX8_dropOthers 5 = .ok (.ishl, 1)) ∧ (decode cX8_dropOthers 6 = .ok (.iconst 1, 1)) := by decide +kernel
theorem kd36_3 : (decode cX8_dropOthers 7 = .ok (.isub, 1)) ∧ (decode cX8_dropOthers 8 = .ok (.istore_n 3, 1)) ∧ (decode cX8_dropOthers 9 = .ok (.iload_n 3, 1)) ∧ (decode cX8_dropOthers 10 = .ok (.istore 4, 2)) ∧ (decode cX8_dropOthers 12 = .ok (.iload 4, 2)) ∧ (decode cX8_dropOthers 14 = .ok (.ifCond .le 96, 3)) ∧ (decode cX8_dropOthers 17 = .ok (.iconst 0, 1)) ∧ (decode cX8_dropOthers 18 = .ok (.istore 5, 2)) ∧ (decode cX8_dropOthers 20 = .ok (.iload 5, 2)) ∧ (decode cX8_dropOthers 22 = .ok (.aload_n 0, 1)) ∧ (decode cX8_dropOthers 23 = .ok (.getfield 24, 3)) ∧ (decode cX8_dropOthers 26 = .ok (.if_icmp .ge 78, 3)) := by decide +kernel
theorem kd36_4 : (decode cX8_dropOthers 29 = .ok (.iload 4, 2)) ∧ (decode cX8_dropOthers 31 = .ok (.bipush 9, 2)) ∧ (decode cX8_dropOthers 33 = .ok (.imul, 1)) ∧ (decode cX8_dropOthers 34 = .ok (.iload 5, 2)) ∧ (decode cX8_dropOthers 36 = .ok (.iadd, 1)) ∧ (decode cX8_dropOthers 37 = .ok (.istore 6, 2)) ∧ (decode cX8_dropOthers 39 = .ok (.iload 4, 2)) ∧ (decode cX8_dropOthers 41 = .ok (.iload_n 3, 1)) ∧ (decode cX8_dropOthers 42 = .ok (.if_icmp .ne 22, 3)) ∧ (decode cX8_dropOthers 45 = .ok (.aload_n 0, 1)) ∧ (decode cX8_dropOthers 46 = .ok (.getfield 21, 3)) ∧ (decode cX8_dropOthers 49 = .ok (.iload 6, 2)) := by decide +kernel
theorem kd36_5 : (decode cX8_dropOthers 51 = .ok (.iaload, 1)) ∧ (decode cX8_dropOthers 52 = .ok (.iload_n 2, 1)) ∧ (decode cX8_dropOthers 53 = .ok (.if_icmp .ne 7, 3)) ∧ (decode cX8_dropOthers 56 = .ok (.iconst 1, 1)) ∧ (decode cX8_dropOthers 57 = .ok (.goto 25, 3)) ∧ (decode cX8_dropOthers 60 = .ok (.iconst 0, 1)) ∧ (decode cX8_dropOthers 61 = .ok (.goto 21, 3)) ∧ (decode cX8_dropOthers 64 = .ok (.aload_n 0, 1)) ∧ (decode cX8_dropOthers 65 = .ok (.aload_n 1, 1)) ∧ (decode cX8_dropOthers 66 = .ok (.iload 4, 2)) ∧ (decode cX8_dropOthers 68 = .ok (.iload 5, 2)) ∧ (decode cX8_dropOthers 70 = .ok (.invokevirtual 74, 3)) := by decide +kernel
theorem kd36_6 : (decode cX8_dropOthers 73 = .ok (.iconst (-1), 1)) ∧ (decode cX8_dropOthers 74 = .ok (.if_icmp .eq 7, 3)) ∧ (decode cX8_dropOthers 77 = .ok (.iconst 1, 1)) ∧ (decode cX8_dropOthers 78 = .ok (.goto 4, 3)) ∧ (decode cX8_dropOthers 81 = .ok (.iconst 0, 1)) ∧ (decode cX8_dropOthers 82 = .ok (.istore 7, 2)) ∧ (decode cX8_dropOthers 84 = .ok (.iload 7, 2)) ∧ (decode cX8_dropOthers 86 = .ok (.ifCond .ne 12, 3)) ∧ (decode cX8_dropOthers 89 = .ok (.aload_n 0, 1)) ∧ (decode cX8_dropOthers 90 = .ok (.getfield 21, 3)) ∧ (decode cX8_dropOthers 93 = .ok (.iload 6, 2)) ∧ (decode cX8_dropOthers 95 = .ok (.ldc 43, 2)) := by decide +kernel
theorem kd36_7 : (decode cX8_dropOthers 97 = .ok (.iastore, 1)) ∧ (decode cX8_dropOthers 98 = .ok (.iinc 5 1, 3)) ∧ (decode cX8_dropOthers 101 = .ok (.goto (-81), 3)) ∧ (decode cX8_dropOthers 104 = .ok (.iinc 4 (-1), 3)) ∧ (decode cX8_dropOthers 107 = .ok (.goto (-95), 3)) ∧ (decode cX8_dropOthers 110 = .ok (.return_, 1)) ∧ (decode cX8_findSoonest 0 = .ok (.iconst 1, 1)) ∧ (decode cX8_findSoonest 1 = .ok (.istore_n 2, 1)) ∧ (decode cX8_findSoonest 2 = .ok (.iload_n 2, 1)) ∧ (decode cX8_findSoonest 3 = .ok (.iconst 1, 1)) ∧ (decode cX8_findSoonest 4 = .ok (.aload_n 0, 1)) ∧ (decode cX8_findSoonest 5 = .ok (.getfield 24, 3)) := by decide +kernel
theorem kd36_8 : (decode cX8_findSoonest 8 = .ok (.ishl, 1)) ∧ (decode cX8_findSoonest 9 = .ok (.if_icmp .ge 57, 3)) ∧ (decode cX8_findSoonest 12 = .ok (.iconst 0, 1)) ∧ (decode cX8_findSoonest 13 = .ok (.istore_n 3, 1)) ∧ (decode cX8_findSoonest 14 = .ok (.iload_n 3, 1)) ∧ (decode cX8_findSoonest 15 = .ok (.aload_n 0, 1)) ∧ (decode cX8_findSoonest 16 = .ok (.getfield 24, 3)) ∧ (decode cX8_findSoonest 19 = .ok (.if_icmp .ge 41, 3)) ∧ (decode cX8_findSoonest 22 = .ok (.aload_n 0, 1)) ∧ (decode cX8_findSoonest 23 = .ok (.getfield 21, 3)) ∧ (decode cX8_findSoonest 26 = .ok (.iload_n 2, 1)) ∧ (decode cX8_findSoonest 27 = .ok (.bipush 9, 2)) := by decide +kernel
theorem kd36_9 : (decode cX8_findSoonest 29 = .ok (.imul, 1)) ∧ (decode cX8_findSoonest 30 = .ok (.iload_n 3, 1)) ∧ (decode cX8_findSoonest 31 = .ok (.iadd, 1)) ∧ (decode cX8_findSoonest 32 = .ok (.iload_n 2, 1)) ∧ (decode cX8_findSoonest 33 = .ok (.iload_n 3, 1)) ∧ (decode cX8_findSoonest 34 = .ok (.ishr, 1)) ∧ (decode cX8_findSoonest 35 = .ok (.iconst 1, 1)) ∧ (decode cX8_findSoonest 36 = .ok (.iand, 1)) ∧ (decode cX8_findSoonest 37 = .ok (.iconst 1, 1)) ∧ (decode cX8_findSoonest 38 = .ok (.if_icmp .ne 13, 3)) ∧ (decode cX8_findSoonest 41 = .ok (.aload_n 0, 1)) ∧ (decode cX8_findSoonest 42 = .ok (.aload_n 1, 1)) := by decide +kernel
theorem kd36_10 : (decode cX8_findSoonest 43 = .ok (.iload_n 2, 1)) ∧ (decode cX8_findSoonest 44 = .ok (.iload_n 3, 1)) ∧ (decode cX8_findSoonest 45 = .ok (.invokevirtual 58, 3)) ∧ (decode cX8_findSoonest 48 = .ok (.goto 5, 3)) ∧ (decode cX8_findSoonest 51 = .ok (.ldc 43, 2)) ∧ (decode cX8_findSoonest 53 = .ok (.iastore, 1)) ∧ (decode cX8_findSoonest 54 = .ok (.iinc 3 1, 3)) ∧ (decode cX8_findSoonest 57 = .ok (.goto (-43), 3)) ∧ (decode cX8_findSoonest 60 = .ok (.iinc 2 1, 3)) ∧ (decode cX8_findSoonest 63 = .ok (.goto (-61), 3)) ∧ (decode cX8_findSoonest 66 = .ok (.return_, 1)) ∧ (decode cX8_firstAtEnd 0 = .ok (.iconst 1, 1)) := by decide +kernel
theorem kd36_11 : (decode cX8_firstAtEnd 1 = .ok (.aload_n 0, 1)) ∧ (decode cX8_firstAtEnd 2 = .ok (.getfield 24, 3)) ∧ (decode cX8_firstAtEnd 5 = .ok (.ishl, 1)) ∧ (decode cX8_firstAtEnd 6 = .ok (.iconst 1, 1)) ∧ (decode cX8_firstAtEnd 7 = .ok (.isub, 1)) ∧ (decode cX8_firstAtEnd 8 = .ok (.istore_n 1, 1)) ∧ (decode cX8_firstAtEnd 9 = .ok (.ldc 43, 2)) ∧ (decode cX8_firstAtEnd 11 = .ok (.istore_n 2, 1)) ∧ (decode cX8_firstAtEnd 12 = .ok (.iconst 0, 1)) ∧ (decode cX8_firstAtEnd 13 = .ok (.istore_n 3, 1)) ∧ (decode cX8_firstAtEnd 14 = .ok (.iload_n 3, 1)) ∧ (decode cX8_firstAtEnd 15 = .ok (.aload_n 0, 1)) := by decide +kernel
theorem kd36_12 : (decode cX8_firstAtEnd 16 = .ok (.getfield 24, 3)) ∧ (decode cX8_firstAtEnd 19 = .ok (.if_icmp .ge 25, 3)) ∧ (decode cX8_firstAtEnd 22 = .ok (.iload_n 2, 1)) ∧ (decode cX8_firstAtEnd 23 = .ok (.aload_n 0, 1)) ∧ (decode cX8_firstAtEnd 24 = .ok (.getfield 21, 3)) ∧ (decode cX8_firstAtEnd 27 = .ok (.iload_n 1, 1)) ∧ (decode cX8_firstAtEnd 28 = .ok (.bipush 9, 2)) ∧ (decode cX8_firstAtEnd 30 = .ok (.imul, 1)) ∧ (decode cX8_firstAtEnd 31 = .ok (.iload_n 3, 1)) ∧ (decode cX8_firstAtEnd 32 = .ok (.iadd, 1)) ∧ (decode cX8_firstAtEnd 33 = .ok (.iaload, 1)) ∧ (decode cX8_firstAtEnd 34 = .ok (.invokestatic 68, 3)) := by decide +kernel
theorem kd36_13 : (decode cX8_firstAtEnd 37 = .ok (.istore_n 2, 1)) ∧ (decode cX8_firstAtEnd 38 = .ok (.iinc 3 1, 3)) ∧ (decode cX8_firstAtEnd 41 = .ok (.goto (-27), 3)) ∧ (decode cX8_firstAtEnd 44 = .ok (.iload_n 2, 1)) ∧ (decode cX8_firstAtEnd 45 = .ok (.ireturn, 1)) ∧ (decode cX8_learn 0 = .ok (.aload_n 0, 1)) ∧ (decode cX8_learn 1 = .ok (.iconst 0, 1)) ∧ (decode cX8_learn 2 = .ok (.putfield 24, 3)) ∧ (decode cX8_learn 5 = .ok (.iconst 1, 1)) ∧ (decode cX8_learn 6 = .ok (.istore_n 2, 1)) ∧ (decode cX8_learn 7 = .ok (.iload_n 2, 1)) ∧ (decode cX8_learn 8 = .ok (.bipush 10, 2)) := by decide +kernel
theorem kd36_14 : (decode cX8_learn 10 = .ok (.if_icmp .ge 53, 3)) ∧ (decode cX8_learn 13 = .ok (.aload_n 1, 1)) ∧ (decode cX8_learn 14 = .ok (.iload_n 2, 1)) ∧ (decode cX8_learn 15 = .ok (.invokevirtual 51, 3)) ∧ (decode cX8_learn 18 = .ok (.ldc 57, 2)) ∧ (decode cX8_learn 20 = .ok (.if_icmp .eq 37, 3)) ∧ (decode cX8_learn 23 = .ok (.aload_n 0, 1)) ∧ (decode cX8_learn 24 = .ok (.getfield 11, 3)) ∧ (decode cX8_learn 27 = .ok (.aload_n 0, 1)) ∧ (decode cX8_learn 28 = .ok (.getfield 24, 3)) ∧ (decode cX8_learn 31 = .ok (.iload_n 2, 1)) ∧ (decode cX8_learn 32 = .ok (.iastore, 1)) := by decide +kernel
theorem kd36_15 : (decode cX8_learn 33 = .ok (.aload_n 0, 1)) ∧ (decode cX8_learn 34 = .ok (.getfield 15, 3)) ∧ (decode cX8_learn 37 = .ok (.aload_n 0, 1)) ∧ (decode cX8_learn 38 = .ok (.getfield 24, 3)) ∧ (decode cX8_learn 41 = .ok (.aload_n 1, 1)) ∧ (decode cX8_learn 42 = .ok (.iload_n 2, 1)) ∧ (decode cX8_learn 43 = .ok (.invokevirtual 51, 3)) ∧ (decode cX8_learn 46 = .ok (.iastore, 1)) ∧ (decode cX8_learn 47 = .ok (.aload_n 0, 1)) ∧ (decode cX8_learn 48 = .ok (.dup, 1)) ∧ (decode cX8_learn 49 = .ok (.getfield 24, 3)) ∧ (decode cX8_learn 52 = .ok (.iconst 1, 1)) := by decide +kernel
theorem kd36_16 : (decode cX8_learn 53 = .ok (.iadd, 1)) ∧ (decode cX8_learn 54 = .ok (.putfield 24, 3)) ∧ (decode cX8_learn 57 = .ok (.iinc 2 1, 3)) ∧ (decode cX8_learn 60 = .ok (.goto (-53), 3)) ∧ (decode cX8_learn 63 = .ok (.iconst 1, 1)) ∧ (decode cX8_learn 64 = .ok (.aload_n 0, 1)) ∧ (decode cX8_learn 65 = .ok (.getfield 24, 3)) ∧ (decode cX8_learn 68 = .ok (.ishl, 1)) ∧ (decode cX8_learn 69 = .ok (.bipush 9, 2)) ∧ (decode cX8_learn 71 = .ok (.imul, 1)) ∧ (decode cX8_learn 72 = .ok (.istore_n 2, 1)) ∧ (decode cX8_learn 73 = .ok (.aload_n 0, 1)) := by decide +kernel
theorem kd36_17 : (decode cX8_learn 74 = .ok (.getfield 21, 3)) ∧ (decode cX8_learn 77 = .ok (.arraylength, 1)) ∧ (decode cX8_learn 78 = .ok (.iload_n 2, 1)) ∧ (decode cX8_learn 79 = .ok (.if_icmp .ge 10, 3)) ∧ (decode cX8_learn 82 = .ok (.aload_n 0, 1)) ∧ (decode cX8_learn 83 = .ok (.iload_n 2, 1)) ∧ (decode cX8_learn 84 = .ok (.newarray .int, 2)) ∧ (decode cX8_learn 86 = .ok (.putfield 21, 3)) ∧ (decode cX8_learn 89 = .ok (.return_, 1)) ∧ (decode cX8_nextOf 0 = .ok (.aload_n 0, 1)) ∧ (decode cX8_nextOf 1 = .ok (.getfield 21, 3)) ∧ (decode cX8_nextOf 4 = .ok (.iload_n 2, 1)) := by decide +kernel
theorem kd36_18 : (decode cX8_nextOf 5 = .ok (.bipush 9, 2)) ∧ (decode cX8_nextOf 7 = .ok (.imul, 1)) ∧ (decode cX8_nextOf 8 = .ok (.iload_n 3, 1)) ∧ (decode cX8_nextOf 9 = .ok (.iadd, 1)) ∧ (decode cX8_nextOf 10 = .ok (.iaload, 1)) ∧ (decode cX8_nextOf 11 = .ok (.istore 4, 2)) ∧ (decode cX8_nextOf 13 = .ok (.iconst 0, 1)) ∧ (decode cX8_nextOf 14 = .ok (.istore 5, 2)) ∧ (decode cX8_nextOf 16 = .ok (.iload 5, 2)) ∧ (decode cX8_nextOf 18 = .ok (.aload_n 0, 1)) ∧ (decode cX8_nextOf 19 = .ok (.getfield 24, 3)) ∧ (decode cX8_nextOf 22 = .ok (.if_icmp .ge 74, 3)) := by decide +kernel
theorem kd36_19 : (decode cX8_nextOf 25 = .ok (.iload 4, 2)) ∧ (decode cX8_nextOf 27 = .ok (.ldc 43, 2)) ∧ (decode cX8_nextOf 29 = .ok (.if_icmp .eq 67, 3)) ∧ (decode cX8_nextOf 32 = .ok (.iload 4, 2)) ∧ (decode cX8_nextOf 34 = .ok (.aload_n 1, 1)) ∧ (decode cX8_nextOf 35 = .ok (.getfield 62, 3)) ∧ (decode cX8_nextOf 38 = .ok (.aload_n 0, 1)) ∧ (decode cX8_nextOf 39 = .ok (.getfield 11, 3)) ∧ (decode cX8_nextOf 42 = .ok (.iload_n 3, 1)) ∧ (decode cX8_nextOf 43 = .ok (.iaload, 1)) ∧ (decode cX8_nextOf 44 = .ok (.aaload, 1)) ∧ (decode cX8_nextOf 45 = .ok (.aload_n 0, 1)) := by decide +kernel
theorem kd36_20 : (decode cX8_nextOf 46 = .ok (.getfield 11, 3)) ∧ (decode cX8_nextOf 49 = .ok (.iload 5, 2)) ∧ (decode cX8_nextOf 51 = .ok (.iaload, 1)) ∧ (decode cX8_nextOf 52 = .ok (.iaload, 1)) ∧ (decode cX8_nextOf 53 = .ok (.iadd, 1)) ∧ (decode cX8_nextOf 54 = .ok (.istore 6, 2)) ∧ (decode cX8_nextOf 56 = .ok (.iload_n 2, 1)) ∧ (decode cX8_nextOf 57 = .ok (.iload 5, 2)) ∧ (decode cX8_nextOf 59 = .ok (.ishr, 1)) ∧ (decode cX8_nextOf 60 = .ok (.iconst 1, 1)) ∧ (decode cX8_nextOf 61 = .ok (.iand, 1)) ∧ (decode cX8_nextOf 62 = .ok (.ifCond .ne 28, 3)) := by decide +kernel
theorem kd36_21 : (decode cX8_nextOf 65 = .ok (.aload_n 0, 1)) ∧ (decode cX8_nextOf 66 = .ok (.getfield 21, 3)) ∧ (decode cX8_nextOf 69 = .ok (.iload_n 2, 1)) ∧ (decode cX8_nextOf 70 = .ok (.iconst 1, 1)) ∧ (decode cX8_nextOf 71 = .ok (.iload 5, 2)) ∧ (decode cX8_nextOf 73 = .ok (.ishl, 1)) ∧ (decode cX8_nextOf 74 = .ok (.ior, 1)) ∧ (decode cX8_nextOf 75 = .ok (.bipush 9, 2)) ∧ (decode cX8_nextOf 77 = .ok (.imul, 1)) ∧ (decode cX8_nextOf 78 = .ok (.iload 5, 2)) ∧ (decode cX8_nextOf 80 = .ok (.iadd, 1)) ∧ (decode cX8_nextOf 81 = .ok (.iaload, 1)) := by decide +kernel
theorem kd36_22 : (decode cX8_nextOf 82 = .ok (.iload 6, 2)) ∧ (decode cX8_nextOf 84 = .ok (.if_icmp .ne 6, 3)) ∧ (decode cX8_nextOf 87 = .ok (.iload 5, 2)) ∧ (decode cX8_nextOf 89 = .ok (.ireturn, 1)) ∧ (decode cX8_nextOf 90 = .ok (.iinc 5 1, 3)) ∧ (decode cX8_nextOf 93 = .ok (.goto (-77), 3)) ∧ (decode cX8_nextOf 96 = .ok (.iconst (-1), 1)) ∧ (decode cX8_nextOf 97 = .ok (.ireturn, 1)) ∧ (decode cX8_soonestAt 0 = .ok (.aload_n 1, 1)) ∧ (decode cX8_soonestAt 1 = .ok (.getfield 62, 3)) ∧ (decode cX8_soonestAt 4 = .ok (.aload_n 0, 1)) ∧ (decode cX8_soonestAt 5 = .ok (.getfield 11, 3)) := by decide +kernel
theorem kd36_23 : (decode cX8_soonestAt 8 = .ok (.iload_n 3, 1)) ∧ (decode cX8_soonestAt 9 = .ok (.iaload, 1)) ∧ (decode cX8_soonestAt 10 = .ok (.aaload, 1)) ∧ (decode cX8_soonestAt 11 = .ok (.astore 4, 2)) ∧ (decode cX8_soonestAt 13 = .ok (.iload_n 2, 1)) ∧ (decode cX8_soonestAt 14 = .ok (.iconst 1, 1)) ∧ (decode cX8_soonestAt 15 = .ok (.iload_n 3, 1)) ∧ (decode cX8_soonestAt 16 = .ok (.ishl, 1)) ∧ (decode cX8_soonestAt 17 = .ok (.ixor, 1)) ∧ (decode cX8_soonestAt 18 = .ok (.istore 5, 2)) ∧ (decode cX8_soonestAt 20 = .ok (.iload 5, 2)) ∧ (decode cX8_soonestAt 22 = .ok (.ifCond .ne 10, 3)) := by decide +kernel
theorem kd36_24 : (decode cX8_soonestAt 25 = .ok (.aload 4, 2)) ∧ (decode cX8_soonestAt 27 = .ok (.iconst 0, 1)) ∧ (decode cX8_soonestAt 28 = .ok (.iaload, 1)) ∧ (decode cX8_soonestAt 29 = .ok (.goto 5, 3)) ∧ (decode cX8_soonestAt 32 = .ok (.ldc 43, 2)) ∧ (decode cX8_soonestAt 34 = .ok (.istore 6, 2)) ∧ (decode cX8_soonestAt 36 = .ok (.iconst 0, 1)) ∧ (decode cX8_soonestAt 37 = .ok (.istore 7, 2)) ∧ (decode cX8_soonestAt 39 = .ok (.iload 7, 2)) ∧ (decode cX8_soonestAt 41 = .ok (.aload_n 0, 1)) ∧ (decode cX8_soonestAt 42 = .ok (.getfield 24, 3)) ∧ (decode cX8_soonestAt 45 = .ok (.if_icmp .ge 45, 3)) := by decide +kernel
theorem kd36_25 : (decode cX8_soonestAt 48 = .ok (.iload 5, 2)) ∧ (decode cX8_soonestAt 50 = .ok (.ifCond .eq 40, 3)) ∧ (decode cX8_soonestAt 53 = .ok (.iload 6, 2)) ∧ (decode cX8_soonestAt 55 = .ok (.aload_n 0, 1)) ∧ (decode cX8_soonestAt 56 = .ok (.getfield 21, 3)) ∧ (decode cX8_soonestAt 59 = .ok (.iload 5, 2)) ∧ (decode cX8_soonestAt 61 = .ok (.bipush 9, 2)) ∧ (decode cX8_soonestAt 63 = .ok (.imul, 1)) ∧ (decode cX8_soonestAt 64 = .ok (.iload 7, 2)) ∧ (decode cX8_soonestAt 66 = .ok (.iadd, 1)) ∧ (decode cX8_soonestAt 67 = .ok (.iaload, 1)) ∧ (decode cX8_soonestAt 68 = .ok (.aload 4, 2)) := by decide +kernel
theorem kd36_26 : (decode cX8_soonestAt 70 = .ok (.aload_n 0, 1)) ∧ (decode cX8_soonestAt 71 = .ok (.getfield 11, 3)) ∧ (decode cX8_soonestAt 74 = .ok (.iload 7, 2)) ∧ (decode cX8_soonestAt 76 = .ok (.iaload, 1)) ∧ (decode cX8_soonestAt 77 = .ok (.iaload, 1)) ∧ (decode cX8_soonestAt 78 = .ok (.iadd, 1)) ∧ (decode cX8_soonestAt 79 = .ok (.invokestatic 68, 3)) ∧ (decode cX8_soonestAt 82 = .ok (.istore 6, 2)) ∧ (decode cX8_soonestAt 84 = .ok (.iinc 7 1, 3)) ∧ (decode cX8_soonestAt 87 = .ok (.goto (-48), 3)) ∧ (decode cX8_soonestAt 90 = .ok (.iload 6, 2)) ∧ (decode cX8_soonestAt 92 = .ok (.aload_n 0, 1)) := by decide +kernel
theorem kd36_27 : (decode cX8_soonestAt 93 = .ok (.getfield 15, 3)) ∧ (decode cX8_soonestAt 96 = .ok (.iload_n 3, 1)) ∧ (decode cX8_soonestAt 97 = .ok (.iaload, 1)) ∧ (decode cX8_soonestAt 98 = .ok (.if_icmp .gt 8, 3)) ∧ (decode cX8_soonestAt 101 = .ok (.iload 6, 2)) ∧ (decode cX8_soonestAt 103 = .ok (.goto 5, 3)) ∧ (decode cX8_soonestAt 106 = .ok (.ldc 43, 2)) ∧ (decode cX8_soonestAt 108 = .ok (.ireturn, 1)) ∧ (decode cX8_walk 0 = .ok (.iconst (-1), 1)) ∧ (decode cX8_walk 1 = .ok (.istore_n 2, 1)) ∧ (decode cX8_walk 2 = .ok (.aload_n 0, 1)) ∧ (decode cX8_walk 3 = .ok (.getfield 24, 3)) := by decide +kernel
theorem kd36_28 : (decode cX8_walk 6 = .ok (.iconst 1, 1)) ∧ (decode cX8_walk 7 = .ok (.isub, 1)) ∧ (decode cX8_walk 8 = .ok (.istore_n 3, 1)) ∧ (decode cX8_walk 9 = .ok (.iload_n 3, 1)) ∧ (decode cX8_walk 10 = .ok (.ifCond .lt 29, 3)) ∧ (decode cX8_walk 13 = .ok (.aload_n 0, 1)) ∧ (decode cX8_walk 14 = .ok (.getfield 21, 3)) ∧ (decode cX8_walk 17 = .ok (.iconst 1, 1)) ∧ (decode cX8_walk 18 = .ok (.iload_n 3, 1)) ∧ (decode cX8_walk 19 = .ok (.ishl, 1)) ∧ (decode cX8_walk 20 = .ok (.bipush 9, 2)) ∧ (decode cX8_walk 22 = .ok (.imul, 1)) := by decide +kernel
theorem kd36_29 : (decode cX8_walk 23 = .ok (.iload_n 3, 1)) ∧ (decode cX8_walk 24 = .ok (.iadd, 1)) ∧ (decode cX8_walk 25 = .ok (.iaload, 1)) ∧ (decode cX8_walk 26 = .ok (.ldc 43, 2)) ∧ (decode cX8_walk 28 = .ok (.if_icmp .eq 5, 3)) ∧ (decode cX8_walk 31 = .ok (.iload_n 3, 1)) ∧ (decode cX8_walk 32 = .ok (.istore_n 2, 1)) ∧ (decode cX8_walk 33 = .ok (.iinc 3 (-1), 3)) ∧ (decode cX8_walk 36 = .ok (.goto (-27), 3)) ∧ (decode cX8_walk 39 = .ok (.iconst 0, 1)) ∧ (decode cX8_walk 40 = .ok (.istore_n 3, 1)) ∧ (decode cX8_walk 41 = .ok (.aload_n 0, 1)) := by decide +kernel
theorem kd36_30 : (decode cX8_walk 42 = .ok (.iconst 0, 1)) ∧ (decode cX8_walk 43 = .ok (.putfield 28, 3)) ∧ (decode cX8_walk 46 = .ok (.iconst 0, 1)) ∧ (decode cX8_walk 47 = .ok (.istore 4, 2)) ∧ (decode cX8_walk 49 = .ok (.iload 4, 2)) ∧ (decode cX8_walk 51 = .ok (.aload_n 0, 1)) ∧ (decode cX8_walk 52 = .ok (.getfield 24, 3)) ∧ (decode cX8_walk 55 = .ok (.if_icmp .ge 51, 3)) ∧ (decode cX8_walk 58 = .ok (.iload_n 2, 1)) ∧ (decode cX8_walk 59 = .ok (.iconst (-1), 1)) ∧ (decode cX8_walk 60 = .ok (.if_icmp .eq 46, 3)) ∧ (decode cX8_walk 63 = .ok (.aload_n 0, 1)) := by decide +kernel
theorem kd36_31 : (decode cX8_walk 64 = .ok (.getfield 18, 3)) ∧ (decode cX8_walk 67 = .ok (.iload 4, 2)) ∧ (decode cX8_walk 69 = .ok (.aload_n 0, 1)) ∧ (decode cX8_walk 70 = .ok (.getfield 11, 3)) ∧ (decode cX8_walk 73 = .ok (.iload_n 2, 1)) ∧ (decode cX8_walk 74 = .ok (.iaload, 1)) ∧ (decode cX8_walk 75 = .ok (.iastore, 1)) ∧ (decode cX8_walk 76 = .ok (.aload_n 0, 1)) ∧ (decode cX8_walk 77 = .ok (.dup, 1)) ∧ (decode cX8_walk 78 = .ok (.getfield 28, 3)) ∧ (decode cX8_walk 81 = .ok (.iconst 1, 1)) ∧ (decode cX8_walk 82 = .ok (.iadd, 1)) := by decide +kernel
theorem kd36_32 : (decode cX8_walk 83 = .ok (.putfield 28, 3)) ∧ (decode cX8_walk 86 = .ok (.iload_n 3, 1)) ∧ (decode cX8_walk 87 = .ok (.iconst 1, 1)) ∧ (decode cX8_walk 88 = .ok (.iload_n 2, 1)) ∧ (decode cX8_walk 89 = .ok (.ishl, 1)) ∧ (decode cX8_walk 90 = .ok (.ior, 1)) ∧ (decode cX8_walk 91 = .ok (.istore_n 3, 1)) ∧ (decode cX8_walk 92 = .ok (.aload_n 0, 1)) ∧ (decode cX8_walk 93 = .ok (.aload_n 1, 1)) ∧ (decode cX8_walk 94 = .ok (.iload_n 3, 1)) ∧ (decode cX8_walk 95 = .ok (.iload_n 2, 1)) ∧ (decode cX8_walk 96 = .ok (.invokevirtual 74, 3)) := by decide +kernel
theorem kd36_33 : (decode cX8_walk 99 = .ok (.istore_n 2, 1)) ∧ (decode cX8_walk 100 = .ok (.iinc 4 1, 3)) ∧ (decode cX8_walk 103 = .ok (.goto (-54), 3)) ∧ (decode cX8_walk 106 = .ok (.return_, 1)) := by decide +kernel
theorem fl_X8_11_9 : xF RX8 11 9 0 (.array .int) true := ⟨by decide, RX8, TX8, 6, tyX8, "PaperBoys$Route", rfl, inlX8, tyX8_ok, nmX8, by decide, rfl, rfl, m_7_2, Or.inl rfl⟩
theorem fl_X8_15_9 : xF RX8 15 9 1 (.array .int) true := ⟨by decide, RX8, TX8, 6, tyX8, "PaperBoys$Route", rfl, inlX8, tyX8_ok, nmX8, by decide, rfl, rfl, m_7_3, Or.inl rfl⟩
theorem fl_X8_18_9 : xF RX8 18 9 2 (.array .int) true := ⟨by decide, RX8, TX8, 6, tyX8, "PaperBoys$Route", rfl, inlX8, tyX8_ok, nmX8, by decide, rfl, rfl, m_7_4, Or.inl rfl⟩
theorem fl_X8_21_9 : xF RX8 21 9 3 (.array .int) false := ⟨by decide, RX8, TX8, 6, tyX8, "PaperBoys$Route", rfl, inlX8, tyX8_ok, nmX8, by decide, rfl, rfl, m_7_5, Or.inl rfl⟩
theorem fl_X8_24_9 : xF RX8 24 9 4 .int false := ⟨by decide, RX8, TX8, 6, tyX8, "PaperBoys$Route", rfl, inlX8, tyX8_ok, nmX8, by decide, rfl, rfl, m_7_6, Or.inl rfl⟩
theorem fl_X8_28_9 : xF RX8 28 9 5 .int false := ⟨by decide, RX8, TX8, 6, tyX8, "PaperBoys$Route", rfl, inlX8, tyX8_ok, nmX8, by decide, rfl, rfl, m_7_7, Or.inl rfl⟩
theorem fl_X8_62_4 : xF RX8 62 4 6 (.array (.array .int)) true := ⟨by decide, RX3, TX3, 7, tyX3, "PaperBoys$City", rfl, inlX3, tyX3_ok, nmX3, by decide, rfl, rfl, m_54_16, Or.inl rfl⟩
theorem lk_X8_31 : xLV RX8 31 yX8_learn cX8_learn 3 none 1 := ⟨m_53_23, m_54_0, m_54_1, m_2_22, m_54_2, by decide +kernel⟩
theorem lk_X8_35 : xLV RX8 35 yX8_findSoonest cX8_findSoonest 4 none 1 := ⟨m_54_8, m_54_9, m_54_10, m_2_22, m_54_11, by decide +kernel⟩
theorem lk_X8_39 : xLV RX8 39 yX8_firstAtEnd cX8_firstAtEnd 4 (some .int) 0 := ⟨m_54_18, m_54_19, m_54_20, m_2_22, m_54_21, by decide +kernel⟩
theorem lk_X8_44 : xLV RX8 44 yX8_dropOthers cX8_dropOthers 8 none 2 := ⟨m_54_22, m_54_23, m_55_0, m_2_22, m_55_1, by decide +kernel⟩
theorem lk_X8_48 : xLV RX8 48 yX8_walk cX8_walk 5 none 1 := ⟨m_55_6, m_55_7, m_55_8, m_2_22, m_55_9, by decide +kernel⟩
theorem lk_X8_51 : xLV RX8 51 yX9_pairAt cX9_pairAt 3 (some .int) 1 := ⟨m_54_4, m_54_5, m_54_6, m_1_15, m_54_7, by decide +kernel⟩
theorem lk_X8_58 : xLV RX8 58 yX8_soonestAt cX8_soonestAt 8 (some .int) 3 := ⟨m_54_12, m_54_13, m_54_14, m_2_22, m_54_15, by decide +kernel⟩
theorem lk_X8_74 : xLV RX8 74 yX8_nextOf cX8_nextOf 7 (some .int) 3 := ⟨m_55_2, m_55_3, m_55_4, m_2_22, m_55_5, by decide +kernel⟩
theorem mm_X8_68 : Cond.methodLink RX8 68 Lib.Math.min.name ∈ wsL_law ∧ Cond.static Lib.Math.min.name ∈ wsL_law ∧ Cond.initialized "java/lang/Math" ∈ wsL_law ∧ Cond.code Lib.Math.min.name Lib.Math.min.code 2 (some .int) ∈ wsL_law := ⟨m_54_17, m_15_1, m_13_23, m_15_2⟩
def xSn (S : xT) : Prop := ∀ b m, S b = some (13400, m) → m ≤ 4608
theorem xSn_set {S S1 : xT} {q n : Nat} (h : xSn S) (hS : S1 = xset S q (13400, n)) (hn : n ≤ 4608) : xSn S1 := by
  intro b m hb
  by_cases e : b = q
  · rw [e, hS, xset_s] at hb; cases hb; exact hn
  · rw [hS, xset_o e] at hb; exact h b m hb
theorem xst9 {z n : Int} {m : Nat} (p : z = ((2 ^ n.toNat : Nat) : Int)) (h : z * 9 ≤ m) : 9 * 2 ^ n.toNat ≤ m := by
  generalize 2 ^ n.toNat = q at p ⊢
  omega
def xtc (m c : Nat) : Nat := m / 2 ^ c % 2
def xpo (m : Nat) : Nat := xtc m 0 + xtc m 1 + xtc m 2 + xtc m 3 + xtc m 4 + xtc m 5 + xtc m 6 + xtc m 7 + xtc m 8
set_option maxRecDepth 100000 in
theorem xn_shr : ∀ m : Fin 512, ∀ c : Fin 9, (iI ((m.val : Nat) : Int) >>> (iI ((c.val : Nat) : Int) &&& 31)) &&& iI 1 = iI ((xtc m.val c.val : Nat) : Int) := by decide +kernel
set_option maxRecDepth 100000 in
theorem xn_or : ∀ m : Fin 512, ∀ c : Fin 9, xtc m.val c.val = 0 → iI ((m.val : Nat) : Int) ||| (iI 1 <<< (iI ((c.val : Nat) : Int) &&& 31)) = iI ((m.val + 2 ^ c.val : Nat) : Int) := by decide +kernel
set_option maxRecDepth 100000 in
theorem xn_xor : ∀ m : Fin 512, ∀ c : Fin 9, xtc m.val c.val = 1 → iI ((m.val : Nat) : Int) ^^^ (iI 1 <<< (iI ((c.val : Nat) : Int) &&& 31)) = iI ((m.val - 2 ^ c.val : Nat) : Int) := by decide +kernel
set_option maxRecDepth 100000 in
theorem xn_and : ∀ m : Fin 512, ∀ c : Fin 9, xtc m.val c.val = 1 → iI ((m.val : Nat) : Int) &&& ((iI 1 <<< (iI ((c.val : Nat) : Int) &&& 31)) ^^^ iI (-1)) = iI ((m.val - 2 ^ c.val : Nat) : Int) := by decide +kernel
set_option maxRecDepth 100000 in
theorem xn_up : ∀ m : Fin 512, ∀ d : Fin 9, xtc m.val d.val = 0 → m.val + 2 ^ d.val < 512 ∧ xpo (m.val + 2 ^ d.val) = xpo m.val + 1 ∧ xtc (m.val + 2 ^ d.val) d.val = 1 ∧ ∀ c : Fin 9, c ≠ d → xtc (m.val + 2 ^ d.val) c.val = xtc m.val c.val := by decide +kernel
set_option maxRecDepth 100000 in
theorem xn_dn : ∀ m : Fin 512, ∀ d : Fin 9, xtc m.val d.val = 1 → 2 ^ d.val ≤ m.val ∧ xpo m.val = xpo (m.val - 2 ^ d.val) + 1 ∧ xtc (m.val - 2 ^ d.val) d.val = 0 := by decide +kernel
set_option maxRecDepth 100000 in
theorem xn_pop : ∀ m : Fin 512, ∀ n : Fin 10, m.val < 2 ^ n.val → xpo m.val ≤ n.val ∧ (xpo m.val = n.val → m.val + 1 = 2 ^ n.val) ∧ (m.val + 1 = 2 ^ n.val → xpo m.val = n.val) := by decide +kernel
set_option maxRecDepth 100000 in
theorem xn_lt : ∀ m : Fin 512, ∀ n : Fin 10, (∀ c : Fin 9, n.val ≤ c.val → xtc m.val c.val = 0) → m.val < 2 ^ n.val := by decide +kernel
theorem xtc01 (m c : Nat) : xtc m c = 0 ∨ xtc m c = 1 := by
  unfold xtc
  omega
theorem xp2 {n : Int} (h : 0 ≤ n ∧ n ≤ 9) : (2 ^ n.toNat : Nat) ≤ 512 := Nat.le_trans (Nat.pow_le_pow_right (by decide) (show n.toNat ≤ 9 by omega)) (by decide)
def xmn (t : Int → Int) : Nat → Nat
  | 0 => 0
  | k + 1 => xmn t k + 2 ^ (t k).toNat
theorem xmn_cg {t t' : Int → Int} {b : Nat} (h : ∀ k : Int, 0 ≤ k → k < b → t k = t' k) : xmn t b = xmn t' b := by
  induction b with
  | zero => rfl
  | succ b ih => show xmn t b + _ = xmn t' b + _; rw [ih (fun k q1 q2 => h k q1 (by omega)), h b (by omega) (by omega)]
def xPfz (n : Int) (t : Int → Int) (b : Nat) : Prop := (b : Int) ≤ n ∧ (∀ k : Int, 0 ≤ k → k < b → 0 ≤ t k ∧ t k < n) ∧ ∀ i j : Int, 0 ≤ i → i < b → 0 ≤ j → j < b → i ≠ j → t i ≠ t j
theorem xPfz.lt {n : Int} {t : Int → Int} {b c : Nat} (h : xPfz n t b) (hc : c ≤ b) : xPfz n t c := ⟨by have := h.1; omega, fun k q1 q2 => h.2.1 k q1 (by omega), fun i j q1 q2 q3 q4 q5 => h.2.2 i j q1 (by omega) q3 (by omega) q5⟩
theorem xPfz.cg {n : Int} {t t' : Int → Int} {b : Nat} (h : xPfz n t b) (e : ∀ k : Int, 0 ≤ k → k < b → t' k = t k) : xPfz n t' b := ⟨h.1, fun k q1 q2 => by rw [e k q1 q2]; exact h.2.1 k q1 q2, fun i j q1 q2 q3 q4 q5 => by rw [e i q1 q2, e j q3 q4]; exact h.2.2 i j q1 q2 q3 q4 q5⟩
theorem xmn_in {n : Int} {t : Int → Int} (hn : n ≤ 9) : ∀ b : Nat, xPfz n t b → xmn t b < 512 ∧ xpo (xmn t b) = b ∧ ∀ c : Nat, c < 9 → (xtc (xmn t b) c = 1 ↔ ∃ k : Int, 0 ≤ k ∧ k < b ∧ t k = c) := by
  intro b
  induction b with
  | zero =>
    intro _
    refine ⟨show 0 < 512 by decide, show xpo 0 = 0 by decide, fun c _ => ⟨fun q => ?_, fun ⟨k, q1, q2, _⟩ => by omega⟩⟩
    have : xtc 0 c = 0 := by unfold xtc; rw [Nat.zero_div]
    rw [show xmn t 0 = 0 from rfl, this] at q
    cases q
  | succ b ih =>
    rintro ⟨h1, h2, h3⟩
    obtain ⟨a1, a2, a3⟩ := ih ⟨by omega, fun k q1 q2 => h2 k q1 (by omega), fun i j q1 q2 q3 q4 q5 => h3 i j q1 (by omega) q3 (by omega) q5⟩
    have r := h2 b (by omega) (by omega)
    have hd : (t b).toNat < 9 := by omega
    have z : xtc (xmn t b) (t b).toNat = 0 := by
      rcases xtc01 (xmn t b) (t b).toNat with q | q
      · exact q
      · obtain ⟨k, w1, w2, w3⟩ := (a3 _ hd).mp q
        exact absurd (show t k = t b by omega) (h3 k b w1 (by omega) (by omega) (by omega) (by omega))
    obtain ⟨u1, u2, u3, u4⟩ := xn_up ⟨xmn t b, a1⟩ ⟨(t b).toNat, hd⟩ z
    refine ⟨u1, ?_, fun c hc => ?_⟩
    · show xpo (xmn t b + 2 ^ (t b).toNat) = b + 1
      exact u2.trans (by show xpo (xmn t b) + 1 = b + 1; rw [a2])
    · show xtc (xmn t b + 2 ^ (t b).toNat) c = 1 ↔ _
      by_cases e : c = (t b).toNat
      · subst e
        exact ⟨fun _ => ⟨b, by omega, by omega, by omega⟩, fun _ => u3⟩
      · have u := u4 ⟨c, hc⟩ (fun q => e (congrArg Fin.val q))
        rw [show xtc (xmn t b + 2 ^ (t b).toNat) c = xtc (xmn t b) c from u, a3 c hc]
        refine ⟨fun ⟨k, w1, w2, w3⟩ => ⟨k, w1, by omega, w3⟩, fun ⟨k, w1, w2, w3⟩ => ⟨k, w1, ?_, w3⟩⟩
        by_cases q : k = b
        · subst q; omega
        · omega
theorem xmn_lt {n : Int} {t : Int → Int} {b : Nat} (hn : 0 ≤ n ∧ n ≤ 9) (h : xPfz n t b) : xmn t b < 2 ^ n.toNat := by
  obtain ⟨a1, a2, a3⟩ := xmn_in hn.2 b h
  refine xn_lt ⟨xmn t b, a1⟩ ⟨n.toNat, by omega⟩ (fun c hc => ?_)
  rcases xtc01 (xmn t b) c.val with q | q
  · exact q
  · obtain ⟨k, w1, w2, w3⟩ := (a3 _ c.isLt).mp q
    have := h.2.1 k w1 w2
    have hc' : n.toNat ≤ c.val := hc
    omega
theorem xmn_full {n : Int} {t : Int → Int} {b : Nat} (hn : 0 ≤ n ∧ n ≤ 9) (h : xPfz n t b) : b = n.toNat ↔ xmn t b + 1 = 2 ^ n.toNat := by
  obtain ⟨a1, a2, a3⟩ := xmn_in hn.2 b h
  have p := xn_pop ⟨xmn t b, a1⟩ ⟨n.toNat, by omega⟩ (xmn_lt hn h)
  have p2 : xpo (xmn t b) = n.toNat → xmn t b + 1 = 2 ^ n.toNat := p.2.1
  have p3 : xmn t b + 1 = 2 ^ n.toNat → xpo (xmn t b) = n.toNat := p.2.2
  rw [a2] at p2 p3
  exact ⟨p2, p3⟩
theorem xmn_pos {t : Int → Int} {b : Nat} : 1 ≤ xmn t (b + 1) := by
  show 1 ≤ xmn t b + 2 ^ (t b).toNat
  have : 0 < 2 ^ (t b).toNat := Nat.two_pow_pos _
  omega
theorem xmn_same {n : Int} {t t' : Int → Int} {b b' : Nat} (hn : n ≤ 9) (h : xPfz n t b) (h' : xPfz n t' b') (e : xmn t b = xmn t' b') : b = b' ∧ ∀ k : Int, 0 ≤ k → k < b → ∃ j : Int, 0 ≤ j ∧ j < b' ∧ t' j = t k := by
  obtain ⟨a1, a2, a3⟩ := xmn_in hn b h
  obtain ⟨c1, c2, c3⟩ := xmn_in hn b' h'
  refine ⟨by rw [← a2, ← c2, e], fun k q1 q2 => ?_⟩
  have r := h.2.1 k q1 q2
  have w := (a3 (t k).toNat (by omega)).mpr ⟨k, q1, q2, by omega⟩
  rw [e] at w
  obtain ⟨j, w1, w2, w3⟩ := (c3 (t k).toNat (by omega)).mp w
  exact ⟨j, w1, w2, by omega⟩
theorem xmn_no {n : Int} {t : Int → Int} {b : Nat} {c : Int} (hn : n ≤ 9) (h : xPfz n t b) (hc : 0 ≤ c ∧ c < n) : xtc (xmn t b) c.toNat = 0 ↔ ∀ k : Int, 0 ≤ k → k < b → t k ≠ c := by
  obtain ⟨a1, a2, a3⟩ := xmn_in hn b h
  have w := a3 c.toNat (by omega)
  rcases xtc01 (xmn t b) c.toNat with q | q
  · refine ⟨fun _ k q1 q2 q3 => ?_, fun _ => q⟩
    have := w.mpr ⟨k, q1, q2, by omega⟩
    omega
  · refine ⟨fun q' => by omega, fun hk => ?_⟩
    obtain ⟨k, q1, q2, q3⟩ := w.mp q
    exact absurd (show t k = c by omega) (hk k q1 q2)
theorem xPfz.ext {n : Int} {t : Int → Int} {b : Nat} (hn : 0 ≤ n ∧ n ≤ 9) (h : xPfz n t b) (hc : 0 ≤ t b ∧ t b < n) (hz : xtc (xmn t b) (t b).toNat = 0) : xPfz n t (b + 1) := by
  have no := (xmn_no hn.2 h hc).mp hz
  obtain ⟨a1, a2, a3⟩ := xmn_in hn.2 b h
  have hb : (b : Int) ≠ n := fun e => by
    have f := (xmn_full hn h).mp (by omega)
    obtain ⟨u1, u2, u3, u4⟩ := xn_up ⟨xmn t b, a1⟩ ⟨(t b).toNat, by omega⟩ hz
    have z : xtc (xmn t b) (t b).toNat = 1 := by
      rcases xtc01 (xmn t b) (t b).toNat with q | q
      · exfalso
        have key : ∀ n : Fin 10, ∀ c : Fin 9, c.val < n.val → xtc (2 ^ n.val - 1) c.val = 1 := by decide +kernel
        have k := key ⟨n.toNat, by omega⟩ ⟨(t b).toNat, by omega⟩ (show (t b).toNat < n.toNat by omega)
        have e2 : xmn t b = 2 ^ n.toNat - 1 := by omega
        rw [e2] at q
        have k' : xtc (2 ^ n.toNat - 1) (t b).toNat = 1 := k
        omega
      · exact q
    omega
  refine ⟨by have := h.1; omega, fun k q1 q2 => ?_, fun i j q1 q2 q3 q4 q5 => ?_⟩
  · by_cases e : k = b
    · rw [e]; exact hc
    · exact h.2.1 k q1 (by omega)
  · by_cases e : i = b
    · rw [e]; exact fun q => no j q3 (by omega) q.symm
    · by_cases e' : j = b
      · rw [e']; exact no i q1 (by omega)
      · exact h.2.2 i j q1 (by omega) q3 (by omega) q5
def xar (F : Int → Int) (W : Int → Int → Int) (v : Int → Int) : Nat → Int
  | 0 => F (v 0)
  | k + 1 => xar F W v k + W (v k) (v (k + 1))
theorem xar_cg {F : Int → Int} {W : Int → Int → Int} {v v' : Int → Int} {m : Nat} (h : ∀ k : Int, 0 ≤ k → k ≤ m → v k = v' k) : xar F W v m = xar F W v' m := by
  induction m with
  | zero => show F (v 0) = F (v' 0); rw [h 0 (by omega) (by omega)]
  | succ m ih => show xar F W v m + W (v m) (v (m + 1)) = xar F W v' m + W (v' m) (v' (m + 1)); rw [ih (fun k q1 q2 => h k q1 (by omega)), h m (by omega) (by omega), h (m + 1) (by omega) (by omega)]
def xFz (n : Int) (F : Int → Int) (W : Int → Int → Int) (B v : Int → Int) (b : Nat) : Prop := xPfz n v b ∧ ∀ k : Nat, k < b → xar F W v k ≤ B (v k)
theorem xFz.lt {n : Int} {F B v : Int → Int} {W : Int → Int → Int} {b c : Nat} (h : xFz n F W B v b) (hc : c ≤ b) : xFz n F W B v c := ⟨h.1.lt hc, fun k q => h.2 k (by omega)⟩
theorem xFz.cg {n : Int} {F B v v' : Int → Int} {W : Int → Int → Int} {b : Nat} (h : xFz n F W B v b) (e : ∀ k : Int, 0 ≤ k → k < b → v' k = v k) : xFz n F W B v' b := ⟨h.1.cg e, fun k q => by
  rw [xar_cg (v := v') (v' := v) (fun i q1 q2 => e i q1 (by omega)), e k (by omega) (by omega)]; exact h.2 k q⟩
def xSv (n : Int) (F : Int → Int) (W : Int → Int → Int) (B : Int → Int) (s l z : Int) : Prop := (∀ (v : Int → Int) (b : Nat), xFz n F W B v (b + 1) → ((xmn v (b + 1) : Nat) : Int) = s → v b = l → z ≤ xar F W v b) ∧ (z = 1000000 ∨ ∃ (v : Int → Int) (b : Nat), xFz n F W B v (b + 1) ∧ ((xmn v (b + 1) : Nat) : Int) = s ∧ v b = l ∧ xar F W v b = z)
theorem xSv.no {n s l : Int} {F B : Int → Int} {W : Int → Int → Int} (hn : n ≤ 9) (hl : 0 ≤ l ∧ l < n) (h : xtc s.toNat l.toNat = 0) : xSv n F W B s l 1000000 := by
  refine ⟨fun v b hv hs he => ?_, Or.inl rfl⟩
  have w := (xmn_no hn hv.1 (c := l) hl).mp (by rw [show xmn v (b + 1) = s.toNat by omega]; exact h)
  exact absurd he (w b (by omega) (by omega))
theorem xSv.key1 {n s l : Int} {F B v : Int → Int} {W : Int → Int → Int} {b : Nat} (hn : n ≤ 9) (hl : 0 ≤ l ∧ l < n) (hs : s = ((2 ^ l.toNat : Nat) : Int)) (hv : xFz n F W B v (b + 1)) (e : ((xmn v (b + 1) : Nat) : Int) = s) (he : v b = l) : b = 0 := by
  have hx : xPfz n (fun _ => l) 1 := ⟨by omega, fun _ _ _ => hl, fun i j q1 q2 q3 q4 q5 => by omega⟩
  have hm : xmn (fun _ => l) 1 = 2 ^ l.toNat := Nat.zero_add _
  have := (xmn_same hn hv.1 hx (by rw [hm]; omega)).1
  omega
theorem xSv.one {n s l : Int} {F B : Int → Int} {W : Int → Int → Int} (hn : n ≤ 9) (hl : 0 ≤ l ∧ l < n) (hs : s = ((2 ^ l.toNat : Nat) : Int)) (h : F l ≤ B l) : xSv n F W B s l (F l) := by
  refine ⟨fun v b hv e he => ?_, Or.inr ⟨fun _ => l, 0, ⟨⟨by omega, fun _ _ _ => hl, fun i j q1 q2 q3 q4 q5 => by omega⟩, fun k hk => ?_⟩, ?_, rfl, rfl⟩⟩
  · have b0 := xSv.key1 hn hl hs hv e he
    subst b0
    show F l ≤ F (v 0)
    rw [show v 0 = l from he]
    exact Int.le_refl _
  · rw [show k = 0 by omega]; exact h
  · show ((0 + 2 ^ l.toNat : Nat) : Int) = s
    rw [Nat.zero_add, hs]
theorem xSv.one0 {n s l : Int} {F B : Int → Int} {W : Int → Int → Int} (hn : n ≤ 9) (hl : 0 ≤ l ∧ l < n) (hs : s = ((2 ^ l.toNat : Nat) : Int)) (h : B l < F l) : xSv n F W B s l 1000000 := by
  refine ⟨fun v b hv e he => ?_, Or.inl rfl⟩
  have b0 := xSv.key1 hn hl hs hv e he
  subst b0
  have w := hv.2 0 (by omega)
  have w' : F (v 0) ≤ B (v 0) := w
  rw [show v 0 = l from he] at w'
  omega
theorem xSv.mo {n s l a m : Int} {F B D : Int → Int} {W : Int → Int → Int} (hn : 0 ≤ n ∧ n ≤ 9) (hl : 0 ≤ l ∧ l < n) (hs : 0 ≤ s ∧ s < ((2 ^ n.toNat : Nat) : Int)) (hb : xtc s.toNat l.toNat = 1) (ha : a = s - ((2 ^ l.toNat : Nat) : Int)) (ha0 : a ≠ 0) (hD : ∀ f, 0 ≤ f → f < n → xSv n F W B a f (D f)) (m1 : ∀ f, 0 ≤ f → f < n → m ≤ D f + W f l) (m2 : m = 1000000 ∨ ∃ f, 0 ≤ f ∧ f < n ∧ m = D f + W f l) (hB : B l < 1000000) (hW : ∀ f, 0 ≤ f → f < n → 0 ≤ W f l) : (m ≤ B l → xSv n F W B s l m) ∧ (B l < m → xSv n F W B s l 1000000) := by
  have h512 := xp2 hn
  have key : ∀ (v : Int → Int) (b : Nat), xFz n F W B v (b + 1) → ((xmn v (b + 1) : Nat) : Int) = s → v b = l → m ≤ xar F W v b ∧ xar F W v b ≤ B l := by
    intro v b hv e he
    have hm : xmn v (b + 1) = xmn v b + 2 ^ l.toNat := by show xmn v b + 2 ^ (v b).toNat = _; rw [he]
    cases b with
    | zero => exfalso; rw [hm, show xmn v 0 = 0 from rfl] at e; omega
    | succ c =>
      have w := (hD (v c) (hv.1.2.1 c (by omega) (by omega)).1 (hv.1.2.1 c (by omega) (by omega)).2).1 v c (hv.lt (by omega)) (by omega) rfl
      have w1 := m1 (v c) (hv.1.2.1 c (by omega) (by omega)).1 (hv.1.2.1 c (by omega) (by omega)).2
      have w2 := hv.2 (c + 1) (by omega)
      have he' : v ((c : Int) + 1) = l := he
      have w3 : xar F W v (c + 1) = xar F W v c + W (v c) l := by show xar F W v c + W (v c) (v (c + 1)) = _; rw [he']
      have w4 : xar F W v (c + 1) ≤ B l := by rw [← he]; exact w2
      exact ⟨by omega, w4⟩
  refine ⟨fun hm => ⟨fun v b hv e he => (key v b hv e he).1, ?_⟩, fun hm => ⟨fun v b hv e he => ?_, Or.inl rfl⟩⟩
  · rcases m2 with q | ⟨f, f1, f2, f3⟩
    · omega
    · have wf := hW f f1 f2
      rcases (hD f f1 f2).2 with q | ⟨v, b, v1, v2, v3, v4⟩
      · omega
      · refine Or.inr ⟨fun k => if k = (b : Int) + 1 then l else v k, b + 1, ?_⟩
        have eo : ∀ k : Int, k ≤ b → (if k = (b : Int) + 1 then l else v k) = v k := fun k q => if_neg (by omega)
        have el : (if (b : Int) + 1 = (b : Int) + 1 then l else v ((b : Int) + 1)) = l := if_pos rfl
        have hmk : xmn (fun k => if k = (b : Int) + 1 then l else v k) (b + 1) = xmn v (b + 1) := xmn_cg (fun k q1 q2 => eo k (by omega))
        have p1 : xPfz n (fun k => if k = (b : Int) + 1 then l else v k) (b + 1) := v1.1.cg (fun k q1 q2 => eo k (by omega))
        have hz : xtc (xmn v (b + 1)) l.toNat = 0 := by
          have d := (xn_dn ⟨s.toNat, by omega⟩ ⟨l.toNat, by omega⟩ hb).2.2
          have e1 : xmn v (b + 1) = s.toNat - 2 ^ l.toNat := by omega
          rw [e1]; exact d
        have p2 : xPfz n (fun k => if k = (b : Int) + 1 then l else v k) (b + 1 + 1) := p1.ext hn (by show 0 ≤ (if ((b + 1 : Nat) : Int) = (b : Int) + 1 then l else _) ∧ _; rw [if_pos (by omega)]; exact hl) (by rw [hmk]; show xtc (xmn v (b + 1)) (if ((b + 1 : Nat) : Int) = (b : Int) + 1 then l else v _).toNat = 0; rw [if_pos (by omega)]; exact hz)
        have ar1 : ∀ k : Nat, k ≤ b → xar F W (fun k => if k = (b : Int) + 1 then l else v k) k = xar F W v k := fun k hk => xar_cg (fun i q1 q2 => eo i (by omega))
        have ar2 : xar F W (fun k => if k = (b : Int) + 1 then l else v k) (b + 1) = m := by
          show xar F W _ b + W (if (b : Int) = (b : Int) + 1 then l else v b) (if (b : Int) + 1 = (b : Int) + 1 then l else v _) = m
          rw [ar1 b (Nat.le_refl b), el, eo b (by omega), v3, v4]
          omega
        refine ⟨⟨p2, fun k hk => ?_⟩, ?_, ?_, ar2⟩
        · by_cases e : k = b + 1
          · subst e
            rw [ar2]
            show m ≤ B (if ((b + 1 : Nat) : Int) = (b : Int) + 1 then l else v _)
            rw [if_pos (by omega)]
            exact hm
          · rw [ar1 k (by omega)]
            show _ ≤ B (if (k : Int) = (b : Int) + 1 then l else v k)
            rw [eo k (by omega)]
            exact v1.2 k (by omega)
        · show ((xmn _ (b + 1) + 2 ^ (if ((b + 1 : Nat) : Int) = (b : Int) + 1 then l else v _).toNat : Nat) : Int) = s
          rw [if_pos (by omega), hmk]
          omega
        · show (if ((b + 1 : Nat) : Int) = (b : Int) + 1 then l else v _) = l
          exact if_pos (by omega)
  · have := key v b hv e he
    omega
def xDp (n : Int) (F : Int → Int) (W : Int → Int → Int) (B D : Int → Int) (s0 l0 : Int) : Prop := ∀ s l, 1 ≤ s → s < ((2 ^ n.toNat : Nat) : Int) → 0 ≤ l → l < n → (s < s0 ∨ (s = s0 ∧ l < l0)) → xSv n F W B s l (D (9 * s + l))
theorem xDp.z {n : Int} {F B D : Int → Int} {W : Int → Int → Int} : xDp n F W B D 1 0 := fun s l q1 q2 q3 q4 q5 => by omega
theorem xDp.s {n s l j z : Int} {F B D D' : Int → Int} {W : Int → Int → Int} (h : xDp n F W B D s l) (hn : n ≤ 9) (hl : 0 ≤ l ∧ l < n) (hs : 1 ≤ s) (hj : j = 9 * s + l) (h1 : D' j = z) (h2 : ∀ i, 0 ≤ i → i ≠ j → D' i = D i) (hz : xSv n F W B s l z) : xDp n F W B D' s (l + 1) := fun s' l' q1 q2 q3 q4 q5 => by
  by_cases e : s' = s ∧ l' = l
  · rw [e.1, e.2, ← hj, h1]; exact hz
  · rw [h2 _ (by omega) (by omega)]
    exact h s' l' q1 q2 q3 q4 (by omega)
theorem xDp.row {n s l : Int} {F B D : Int → Int} {W : Int → Int → Int} (h : xDp n F W B D s l) (hl : n ≤ l) : xDp n F W B D (s + 1) 0 := fun s' l' q1 q2 q3 q4 q5 => h s' l' q1 q2 q3 q4 (by omega)
def xMi (T : Int → Int) (k m : Int) : Prop := (∀ f, 0 ≤ f → f < k → m ≤ T f) ∧ m ≤ 1000000 ∧ (m = 1000000 ∨ ∃ f, 0 ≤ f ∧ f < k ∧ m = T f)
theorem xMi.z {T : Int → Int} : xMi T 0 1000000 := ⟨fun f q1 q2 => by omega, by omega, Or.inl rfl⟩
theorem xMi.s {T : Int → Int} {k m m' t : Int} (h : xMi T k m) (hk : 0 ≤ k) (ht : T k = t) (e : (m ≤ t ∧ m' = m) ∨ (t ≤ m ∧ m' = t)) : xMi T (k + 1) m' := by
  refine ⟨fun f q1 q2 => ?_, by have := h.2.1; omega, ?_⟩
  · by_cases q : f = k
    · rw [q, ht]; omega
    · have := h.1 f q1 (by omega); omega
  · rcases e with e | e
    · rcases h.2.2 with w | ⟨f, f1, f2, f3⟩
      · exact Or.inl (by omega)
      · exact Or.inr ⟨f, f1, by omega, by omega⟩
    · exact Or.inr ⟨k, hk, by omega, by omega⟩
def xDr (n : Int) (W : Int → Int → Int) (D E : Int → Int) (e a s0 l0 : Int) : Prop := ∀ s l, 1 ≤ s → s ≤ a → 0 ≤ l → l < n → ((s0 < s ∨ (s = s0 ∧ l < l0)) → (E (9 * s + l) = D (9 * s + l) ∨ E (9 * s + l) = 1000000) ∧ (s = a → (E (9 * s + l) ≠ 1000000 ↔ D (9 * s + l) = e)) ∧ (s ≠ a → (E (9 * s + l) ≠ 1000000 ↔ (D (9 * s + l) ≠ 1000000 ∧ ∃ x, 0 ≤ x ∧ x < n ∧ xtc s.toNat x.toNat = 0 ∧ E (9 * (s + ((2 ^ x.toNat : Nat) : Int)) + x) = D (9 * s + l) + W l x)))) ∧ (¬ (s0 < s ∨ (s = s0 ∧ l < l0)) → E (9 * s + l) = D (9 * s + l))
theorem xDr.z {n e a : Int} {W : Int → Int → Int} {D : Int → Int} : xDr n W D D e a a 0 := fun s l q1 q2 q3 q4 => ⟨fun q => by omega, fun _ => rfl⟩
def xLx (n : Int) (v t : Int → Int) : Prop := ∀ d, 0 ≤ d → d < n → (∀ k, 0 ≤ k → k < d → v k = t k) → v d ≤ t d
theorem xLx.as {n : Int} {v t : Int → Int} (h : xLx n v t) (h' : xLx n t v) : ∀ k, 0 ≤ k → k < n → v k = t k := by
  have key : ∀ m : Nat, ∀ k : Int, 0 ≤ k → k < m → k < n → v k = t k := by
    intro m
    induction m with
    | zero => intro k q1 q2; omega
    | succ m ih =>
      intro k q1 q2 q3
      have a := h k q1 q3 (fun i w1 w2 => ih i w1 (by omega) (by omega))
      have b := h' k q1 q3 (fun i w1 w2 => (ih i w1 (by omega) (by omega)).symm)
      omega
  exact fun k q1 q2 => key (k.toNat + 1) k q1 (by omega) q2
def xBw (n : Int) (F : Int → Int) (W : Int → Int → Int) (B : Int → Int) (e : Int) (v : Int → Int) : Prop := xFz n F W B v n.toNat ∧ xar F W v (n.toNat - 1) = e ∧ ∀ t, xFz n F W B t n.toNat → e < xar F W t (n.toNat - 1) ∨ (xar F W t (n.toNat - 1) = e ∧ xLx n v t)
theorem xBw.det {n e e' : Int} {F B v v' : Int → Int} {W : Int → Int → Int} (h : xBw n F W B e v) (h' : xBw n F W B e' v') : e = e' ∧ ∀ k, 0 ≤ k → k < n → v k = v' k := by
  have a := h.2.2 v' h'.1
  have b := h'.2.2 v h.1
  have ea := h.2.1
  have eb := h'.2.1
  have ee : e = e' := by omega
  refine ⟨ee, ?_⟩
  have a2 : xLx n v v' := by
    rcases a with q | q
    · omega
    · exact q.2
  have b2 : xLx n v' v := by
    rcases b with q | q
    · omega
    · exact q.2
  exact a2.as b2
section XTR
variable {n e a : Int} {F B D E : Int → Int} {W : Int → Int → Int}
theorem xtr_cat {v t : Int → Int} {b : Nat} (hn : 0 ≤ n ∧ n ≤ 9) (ht : xFz n F W B t n.toNat) (hb : (b : Int) + 1 < n) (hv : xFz n F W B v (b + 1)) (em : xmn v (b + 1) = xmn t (b + 1)) (el : v b = t b) (hl : xar F W v b < xar F W t b) : ∃ w, xFz n F W B w n.toNat ∧ xar F W w (n.toNat - 1) < xar F W t (n.toNat - 1) := by
  have tp : xPfz n t (b + 1) := ht.1.lt (by omega)
  have sm := (xmn_same hn.2 hv.1 tp em).2
  let w : Int → Int := fun k => if k ≤ b then v k else t k
  have w1 : ∀ k : Int, k ≤ b → w k = v k := fun k q => if_pos q
  have w2 : ∀ k : Int, ¬ k ≤ b → w k = t k := fun k q => if_neg q
  have w3 : ∀ k : Int, (b : Int) ≤ k → w k = t k := fun k q => by
    by_cases e : k = b
    · rw [w1 k (by omega), e, el]
    · exact w2 k (by omega)
  have c1 : ∀ k : Nat, k ≤ b → xar F W w k = xar F W v k := fun k hk => xar_cg (fun i q1 q2 => w1 i (by omega))
  have c2 : ∀ k : Nat, xar F W w (b + k) = xar F W t (b + k) - (xar F W t b - xar F W v b) := by
    intro k
    induction k with
    | zero => show xar F W w b = xar F W t b - (xar F W t b - xar F W v b); rw [c1 b (Nat.le_refl b)]; omega
    | succ k ih =>
      show xar F W w (b + k) + W (w ((b + k : Nat) : Int)) (w (((b + k : Nat) : Int) + 1)) = xar F W t (b + k) + W (t ((b + k : Nat) : Int)) (t (((b + k : Nat) : Int) + 1)) - _
      rw [ih, w3 _ (by omega), w3 _ (by omega)]
      omega
  have inP : xPfz n w n.toNat := by
    refine ⟨by omega, fun k q1 q2 => ?_, fun i j q1 q2 q3 q4 q5 => ?_⟩
    · by_cases q : k ≤ b
      · rw [w1 k q]; exact hv.1.2.1 k q1 (by omega)
      · rw [w2 k q]; exact ht.1.2.1 k q1 q2
    · by_cases qi : i ≤ b
      · by_cases qj : j ≤ b
        · rw [w1 i qi, w1 j qj]; exact hv.1.2.2 i j q1 (by omega) q3 (by omega) q5
        · rw [w1 i qi, w2 j qj]
          obtain ⟨k, k1, k2, k3⟩ := sm i q1 (by omega)
          rw [← k3]
          exact ht.1.2.2 k j k1 (by omega) q3 q4 (by omega)
      · by_cases qj : j ≤ b
        · rw [w2 i qi, w1 j qj]
          obtain ⟨k, k1, k2, k3⟩ := sm j q3 (by omega)
          rw [← k3]
          exact ht.1.2.2 i k q1 q2 k1 (by omega) (by omega)
        · rw [w2 i qi, w2 j qj]; exact ht.1.2.2 i j q1 q2 q3 q4 q5
  refine ⟨w, ⟨inP, fun k hk => ?_⟩, ?_⟩
  · by_cases q : k ≤ b
    · rw [c1 k q, w1 k (by omega)]; exact hv.2 k (by omega)
    · have c := c2 (k - b)
      rw [show b + (k - b) = k by omega] at c
      rw [c, w2 k (by omega)]
      have := ht.2 k hk
      omega
  · have c := c2 (n.toNat - 1 - b)
    rw [show b + (n.toNat - 1 - b) = n.toNat - 1 by omega] at c
    omega
def xTz (n : Int) (F : Int → Int) (W : Int → Int → Int) (B D E : Int → Int) (e a : Int) : Prop := (∀ s l, 1 ≤ s → s ≤ a → 0 ≤ l → l < n → xSv n F W B s l (D (9 * s + l))) ∧ (∀ l, 0 ≤ l → l < n → e ≤ D (9 * a + l)) ∧ (∀ s l, 1 ≤ s → s ≤ a → 0 ≤ l → l < n → (E (9 * s + l) = D (9 * s + l) ∨ E (9 * s + l) = 1000000) ∧ (s = a → (E (9 * s + l) ≠ 1000000 ↔ D (9 * s + l) = e)) ∧ (s ≠ a → (E (9 * s + l) ≠ 1000000 ↔ (D (9 * s + l) ≠ 1000000 ∧ ∃ x, 0 ≤ x ∧ x < n ∧ xtc s.toNat x.toNat = 0 ∧ E (9 * (s + ((2 ^ x.toNat : Nat) : Int)) + x) = D (9 * s + l) + W l x))))
theorem xTz.opt (hn : 1 ≤ n ∧ n ≤ 9) (ha : a + 1 = ((2 ^ n.toNat : Nat) : Int)) (hB : ∀ i, 0 ≤ i → i < n → B i < 900000) (he : e < 900000) (h : xTz n F W B D E e a) {t : Int → Int} (ht : xFz n F W B t n.toNat) (hte : xar F W t (n.toNat - 1) = e) : ∀ j b : Nat, b + 1 + j = n.toNat → E (9 * ((xmn t (b + 1) : Nat) : Int) + t b) = xar F W t b := by
  have hn0 : 0 ≤ n ∧ n ≤ 9 := ⟨by omega, hn.2⟩
  intro j
  induction j with
  | zero =>
    intro b hb
    have px := ht.1.lt (c := b + 1) (by omega)
    have fm := (xmn_full hn0 px).mp (by omega)
    have r := ht.1.2.1 b (by omega) (by omega)
    have ea : ((xmn t (b + 1) : Nat) : Int) = a := by omega
    have pos := xmn_pos (t := t) (b := b)
    have d1 := (h.1 a (t b) (by omega) (by omega) r.1 r.2).1 t b (ht.lt (by omega)) ea rfl
    have d2 := h.2.1 (t b) r.1 r.2
    have eb : xar F W t b = e := by rw [← hte, show n.toNat - 1 = b by omega]
    obtain ⟨p1, p2, p3⟩ := h.2.2 a (t b) (by omega) (by omega) r.1 r.2
    have ne := (p2 rfl).mpr (by omega)
    rw [ea]
    rcases p1 with q | q
    · rw [q]; omega
    · exact absurd q ne
  | succ j ih =>
    intro b hb
    have up := ih (b + 1) (by omega)
    have px := ht.1.lt (c := b + 1) (by omega)
    have r := ht.1.2.1 b (by omega) (by omega)
    have r2 := ht.1.2.1 ((b : Int) + 1) (by omega) (by omega)
    have pos := xmn_pos (t := t) (b := b)
    have lt := xmn_lt hn0 px
    have nf : ¬ xmn t (b + 1) + 1 = 2 ^ n.toNat := fun q => by
      have := (xmn_full hn0 px).mpr q
      omega
    have sa : ((xmn t (b + 1) : Nat) : Int) ≠ a := by omega
    have d0 := h.1 ((xmn t (b + 1) : Nat) : Int) (t b) (by omega) (by omega) r.1 r.2
    have d1 := d0.1 t b (ht.lt (by omega)) rfl rfl
    have fb := ht.2 b (by omega)
    have bb := hB (t b) r.1 r.2
    have de : D (9 * ((xmn t (b + 1) : Nat) : Int) + t b) = xar F W t b := by
      rcases d0.2 with q | ⟨v, b', v1, v2, v3, v4⟩
      · omega
      · have em : xmn v (b' + 1) = xmn t (b + 1) := by omega
        have eb := (xmn_same hn.2 v1.1 px em).1
        have eb' : b' = b := by omega
        subst eb'
        by_cases q : xar F W v b' < xar F W t b'
        · exfalso
          obtain ⟨w, w1, w2⟩ := xtr_cat hn0 ht (by omega) v1 em v3 q
          have wr := w1.1.2.1 ((n.toNat - 1 : Nat) : Int) (by omega) (by omega)
          have wpx := w1.1.lt (c := n.toNat - 1 + 1) (by omega)
          have wf := (xmn_full hn0 wpx).mp (by omega)
          have wd := (h.1 a (w ((n.toNat - 1 : Nat) : Int)) (by omega) (by omega) wr.1 wr.2).1 w (n.toNat - 1) (w1.lt (by omega)) (by omega) rfl
          have := h.2.1 (w ((n.toNat - 1 : Nat) : Int)) wr.1 wr.2
          omega
        · omega
    obtain ⟨p1, p2, p3⟩ := h.2.2 ((xmn t (b + 1) : Nat) : Int) (t b) (by omega) (by omega) r.1 r.2
    have zb : xtc (xmn t (b + 1)) (t ((b : Int) + 1)).toNat = 0 := (xmn_no hn.2 px r2).mpr (fun k q1 q2 => ht.1.2.2 k ((b : Int) + 1) q1 (by omega) (by omega) (by omega) (by omega))
    have mk : ((xmn t (b + 1 + 1) : Nat) : Int) = ((xmn t (b + 1) : Nat) : Int) + ((2 ^ (t ((b : Int) + 1)).toNat : Nat) : Int) := by
      have : xmn t (b + 1 + 1) = xmn t (b + 1) + 2 ^ (t ((b + 1 : Nat) : Int)).toNat := rfl
      rw [this, show ((b + 1 : Nat) : Int) = (b : Int) + 1 by omega]
      omega
    have up' : E (9 * (((xmn t (b + 1) : Nat) : Int) + ((2 ^ (t ((b : Int) + 1)).toNat : Nat) : Int)) + t ((b : Int) + 1)) = xar F W t b + W (t b) (t ((b : Int) + 1)) := by
      rw [← mk]
      exact up
    have ne := (p3 sa).mpr ⟨by omega, t ((b : Int) + 1), r2.1, r2.2, by rw [show (((xmn t (b + 1) : Nat) : Int)).toNat = xmn t (b + 1) by omega]; exact zb, by rw [de]; exact up'⟩
    rcases p1 with q | q
    · rw [q]; exact de
    · exact absurd q ne
def xCd (n : Int) (W : Int → Int → Int) (E : Int → Int) (s l x : Int) : Prop := xtc s.toNat x.toNat = 0 ∧ E (9 * (s + ((2 ^ x.toNat : Nat) : Int)) + x) = E (9 * s + l) + W l x
def xSt0 (n : Int) (E : Int → Int) (x : Int) : Prop := E (9 * ((2 ^ x.toNat : Nat) : Int) + x) ≠ 1000000
def xCh (n : Int) (W : Int → Int → Int) (E v : Int → Int) (m : Nat) : Prop := (0 < m → (0 ≤ v 0 ∧ v 0 < n) ∧ xSt0 n E (v 0) ∧ ∀ x, 0 ≤ x → x < v 0 → ¬ xSt0 n E x) ∧ ∀ k : Nat, k + 1 < m → (0 ≤ v ((k : Int) + 1) ∧ v ((k : Int) + 1) < n) ∧ xCd n W E ((xmn v (k + 1) : Nat) : Int) (v k) (v ((k : Int) + 1)) ∧ ∀ x, 0 ≤ x → x < v ((k : Int) + 1) → ¬ xCd n W E ((xmn v (k + 1) : Nat) : Int) (v k) x
theorem xTz.val (hn : 1 ≤ n ∧ n ≤ 9) (ha : a + 1 = ((2 ^ n.toNat : Nat) : Int)) (h : xTz n F W B D E e a) {s l : Int} (hs : 1 ≤ s ∧ s ≤ a) (hl : 0 ≤ l ∧ l < n) (hE : E (9 * s + l) ≠ 1000000) : ∃ (v : Int → Int) (b : Nat), xFz n F W B v (b + 1) ∧ ((xmn v (b + 1) : Nat) : Int) = s ∧ v b = l ∧ xar F W v b = E (9 * s + l) := by
  have d := (h.1 s l hs.1 hs.2 hl.1 hl.2).2
  have p := (h.2.2 s l hs.1 hs.2 hl.1 hl.2).1
  have e1 : E (9 * s + l) = D (9 * s + l) := by
    rcases p with q | q
    · exact q
    · exact absurd q hE
  rcases d with q | ⟨v, b, v1, v2, v3, v4⟩
  · exact absurd (e1.trans q) hE
  · exact ⟨v, b, v1, v2, v3, v4.trans e1.symm⟩
theorem xTz.chain (hn : 1 ≤ n ∧ n ≤ 9) (ha : a + 1 = ((2 ^ n.toNat : Nat) : Int)) (hB : ∀ i, 0 ≤ i → i < n → B i < 900000) (hW : ∀ i j, 0 ≤ i → i < n → 0 ≤ j → j < n → W i j < 1000) (h : xTz n F W B D E e a) {v : Int → Int} : ∀ b : Nat, xCh n W E v (b + 1) → ((b : Int) + 1 ≤ n) → xFz n F W B v (b + 1) ∧ E (9 * ((xmn v (b + 1) : Nat) : Int) + v b) = xar F W v b ∧ xar F W v b < 900000 := by
  have hn0 : 0 ≤ n ∧ n ≤ 9 := ⟨by omega, hn.2⟩
  intro b
  induction b with
  | zero =>
    intro c _
    obtain ⟨c1, c2, c3⟩ := c.1 (by omega)
    have px : xPfz n v 1 := ⟨by omega, fun k q1 q2 => by rw [show k = 0 by omega]; exact c1, fun i j q1 q2 q3 q4 q5 => by omega⟩
    have mk : ((xmn v (0 + 1) : Nat) : Int) = ((2 ^ (v 0).toNat : Nat) : Int) := by show ((0 + 2 ^ (v 0).toNat : Nat) : Int) = _; rw [Nat.zero_add]
    have pos := xmn_pos (t := v) (b := 0)
    have lt := xmn_lt hn0 (show xPfz n v (0 + 1) from px)
    have ne : E (9 * ((xmn v (0 + 1) : Nat) : Int) + v 0) ≠ 1000000 := by rw [mk]; exact c2
    obtain ⟨u, b', u1, u2, u3, u4⟩ := xTz.val hn ha h (s := ((xmn v (0 + 1) : Nat) : Int)) (l := v 0) (by omega) c1 ne
    have eb := xSv.key1 hn.2 c1 mk u1 u2 u3
    subst eb
    have fu := u1.2 0 (by omega)
    have e0 : xar F W v 0 = xar F W u 0 := by show F (v 0) = F (u 0); rw [show u 0 = v 0 from u3]
    have bu : xar F W v 0 ≤ B (v 0) := by rw [e0, ← show u 0 = v 0 from u3]; exact fu
    have bb := hB (v 0) c1.1 c1.2
    exact ⟨⟨px, fun k hk => by rw [show k = 0 by omega]; exact bu⟩, by rw [e0, u4]; rfl, by omega⟩
  | succ b ih =>
    intro c hb
    have c' : xCh n W E v (b + 1) := ⟨fun _ => c.1 (by omega), fun k hk => c.2 k (by omega)⟩
    obtain ⟨i1, i2, i3⟩ := ih c' (by omega)
    obtain ⟨c1, c2, c3⟩ := c.2 b (by omega)
    have cast : ((b + 1 : Nat) : Int) = (b : Int) + 1 := by omega
    have zb : xtc (xmn v (b + 1)) (v ((b : Int) + 1)).toNat = 0 := c2.1
    have px : xPfz n v (b + 1 + 1) := i1.1.ext hn0 (by rw [cast]; exact c1) (by rw [cast]; exact zb)
    have mk : ((xmn v (b + 1 + 1) : Nat) : Int) = ((xmn v (b + 1) : Nat) : Int) + ((2 ^ (v ((b : Int) + 1)).toNat : Nat) : Int) := by
      have : xmn v (b + 1 + 1) = xmn v (b + 1) + 2 ^ (v ((b + 1 : Nat) : Int)).toNat := rfl
      rw [this, cast]
      omega
    have pos := xmn_pos (t := v) (b := b + 1)
    have lt := xmn_lt hn0 px
    have ar : xar F W v (b + 1) = xar F W v b + W (v b) (v ((b : Int) + 1)) := rfl
    have ev : E (9 * ((xmn v (b + 1 + 1) : Nat) : Int) + v ((b + 1 : Nat) : Int)) = xar F W v (b + 1) := by
      rw [cast, mk, c2.2, i2, ar]
    have r := i1.1.2.1 b (by omega) (by omega)
    have w := hW (v b) (v ((b : Int) + 1)) r.1 r.2 c1.1 c1.2
    have ne : E (9 * ((xmn v (b + 1 + 1) : Nat) : Int) + v ((b : Int) + 1)) ≠ 1000000 := by rw [← cast, ev, ar]; omega
    obtain ⟨u, b', u1, u2, u3, u4⟩ := xTz.val hn ha h (s := ((xmn v (b + 1 + 1) : Nat) : Int)) (l := v ((b : Int) + 1)) (by omega) c1 ne
    have fu := u1.2 b' (by omega)
    rw [u3, u4, ← cast, ev] at fu
    have bb := hB (v ((b : Int) + 1)) c1.1 c1.2
    rw [cast] at fu
    refine ⟨⟨px, fun k hk => ?_⟩, ev, by omega⟩
    by_cases q : k = b + 1
    · rw [q, cast]; exact fu
    · exact i1.2 k (by omega)
theorem xTz.best (hn : 1 ≤ n ∧ n ≤ 9) (ha : a + 1 = ((2 ^ n.toNat : Nat) : Int)) (hB : ∀ i, 0 ≤ i → i < n → B i < 900000) (hW : ∀ i j, 0 ≤ i → i < n → 0 ≤ j → j < n → W i j < 1000) (he : e < 900000) (h : xTz n F W B D E e a) {v : Int → Int} (hv : xCh n W E v n.toNat) : xBw n F W B e v := by
  have hn0 : 0 ≤ n ∧ n ≤ 9 := ⟨by omega, hn.2⟩
  have en : n.toNat - 1 + 1 = n.toNat := by omega
  obtain ⟨f1, f2, f3⟩ := xTz.chain hn ha hB hW h (v := v) (n.toNat - 1) (by rw [en]; exact hv) (by omega)
  have fm := (xmn_full hn0 f1.1).mp (by omega)
  have r := f1.1.2.1 ((n.toNat - 1 : Nat) : Int) (by omega) (by omega)
  have sa : ((xmn v (n.toNat - 1 + 1) : Nat) : Int) = a := by omega
  have pos := xmn_pos (t := v) (b := n.toNat - 1)
  rw [sa] at f2
  obtain ⟨p1, p2, p3⟩ := h.2.2 a (v ((n.toNat - 1 : Nat) : Int)) (by omega) (by omega) r.1 r.2
  have de := (p2 rfl).mp (by rw [f2]; omega)
  have ee : xar F W v (n.toNat - 1) = e := by
    rcases p1 with q | q
    · omega
    · omega
  refine ⟨by rw [← en]; exact f1, ee, fun t ht => ?_⟩
  have tr := ht.1.2.1 ((n.toNat - 1 : Nat) : Int) (by omega) (by omega)
  have tpx := ht.1.lt (c := n.toNat - 1 + 1) (by omega)
  have tf := (xmn_full hn0 tpx).mp (by omega)
  have td := (h.1 a (t ((n.toNat - 1 : Nat) : Int)) (by omega) (by omega) tr.1 tr.2).1 t (n.toNat - 1) (ht.lt (by omega)) (by omega) rfl
  have tm := h.2.1 (t ((n.toNat - 1 : Nat) : Int)) tr.1 tr.2
  by_cases q : e < xar F W t (n.toNat - 1)
  · exact Or.inl q
  · have te : xar F W t (n.toNat - 1) = e := by omega
    refine Or.inr ⟨te, fun d q1 q2 ag => ?_⟩
    have opt : ∀ b : Nat, (b : Int) < n → E (9 * ((xmn t (b + 1) : Nat) : Int) + t b) = xar F W t b := fun b hb => xTz.opt hn ha hB he h ht te (n.toNat - 1 - b) b (by omega)
    by_cases lt : t d < v d
    · exfalso
      have rd := ht.1.2.1 d q1 (by omega)
      have bnd : ∀ b : Nat, (b : Int) < n → xar F W t b < 900000 := fun b hb => by
        have w1 := ht.2 b (by omega)
        have w2 := ht.1.2.1 b (by omega) (by omega)
        have w3 := hB (t b) w2.1 w2.2
        omega
      by_cases d0 : d = 0
      · subst d0
        have c := (hv.1 (by omega)).2.2 (t 0) rd.1 lt
        have o := opt 0 (by omega)
        have b0 := bnd 0 (by omega)
        refine c ?_
        show E (9 * ((2 ^ (t 0).toNat : Nat) : Int) + t 0) ≠ 1000000
        have mk : ((xmn t (0 + 1) : Nat) : Int) = ((2 ^ (t 0).toNat : Nat) : Int) := by show ((0 + 2 ^ (t 0).toNat : Nat) : Int) = _; rw [Nat.zero_add]
        rw [← mk]
        have o' : E (9 * ((xmn t (0 + 1) : Nat) : Int) + t 0) = xar F W t 0 := o
        omega
      · obtain ⟨k, hk⟩ : ∃ k : Nat, d = (k : Int) + 1 := ⟨(d - 1).toNat, by omega⟩
        subst hk
        have c := (hv.2 k (by omega)).2.2 (t ((k : Int) + 1)) rd.1 lt
        have em : xmn v (k + 1) = xmn t (k + 1) := xmn_cg (fun i w1 w2 => ag i w1 (by omega))
        have ek : v k = t k := ag k (by omega) (by omega)
        have o1 := opt k (by omega)
        have o2 := opt (k + 1) (by omega)
        have cast : ((k + 1 : Nat) : Int) = (k : Int) + 1 := by omega
        have px := ht.1.lt (c := k + 1) (by omega)
        have zb : xtc (xmn t (k + 1)) (t ((k : Int) + 1)).toNat = 0 := (xmn_no hn.2 px rd).mpr (fun i w1 w2 => ht.1.2.2 i ((k : Int) + 1) w1 (by omega) (by omega) (by omega) (by omega))
        have mk : ((xmn t (k + 1 + 1) : Nat) : Int) = ((xmn t (k + 1) : Nat) : Int) + ((2 ^ (t ((k : Int) + 1)).toNat : Nat) : Int) := by
          have : xmn t (k + 1 + 1) = xmn t (k + 1) + 2 ^ (t ((k + 1 : Nat) : Int)).toNat := rfl
          rw [this, cast]
          omega
        refine c ⟨by rw [em]; exact zb, ?_⟩
        rw [em, ek, ← mk, o1]
        rw [cast] at o2
        exact o2
    · omega
theorem xTz.none (hn : 1 ≤ n ∧ n ≤ 9) (ha : a + 1 = ((2 ^ n.toNat : Nat) : Int)) (hB : ∀ i, 0 ≤ i → i < n → B i < 900000) (h1 : ∀ s l, 1 ≤ s → s ≤ a → 0 ≤ l → l < n → xSv n F W B s l (D (9 * s + l))) (h2 : ∀ l, 0 ≤ l → l < n → 1000000 ≤ D (9 * a + l)) : ∀ t, ¬ xFz n F W B t n.toNat := fun t ht => by
  have hn0 : 0 ≤ n ∧ n ≤ 9 := ⟨by omega, hn.2⟩
  have tr := ht.1.2.1 ((n.toNat - 1 : Nat) : Int) (by omega) (by omega)
  have tpx := ht.1.lt (c := n.toNat - 1 + 1) (by omega)
  have tf := (xmn_full hn0 tpx).mp (by omega)
  have pos := xmn_pos (t := t) (b := n.toNat - 1)
  have td := (h1 a (t ((n.toNat - 1 : Nat) : Int)) (by omega) (by omega) tr.1 tr.2).1 t (n.toNat - 1) (ht.lt (by omega)) (by omega) rfl
  have tm := h2 (t ((n.toNat - 1 : Nat) : Int)) tr.1 tr.2
  have w1 := ht.2 (n.toNat - 1) (by omega)
  have w3 := hB _ tr.1 tr.2
  omega
end XTR
def xAx (k i : Int) (y t : Int → Int) : Prop := (∃ j, 0 ≤ j ∧ j < k ∧ (∀ x, 0 ≤ x → x < j → t x = y x) ∧ t j < y j) ∨ ((∀ x, 0 ≤ x → x < k → t x = y x) ∧ t k < i)
def xEx (n : Int) (F : Int → Int) (W : Int → Int → Int) (B : Int → Int) (A : (Int → Int) → Prop) (e : Int) (c : Int → Int) : Prop := (e = 100000 ∧ ∀ t, xFz n F W B t n.toNat → ¬ A t) ∨ (xFz n F W B c n.toNat ∧ A c ∧ xar F W c (n.toNat - 1) = e ∧ ∀ t, xFz n F W B t n.toNat → A t → e < xar F W t (n.toNat - 1) ∨ (xar F W t (n.toNat - 1) = e ∧ xLx n c t))
section XEX
variable {n e k i : Int} {F B c y y' : Int → Int} {W : Int → Int → Int}
theorem xEx.iff {A A' : (Int → Int) → Prop} (h : xEx n F W B A e c) (hA : ∀ t, xFz n F W B t n.toNat → (A t ↔ A' t)) : xEx n F W B A' e c := by
  rcases h with ⟨h1, h2⟩ | ⟨h1, h2, h3, h4⟩
  · exact Or.inl ⟨h1, fun t ht q => h2 t ht ((hA t ht).mpr q)⟩
  · exact Or.inr ⟨h1, (hA c h1).mp h2, h3, fun t ht q => h4 t ht ((hA t ht).mpr q)⟩
theorem xAx.lx {t : Int → Int} (hc : xAx k i y c) (ht : ∀ x, 0 ≤ x → x < k → t x = y x) (hi : i ≤ t k) (hk : 0 ≤ k) : xLx n c t := fun d q1 q2 ag => by
  rcases hc with ⟨j, j1, j2, j3, j4⟩ | ⟨p, q⟩
  · by_cases a : d < j
    · rw [j3 d q1 a, ht d q1 (by omega)]; exact Int.le_refl _
    · by_cases b : d = j
      · rw [b, ht j j1 j2]; omega
      · have := ag j j1 (by omega)
        have := ht j j1 j2
        omega
  · by_cases a : d < k
    · rw [p d q1 a, ht d q1 a]; exact Int.le_refl _
    · by_cases b : d = k
      · rw [b]; omega
      · have := ag k hk (by omega)
        omega
theorem xEx.skip (h : xEx n F W B (xAx k i y) e c) (hk : 0 ≤ k) (hnew : ∀ t, xFz n F W B t n.toNat → (∀ x, 0 ≤ x → x < k → t x = y x) → t k = i → e ≠ 100000 ∧ e ≤ xar F W t (n.toNat - 1)) : xEx n F W B (xAx k (i + 1) y) e c := by
  have up : ∀ t, xAx k i y t → xAx k (i + 1) y t := fun t q => by
    rcases q with q | ⟨q1, q2⟩
    · exact Or.inl q
    · exact Or.inr ⟨q1, by omega⟩
  have dn : ∀ t, xAx k (i + 1) y t → xAx k i y t ∨ ((∀ x, 0 ≤ x → x < k → t x = y x) ∧ t k = i) := fun t q => by
    rcases q with q | ⟨q1, q2⟩
    · exact Or.inl (Or.inl q)
    · by_cases w : t k = i
      · exact Or.inr ⟨q1, w⟩
      · exact Or.inl (Or.inr ⟨q1, by omega⟩)
  rcases h with ⟨h1, h2⟩ | ⟨h1, h2, h3, h4⟩
  · refine Or.inl ⟨h1, fun t ht q => ?_⟩
    rcases dn t q with q | q
    · exact h2 t ht q
    · exact (hnew t ht q.1 q.2).1 h1
  · refine Or.inr ⟨h1, up c h2, h3, fun t ht q => ?_⟩
    rcases dn t q with q | q
    · exact h4 t ht q
    · have w := (hnew t ht q.1 q.2).2
      by_cases z : e < xar F W t (n.toNat - 1)
      · exact Or.inl z
      · exact Or.inr ⟨by omega, h2.lx q.1 (by omega) hk⟩
theorem xEx.pop (h : xEx n F W B (xAx k n y) e c) (hk : 1 ≤ k ∧ k < n) : xEx n F W B (xAx (k - 1) (y (k - 1) + 1) y) e c := h.iff (fun t ht => by
  constructor
  · rintro (⟨j, j1, j2, j3, j4⟩ | ⟨p, q⟩)
    · by_cases a : j = k - 1
      · subst a; exact Or.inr ⟨j3, by omega⟩
      · exact Or.inl ⟨j, j1, by omega, j3, j4⟩
    · exact Or.inr ⟨fun x q1 q2 => p x q1 (by omega), by have := p (k - 1) (by omega) (by omega); omega⟩
  · rintro (⟨j, j1, j2, j3, j4⟩ | ⟨p, q⟩)
    · exact Or.inl ⟨j, j1, by omega, j3, j4⟩
    · by_cases a : t (k - 1) = y (k - 1)
      · refine Or.inr ⟨fun x q1 q2 => ?_, (ht.1.2.1 k (by omega) (by omega)).2⟩
        by_cases b : x = k - 1
        · rw [b]; exact a
        · exact p x q1 (by omega)
      · exact Or.inl ⟨k - 1, by omega, by omega, p, by omega⟩)
theorem xEx.all (h : xEx n F W B (xAx 0 n y) e c) (hn : 1 ≤ n) : xEx n F W B (fun _ => True) e c := h.iff (fun t ht => ⟨fun _ => trivial, fun _ => Or.inr ⟨fun x q1 q2 => by omega, (ht.1.2.1 0 (by omega) (by omega)).2⟩⟩)
theorem xEx.push (h : xEx n F W B (xAx k i y) e c) (hk : 0 ≤ k ∧ k + 1 < n) (e1 : y' k = i) (e2 : ∀ x, 0 ≤ x → x < k → y' x = y x) : xEx n F W B (xAx (k + 1) 0 y') e c := h.iff (fun t ht => by
  constructor
  · rintro (⟨j, j1, j2, j3, j4⟩ | ⟨p, q⟩)
    · exact Or.inl ⟨j, j1, by omega, fun x q1 q2 => by rw [e2 x q1 (by omega)]; exact j3 x q1 q2, by rw [e2 j j1 j2]; exact j4⟩
    · exact Or.inl ⟨k, hk.1, by omega, fun x q1 q2 => by rw [e2 x q1 q2]; exact p x q1 q2, by omega⟩
  · rintro (⟨j, j1, j2, j3, j4⟩ | ⟨p, q⟩)
    · by_cases a : j = k
      · subst a; exact Or.inr ⟨fun x q1 q2 => by rw [← e2 x q1 q2]; exact j3 x q1 q2, by omega⟩
      · exact Or.inl ⟨j, j1, by omega, fun x q1 q2 => by rw [← e2 x q1 (by omega)]; exact j3 x q1 q2, by rw [← e2 j j1 (by omega)]; exact j4⟩
    · have := ht.1.2.1 (k + 1) (by omega) (by omega)
      omega)
theorem xEx.leaf {z : Int} (h : xEx n F W B (xAx k i y) e c) (hk : 0 ≤ k ∧ k + 1 = n) (e1 : y' k = i) (e2 : ∀ x, 0 ≤ x → x < k → y' x = y x) (hf : xFz n F W B y' n.toNat) (hz : xar F W y' (n.toNat - 1) = z) (hl : z < e) : xEx n F W B (xAx k (i + 1) y') z y' := by
  have dn : ∀ t, xAx k (i + 1) y' t → xAx k i y t ∨ ((∀ x, 0 ≤ x → x < k → t x = y' x) ∧ t k = i) := fun t q => by
    rcases q with ⟨j, j1, j2, j3, j4⟩ | ⟨q1, q2⟩
    · exact Or.inl (Or.inl ⟨j, j1, j2, fun x w1 w2 => by rw [← e2 x w1 (by omega)]; exact j3 x w1 w2, by rw [← e2 j j1 j2]; exact j4⟩)
    · by_cases w : t k = i
      · exact Or.inr ⟨q1, w⟩
      · exact Or.inl (Or.inr ⟨fun x w1 w2 => by rw [← e2 x w1 w2]; exact q1 x w1 w2, by omega⟩)
  have old : ∀ t, xFz n F W B t n.toNat → xAx k i y t → z < xar F W t (n.toNat - 1) := fun t ht q => by
    rcases h with ⟨h1, h2⟩ | ⟨h1, h2, h3, h4⟩
    · exact absurd q (h2 t ht)
    · rcases h4 t ht q with w | w
      · omega
      · omega
  refine Or.inr ⟨hf, Or.inr ⟨fun x q1 q2 => rfl, by omega⟩, hz, fun t ht q => ?_⟩
  rcases dn t q with q | q
  · exact Or.inl (old t ht q)
  · have ag : ∀ x, 0 ≤ x → x < n → t x = y' x := fun x q1 q2 => by
      by_cases a : x = k
      · rw [a, q.2, e1]
      · exact q.1 x q1 (by omega)
    refine Or.inr ⟨?_, fun d q1 q2 _ => by rw [ag d q1 q2]; exact Int.le_refl _⟩
    rw [← hz]
    exact xar_cg (fun x q1 q2 => ag x q1 (by omega))
theorem xEx.z (hn : 1 ≤ n) : xEx n F W B (xAx 0 0 y) 100000 c := Or.inl ⟨rfl, fun t ht q => by
  rcases q with ⟨j, j1, j2, _⟩ | ⟨_, q⟩
  · omega
  · have := ht.1.2.1 0 (by omega) (by omega)
    omega⟩
theorem xEx.fin (hn : 1 ≤ n) (hB : ∀ i, 0 ≤ i → i < n → B i < 100000) (h : xEx n F W B (fun _ => True) e c) : (e = 100000 ∧ ∀ t, ¬ xFz n F W B t n.toNat) ∨ (e < 100000 ∧ xBw n F W B e c) := by
  rcases h with ⟨h1, h2⟩ | ⟨h1, h2, h3, h4⟩
  · exact Or.inl ⟨h1, fun t ht => h2 t ht trivial⟩
  · have w1 := h1.2 (n.toNat - 1) (by omega)
    have w2 := h1.1.2.1 ((n.toNat - 1 : Nat) : Int) (by omega) (by omega)
    have w3 := hB _ w2.1 w2.2
    exact Or.inr ⟨by omega, h1, h3, fun t ht => h4 t ht trivial⟩
theorem xar_mono {t : Int → Int} (hW : ∀ i j, 0 ≤ i → i < n → 0 ≤ j → j < n → 0 ≤ W i j) (ht : xPfz n t n.toNat) {a : Nat} : ∀ d : Nat, ((a + d : Nat) : Int) < n → xar F W t a ≤ xar F W t (a + d) := by
  intro d
  induction d with
  | zero => intro _; exact Int.le_refl _
  | succ d ih =>
    intro hd
    have w := ih (by omega)
    have r1 := ht.2.1 ((a + d : Nat) : Int) (by omega) (by omega)
    have r2 := ht.2.1 (((a + d : Nat) : Int) + 1) (by omega) (by omega)
    have q := hW _ _ r1.1 r1.2 r2.1 r2.2
    show _ ≤ xar F W t (a + d) + W (t ((a + d : Nat) : Int)) (t (((a + d : Nat) : Int) + 1))
    omega
def xCo9 (F : Int → Int) (W : Int → Int → Int) (y : Int → Int) (k i z : Int) : Prop := z = if k = 0 then F i else xar F W y (k - 1).toNat + W (y (k - 1)) i
theorem xCo9.at {t : Int → Int} {z : Int} (h : xCo9 F W y k i z) (hk : 0 ≤ k) (ht : ∀ x, 0 ≤ x → x < k → t x = y x) (e : t k = i) : xar F W t k.toNat = z := by
  unfold xCo9 at h
  by_cases q : k = 0
  · subst q
    rw [if_pos rfl] at h
    rw [h, ← e]
    rfl
  · rw [if_neg q] at h
    have e1 : k.toNat = (k - 1).toNat + 1 := by omega
    rw [h, e1]
    show xar F W t (k - 1).toNat + W (t (((k - 1).toNat : Nat) : Int)) (t ((((k - 1).toNat : Nat) : Int) + 1)) = _
    rw [show (((k - 1).toNat : Nat) : Int) = k - 1 by omega, show k - 1 + 1 = k by omega, e, ht (k - 1) (by omega) (by omega), xar_cg (fun x q1 q2 => ht x q1 (by omega))]
theorem xEx.bad {z : Int} (hn : n ≤ 9) (hW : ∀ i j, 0 ≤ i → i < n → 0 ≤ j → j < n → 0 ≤ W i j) (h : xEx n F W B (xAx k i y) e c) (hk : 0 ≤ k ∧ k < n) (hz : xCo9 F W y k i z) (hz2 : z < 100000) (why : (∃ x, 0 ≤ x ∧ x < k ∧ y x = i) ∨ B i < z ∨ e ≤ z) : xEx n F W B (xAx k (i + 1) y) e c := h.skip hk.1 (fun t ht ag et => by
  rcases why with ⟨x, x1, x2, x3⟩ | w | w
  · exact absurd (show t x = t k by rw [ag x x1 x2, x3, et]) (ht.1.2.2 x k x1 (by omega) hk.1 (by omega) (by omega))
  · have a := hz.at hk.1 ag et
    have f := ht.2 k.toNat (by omega)
    rw [show ((k.toNat : Nat) : Int) = k by omega, a, et] at f
    omega
  · have a := hz.at hk.1 ag et
    have m := xar_mono (F := F) hW ht.1 (a := k.toNat) (n.toNat - 1 - k.toNat) (by omega)
    rw [show k.toNat + (n.toNat - 1 - k.toNat) = n.toNat - 1 by omega] at m
    exact ⟨by omega, by omega⟩)
end XEX
def xpr (f : Int → Int) (c : Int) : Int := 256 * f (2 * c) + f (2 * c + 1)
def xsq (f : Int → Int) : Nat → Int × (Int → Int)
  | 0 => (0, fun _ => 0)
  | c + 1 => if xpr f (c + 1) = 65535 then xsq f c else ((xsq f c).1 + 1, fun k => if k = (xsq f c).1 then (c : Int) + 1 else (xsq f c).2 k)
def xSq (f : Int → Int) (c n : Int) (st : Int → Int) : Prop := n = (xsq f c.toNat).1 ∧ ∀ k, 0 ≤ k → k < n → st k = (xsq f c.toNat).2 k
theorem xSq.z {f st : Int → Int} : xSq f 0 0 st := ⟨rfl, fun k q1 q2 => by omega⟩
theorem xSq.skip {f st : Int → Int} {c n : Int} (h : xSq f c n st) (hc : 0 ≤ c) (e : xpr f (c + 1) = 65535) : xSq f (c + 1) n st := by
  have ec : (c + 1).toNat = c.toNat + 1 := by omega
  have ex : xsq f (c + 1).toNat = xsq f c.toNat := by
    rw [ec]
    show (if xpr f (((c.toNat : Nat) : Int) + 1) = 65535 then _ else _) = _
    rw [if_pos (by rw [show ((c.toNat : Nat) : Int) = c by omega]; exact e)]
  unfold xSq
  rw [ex]
  exact h
theorem xSq.add {f st st' : Int → Int} {c n : Int} (h : xSq f c n st) (hc : 0 ≤ c) (hn : 0 ≤ n) (e : xpr f (c + 1) ≠ 65535) (e1 : st' n = c + 1) (e2 : ∀ k, 0 ≤ k → k ≠ n → st' k = st k) : xSq f (c + 1) (n + 1) st' := by
  have ec : (c + 1).toNat = c.toNat + 1 := by omega
  have ex : xsq f (c + 1).toNat = ((xsq f c.toNat).1 + 1, fun k => if k = (xsq f c.toNat).1 then ((c.toNat : Nat) : Int) + 1 else (xsq f c.toNat).2 k) := by
    rw [ec]
    show (if xpr f (((c.toNat : Nat) : Int) + 1) = 65535 then _ else _) = _
    rw [if_neg (by rw [show ((c.toNat : Nat) : Int) = c by omega]; exact e)]
  unfold xSq
  rw [ex]
  refine ⟨by show n + 1 = (xsq f c.toNat).1 + 1; rw [← h.1], fun k q1 q2 => ?_⟩
  show st' k = if k = (xsq f c.toNat).1 then ((c.toNat : Nat) : Int) + 1 else (xsq f c.toNat).2 k
  rw [← h.1]
  by_cases q : k = n
  · rw [if_pos q, q, e1]; omega
  · rw [if_neg q, e2 k q1 q]; exact h.2 k q1 (by omega)
theorem xSq.det {f f' st st' : Int → Int} {n n' : Int} (hf : ∀ i, 0 ≤ i → i < 20 → f i = f' i) (h : xSq f 9 n st) (h' : xSq f' 9 n' st') : n = n' ∧ ∀ k, 0 ≤ k → k < n → st k = st' k := by
  have key : ∀ c : Nat, c ≤ 9 → xsq f c = xsq f' c := by
    intro c
    induction c with
    | zero => intro _; rfl
    | succ c ih =>
      intro hc
      have e : xpr f ((c : Int) + 1) = xpr f' ((c : Int) + 1) := by unfold xpr; rw [hf _ (by omega) (by omega), hf _ (by omega) (by omega)]
      show (if xpr f ((c : Int) + 1) = 65535 then _ else _) = (if xpr f' ((c : Int) + 1) = 65535 then _ else _)
      rw [e, ih (by omega)]
  have k9 := key 9 (Nat.le_refl 9)
  have a := h.1
  have b := h'.1
  have k9' : xsq f (9 : Int).toNat = xsq f' (9 : Int).toNat := k9
  rw [k9'] at a
  refine ⟨a.trans b.symm, fun k q1 q2 => ?_⟩
  rw [h.2 k q1 q2, k9', h'.2 k q1 (by omega)]
section XDR
variable {n e a s l : Int} {D E E' F B : Int → Int} {W : Int → Int → Int}
theorem xDr.keep (h : xDr n W D E e a s l) (why : (s = a ∧ D (9 * s + l) = e ∧ e ≠ 1000000) ∨ (s ≠ a ∧ D (9 * s + l) ≠ 1000000 ∧ ∃ x, 0 ≤ x ∧ x < n ∧ xtc s.toNat x.toNat = 0 ∧ E (9 * (s + ((2 ^ x.toNat : Nat) : Int)) + x) = D (9 * s + l) + W l x)) : xDr n W D E e a s (l + 1) := fun s' l' q1 q2 q3 q4 => by
  have o := h s' l' q1 q2 q3 q4
  by_cases c : s' = s ∧ l' = l
  · obtain ⟨c1, c2⟩ := c
    subst c1
    subst c2
    have eD := o.2 (by omega)
    refine ⟨fun _ => ⟨Or.inl eD, fun ea => ?_, fun na => ?_⟩, fun q => absurd (Or.inr ⟨rfl, by omega⟩) q⟩
    · rcases why with ⟨w1, w2, w3⟩ | ⟨w1, _⟩
      · exact ⟨fun _ => w2, fun _ => by rw [eD, w2]; exact w3⟩
      · exact absurd ea w1
    · rcases why with ⟨w1, _⟩ | ⟨w1, w2, w3⟩
      · exact absurd w1 na
      · exact ⟨fun _ => ⟨w2, w3⟩, fun _ => by rw [eD]; exact w2⟩
  · exact ⟨fun q => o.1 (by omega), fun q => o.2 (by omega)⟩
theorem xDr.drop {j : Int} (h : xDr n W D E e a s l) (hn : n ≤ 9) (hs : 1 ≤ s) (hl : 0 ≤ l ∧ l < n) (hj : j = 9 * s + l) (e1 : E' j = 1000000) (e2 : ∀ i, 0 ≤ i → i ≠ j → E' i = E i) (why : (s = a ∧ D (9 * s + l) ≠ e) ∨ (s ≠ a ∧ (D (9 * s + l) = 1000000 ∨ ∀ x, 0 ≤ x → x < n → xtc s.toNat x.toNat = 0 → E (9 * (s + ((2 ^ x.toNat : Nat) : Int)) + x) ≠ D (9 * s + l) + W l x))) : xDr n W D E' e a s (l + 1) := fun s' l' q1 q2 q3 q4 => by
  have o := h s' l' q1 q2 q3 q4
  have key : s ≤ s' → ∀ x : Int, 0 ≤ x → x < n → E' (9 * (s' + ((2 ^ x.toNat : Nat) : Int)) + x) = E (9 * (s' + ((2 ^ x.toNat : Nat) : Int)) + x) := fun hs' x x1 x2 => by
    have : 0 < 2 ^ x.toNat := Nat.two_pow_pos _
    exact e2 _ (by omega) (by omega)
  by_cases c : s' = s ∧ l' = l
  · obtain ⟨c1, c2⟩ := c
    subst c1
    subst c2
    rw [← hj, e1]
    rw [← hj] at why
    refine ⟨fun _ => ⟨Or.inr rfl, fun ea => ⟨fun q => absurd rfl q, fun q => ?_⟩, fun na => ⟨fun q => absurd rfl q, fun ⟨d1, x, x1, x2, x3, x4⟩ => ?_⟩⟩, fun q => absurd (Or.inr ⟨rfl, by omega⟩) q⟩
    · rcases why with ⟨w1, w2⟩ | ⟨w1, _⟩
      · exact absurd q w2
      · exact absurd ea w1
    · rcases why with ⟨w1, _⟩ | ⟨w1, w2⟩
      · exact absurd w1 na
      · rcases w2 with w2 | w2
        · exact absurd w2 d1
        · rw [key (Int.le_refl _) x x1 x2] at x4
          exact absurd x4 (w2 x x1 x2 x3)
  · rw [e2 (9 * s' + l') (by omega) (by omega)]
    refine ⟨fun q => ?_, fun q => o.2 (by omega)⟩
    obtain ⟨p1, p2, p3⟩ := o.1 (by omega)
    have hss : s ≤ s' := by omega
    refine ⟨p1, p2, fun na => (p3 na).trans ⟨fun ⟨d, x, x1, x2, x3, x4⟩ => ⟨d, x, x1, x2, x3, (key hss x x1 x2).trans x4⟩, fun ⟨d, x, x1, x2, x3, x4⟩ => ⟨d, x, x1, x2, x3, (key hss x x1 x2).symm.trans x4⟩⟩⟩
theorem xDr.row (h : xDr n W D E e a s l) (hl : n ≤ l) : xDr n W D E e a (s - 1) 0 := fun s' l' q1 q2 q3 q4 => ⟨fun q => (h s' l' q1 q2 q3 q4).1 (by omega), fun q => (h s' l' q1 q2 q3 q4).2 (by omega)⟩
theorem xDr.own (h : xDr n W D E e a s l) (hs : 1 ≤ s ∧ s ≤ a) (hl : 0 ≤ l ∧ l < n) : E (9 * s + l) = D (9 * s + l) := (h s l hs.1 hs.2 hl.1 hl.2).2 (by omega)
theorem xDr.fin {l0 : Int} (h : xDr n W D E e a 0 l0) (h1 : ∀ s l, 1 ≤ s → s ≤ a → 0 ≤ l → l < n → xSv n F W B s l (D (9 * s + l))) (h2 : ∀ l, 0 ≤ l → l < n → e ≤ D (9 * a + l)) : xTz n F W B D E e a := ⟨h1, h2, fun s l q1 q2 q3 q4 => (h s l q1 q2 q3 q4).1 (Or.inl (by omega))⟩
theorem xSv.rng {z : Int} (hF : ∀ i, 0 ≤ i → i < n → 0 ≤ F i) (hW : ∀ i j, 0 ≤ i → i < n → 0 ≤ j → j < n → 0 ≤ W i j) (hB : ∀ i, 0 ≤ i → i < n → B i < 900000) (h : xSv n F W B s l z) : 0 ≤ z ∧ z ≤ 1000000 ∧ (z < 900000 ∨ z = 1000000) := by
  rcases h.2 with q | ⟨v, b, v1, v2, v3, v4⟩
  · omega
  · have r := v1.1.2.1 b (by omega) (by omega)
    have w := v1.2 b (by omega)
    have w2 := hB (v b) r.1 r.2
    have key : ∀ k : Nat, k ≤ b → 0 ≤ xar F W v k := by
      intro k
      induction k with
      | zero => intro _; exact hF _ (v1.1.2.1 0 (by omega) (by omega)).1 (v1.1.2.1 0 (by omega) (by omega)).2
      | succ k ih =>
        intro hk
        have i1 := ih (by omega)
        have r1 := v1.1.2.1 k (by omega) (by omega)
        have r2 := v1.1.2.1 ((k : Int) + 1) (by omega) (by omega)
        have q := hW _ _ r1.1 r1.2 r2.1 r2.2
        show 0 ≤ xar F W v k + W (v k) (v (k + 1))
        omega
    have := key b (Nat.le_refl b)
    omega
theorem xTz.next (hn : 1 ≤ n ∧ n ≤ 9) (ha : a + 1 = ((2 ^ n.toNat : Nat) : Int)) (hB : ∀ i, 0 ≤ i → i < n → B i < 900000) (hW : ∀ i j, 0 ≤ i → i < n → 0 ≤ j → j < n → W i j < 1000) (h : xTz n F W B D E e a) {v : Int → Int} {b : Nat} (hv : xCh n W E v (b + 1)) (hb : (b : Int) + 1 < n) : E (9 * ((xmn v (b + 1) : Nat) : Int) + v b) ≠ 1000000 ∧ ∃ x, 0 ≤ x ∧ x < n ∧ xCd n W E ((xmn v (b + 1) : Nat) : Int) (v b) x := by
  have hn0 : 0 ≤ n ∧ n ≤ 9 := ⟨by omega, hn.2⟩
  obtain ⟨f1, f2, f3⟩ := xTz.chain hn ha hB hW h (v := v) b hv (by omega)
  have pos := xmn_pos (t := v) (b := b)
  have lt := xmn_lt hn0 f1.1
  have r := f1.1.2.1 b (by omega) (by omega)
  have nf : ¬ xmn v (b + 1) + 1 = 2 ^ n.toNat := fun q => by
    have := (xmn_full hn0 f1.1).mpr q
    omega
  have ne : E (9 * ((xmn v (b + 1) : Nat) : Int) + v b) ≠ 1000000 := by rw [f2]; omega
  obtain ⟨p1, p2, p3⟩ := h.2.2 ((xmn v (b + 1) : Nat) : Int) (v b) (by omega) (by omega) r.1 r.2
  obtain ⟨d, x, x1, x2, x3, x4⟩ := (p3 (by omega)).mp ne
  refine ⟨ne, x, x1, x2, x3, ?_⟩
  rcases p1 with q | q
  · rw [q]; exact x4
  · exact absurd q ne
def xNx (n : Int) (W : Int → Int → Int) (E : Int → Int) (s l r : Int) : Prop := (r = -1 ∧ (E (9 * s + l) = 1000000 ∨ ∀ x, 0 ≤ x → x < n → ¬ xCd n W E s l x)) ∨ (0 ≤ r ∧ r < n ∧ E (9 * s + l) ≠ 1000000 ∧ xCd n W E s l r ∧ ∀ x, 0 ≤ x → x < r → ¬ xCd n W E s l x)
def xWl (n : Int) (W : Int → Int → Int) (E T Y : Int → Int) (i last set : Int) : Prop := ∃ v : Int → Int, xCh n W E v i.toNat ∧ set = ((xmn v i.toNat : Nat) : Int) ∧ (∀ k, 0 ≤ k → k < i → Y k = T (v k)) ∧ (i < n → (0 ≤ last ∧ last < n) ∧ ((i = 0 ∧ xSt0 n E last ∧ ∀ x, 0 ≤ x → x < last → ¬ xSt0 n E x) ∨ (1 ≤ i ∧ xCd n W E set (v (i - 1)) last ∧ ∀ x, 0 ≤ x → x < last → ¬ xCd n W E set (v (i - 1)) x)))
theorem xWl.bit {T Y : Int → Int} {i last set : Int} (h : xWl n W E T Y i last set) (hi : 0 ≤ i ∧ i < n) : xtc set.toNat last.toNat = 0 := by
  obtain ⟨v, h1, h2, h3, h4⟩ := h
  rcases (h4 hi.2).2 with ⟨c, _⟩ | ⟨_, c, _⟩
  · subst c
    rw [h2]
    show 0 / 2 ^ last.toNat % 2 = 0
    rw [Nat.zero_div]
  · exact c.1
theorem xWl.bnd {T Y : Int → Int} {i last set : Int} (h : xWl n W E T Y i last set) (hi : i < n) : 0 ≤ last ∧ last < n := by
  obtain ⟨v, h1, h2, h3, h4⟩ := h
  exact (h4 hi).1
theorem xWl.z {T Y : Int → Int} {last : Int} (hn : 1 ≤ n) (h0 : 0 ≤ last ∧ last < n) (h1 : xSt0 n E last) (h2 : ∀ x, 0 ≤ x → x < last → ¬ xSt0 n E x) : xWl n W E T Y 0 last 0 := ⟨fun _ => 0, ⟨fun q => absurd q (by decide), fun k hk => absurd hk (Nat.not_lt_zero _)⟩, rfl, fun k q1 q2 => by omega, fun _ => ⟨h0, Or.inl ⟨rfl, h1, h2⟩⟩⟩
theorem xWl.stp {T Y Y' : Int → Int} {i last set r : Int} (hn : 1 ≤ n ∧ n ≤ 9) (ha : a + 1 = ((2 ^ n.toNat : Nat) : Int)) (hB : ∀ i, 0 ≤ i → i < n → B i < 900000) (hW : ∀ i j, 0 ≤ i → i < n → 0 ≤ j → j < n → W i j < 1000) (ht : xTz n F W B D E e a) (h : xWl n W E T Y i last set) (hi : 0 ≤ i ∧ i < n) (y1 : Y' i = T last) (y2 : ∀ k, 0 ≤ k → k ≠ i → Y' k = Y k) (hx : xNx n W E (set + ((2 ^ last.toNat : Nat) : Int)) last r) : xWl n W E T Y' (i + 1) r (set + ((2 ^ last.toNat : Nat) : Int)) := by
  obtain ⟨v, h1, h2, h3, h4⟩ := h
  obtain ⟨l0, l1⟩ := h4 hi.2
  let u : Int → Int := fun k => if k = i then last else v k
  have u1 : u i = last := if_pos rfl
  have u2 : ∀ k : Int, k ≠ i → u k = v k := fun k q => if_neg q
  have mk : ∀ k : Nat, (k : Int) ≤ i → xmn u k = xmn v k := fun k hk => xmn_cg (fun x q1 q2 => u2 x (by omega))
  have ei : (i + 1).toNat = i.toNat + 1 := by omega
  have ci : ((i.toNat : Nat) : Int) = i := by omega
  have ch : xCh n W E u (i + 1).toNat := by
    refine ⟨fun _ => ?_, fun k hk => ?_⟩
    · by_cases q : i = 0
      · subst q
        rw [u1]
        rcases l1 with ⟨_, c1, c2⟩ | ⟨c, _⟩
        · exact ⟨l0, c1, c2⟩
        · omega
      · rw [u2 0 (by omega)]
        exact h1.1 (by omega)
    · by_cases q : (k : Int) + 1 = i
      · rw [q, u1, mk (k + 1) (by omega), u2 k (by omega)]
        rcases l1 with ⟨c, _⟩ | ⟨c, c1, c2⟩
        · omega
        · rw [h2, show i.toNat = k + 1 by omega, show i - 1 = (k : Int) by omega] at c1 c2
          exact ⟨l0, c1, c2⟩
      · rw [u2 _ q, mk (k + 1) (by omega), u2 k (by omega)]
        exact h1.2 k (by omega)
  have set' : set + ((2 ^ last.toNat : Nat) : Int) = ((xmn u (i + 1).toNat : Nat) : Int) := by
    rw [ei]
    show _ = ((xmn u i.toNat + 2 ^ (u ((i.toNat : Nat) : Int)).toNat : Nat) : Int)
    rw [ci, u1, mk i.toNat (by omega), h2]
    omega
  refine ⟨u, ch, set', fun k q1 q2 => ?_, fun hlt => ?_⟩
  · by_cases q : k = i
    · rw [q, y1, u1]
    · rw [y2 k q1 q, u2 k q]; exact h3 k q1 (by omega)
  · rw [ei] at ch
    obtain ⟨n1, x, x1, x2, x3⟩ := xTz.next hn ha hB hW ht ch (by omega)
    rw [← ei, ← set', ci, u1] at n1 x3
    rw [show i + 1 - 1 = i by omega, u1]
    rcases hx with ⟨_, c⟩ | ⟨r1, r2, r3, r4, r5⟩
    · rcases c with c | c
      · exact absurd c n1
      · exact absurd x3 (c x x1 x2)
    · exact ⟨⟨r1, r2⟩, Or.inr ⟨by omega, r4, r5⟩⟩
theorem xWl.fin {T Y : Int → Int} {i last set : Int} (hn : 1 ≤ n ∧ n ≤ 9) (ha : a + 1 = ((2 ^ n.toNat : Nat) : Int)) (hB : ∀ i, 0 ≤ i → i < n → B i < 900000) (hW : ∀ i j, 0 ≤ i → i < n → 0 ≤ j → j < n → W i j < 1000) (he : e < 900000) (ht : xTz n F W B D E e a) (h : xWl n W E T Y i last set) (hi : i = n) : ∃ v, xBw n F W B e v ∧ ∀ k, 0 ≤ k → k < n → Y k = T (v k) := by
  subst hi
  obtain ⟨v, h1, h2, h3, h4⟩ := h
  exact ⟨v, xTz.best hn ha hB hW he ht h1, h3⟩
end XDR
theorem xiinj {a b : Int} (ha : -2147483648 ≤ a ∧ a ≤ 2147483647) (hb : -2147483648 ≤ b ∧ b ≤ 2147483647) (h : iI a = iI b) : a = b := by
  have e := congrArg Int32.toInt h
  rw [iI_toInt ha.1 ha.2, iI_toInt hb.1 hb.2] at e
  exact e
theorem xtc_of {m c x z : Int} (hm : 0 ≤ m ∧ m < 512) (hc : 0 ≤ c ∧ c < 9) (e1 : iI m >>> (iI c &&& 31) = iI x) (e2 : iI x &&& iI 1 = iI z) (hz : -2147483648 ≤ z ∧ z ≤ 2147483647) : z = ((xtc m.toNat c.toNat : Nat) : Int) := by
  have h := xn_shr ⟨m.toNat, by omega⟩ ⟨c.toNat, by omega⟩
  have em : ((m.toNat : Nat) : Int) = m := by omega
  have ec : ((c.toNat : Nat) : Int) = c := by omega
  have h' : (iI ((m.toNat : Nat) : Int) >>> (iI ((c.toNat : Nat) : Int) &&& 31)) &&& iI 1 = iI ((xtc m.toNat c.toNat : Nat) : Int) := h
  rw [em, ec, e1, e2] at h'
  have b := xtc01 m.toNat c.toNat
  exact xiinj hz (by omega) h'
theorem xorn {m c x z : Int} (hm : 0 ≤ m ∧ m < 512) (hc : 0 ≤ c ∧ c < 9) (hb : xtc m.toNat c.toNat = 0) (e1 : iI 1 <<< (iI c &&& 31) = iI x) (e2 : iI m ||| iI x = iI z) (hz : -2147483648 ≤ z ∧ z ≤ 2147483647) : z = m + ((2 ^ c.toNat : Nat) : Int) ∧ z < 512 := by
  have h := xn_or ⟨m.toNat, by omega⟩ ⟨c.toNat, by omega⟩ hb
  have u := (xn_up ⟨m.toNat, by omega⟩ ⟨c.toNat, by omega⟩ hb).1
  have u' : m.toNat + 2 ^ c.toNat < 512 := u
  have em : ((m.toNat : Nat) : Int) = m := by omega
  have ec : ((c.toNat : Nat) : Int) = c := by omega
  have h' : iI ((m.toNat : Nat) : Int) ||| (iI 1 <<< (iI ((c.toNat : Nat) : Int) &&& 31)) = iI ((m.toNat + 2 ^ c.toNat : Nat) : Int) := h
  rw [em, ec, e1, e2] at h'
  clear h u
  generalize 2 ^ c.toNat = p at u' h' ⊢
  have := xiinj hz (by omega) h'
  omega
theorem xxorn {m c x z : Int} (hm : 0 ≤ m ∧ m < 512) (hc : 0 ≤ c ∧ c < 9) (hb : xtc m.toNat c.toNat = 1) (e1 : iI 1 <<< (iI c &&& 31) = iI x) (e2 : iI m ^^^ iI x = iI z) (hz : -2147483648 ≤ z ∧ z ≤ 2147483647) : z = m - ((2 ^ c.toNat : Nat) : Int) ∧ 0 ≤ z ∧ z < 512 := by
  have h := xn_xor ⟨m.toNat, by omega⟩ ⟨c.toNat, by omega⟩ hb
  have u := (xn_dn ⟨m.toNat, by omega⟩ ⟨c.toNat, by omega⟩ hb).1
  have u' : 2 ^ c.toNat ≤ m.toNat := u
  have em : ((m.toNat : Nat) : Int) = m := by omega
  have ec : ((c.toNat : Nat) : Int) = c := by omega
  have h' : iI ((m.toNat : Nat) : Int) ^^^ (iI 1 <<< (iI ((c.toNat : Nat) : Int) &&& 31)) = iI ((m.toNat - 2 ^ c.toNat : Nat) : Int) := h
  rw [em, ec, e1, e2] at h'
  clear h u
  generalize 2 ^ c.toNat = p at u' h' ⊢
  have := xiinj hz (by omega) h'
  omega
theorem xandn {m c x y z : Int} (hm : 0 ≤ m ∧ m < 512) (hc : 0 ≤ c ∧ c < 9) (hb : xtc m.toNat c.toNat = 1) (e1 : iI 1 <<< (iI c &&& 31) = iI x) (e2 : iI x ^^^ iI (-1) = iI y) (e3 : iI m &&& iI y = iI z) (hz : -2147483648 ≤ z ∧ z ≤ 2147483647) : z = m - ((2 ^ c.toNat : Nat) : Int) ∧ 0 ≤ z ∧ z < 512 := by
  have h := xn_and ⟨m.toNat, by omega⟩ ⟨c.toNat, by omega⟩ hb
  have u := (xn_dn ⟨m.toNat, by omega⟩ ⟨c.toNat, by omega⟩ hb).1
  have u' : 2 ^ c.toNat ≤ m.toNat := u
  have em : ((m.toNat : Nat) : Int) = m := by omega
  have ec : ((c.toNat : Nat) : Int) = c := by omega
  have h' : iI ((m.toNat : Nat) : Int) &&& ((iI 1 <<< (iI ((c.toNat : Nat) : Int) &&& 31)) ^^^ iI (-1)) = iI ((m.toNat - 2 ^ c.toNat : Nat) : Int) := h
  rw [em, ec, e1, e2, e3] at h'
  clear h u
  generalize 2 ^ c.toNat = p at u' h' ⊢
  have := xiinj hz (by omega) h'
  omega
set_option maxRecDepth 100000 in
theorem xn_upn : ∀ m : Fin 512, ∀ n : Fin 10, ∀ c : Fin 9, m.val < 2 ^ n.val → c.val < n.val → xtc m.val c.val = 0 → m.val + 2 ^ c.val < 2 ^ n.val := by decide +kernel
theorem xupn {m n c : Int} (hm : 0 ≤ m ∧ m < ((2 ^ n.toNat : Nat) : Int)) (hn : 0 ≤ n ∧ n ≤ 9) (hc : 0 ≤ c ∧ c < n) (hb : xtc m.toNat c.toNat = 0) : m + ((2 ^ c.toNat : Nat) : Int) < ((2 ^ n.toNat : Nat) : Int) := by
  have h5 := xp2 hn
  have h := xn_upn ⟨m.toNat, by omega⟩ ⟨n.toNat, by omega⟩ ⟨c.toNat, by omega⟩ (show m.toNat < 2 ^ n.toNat by omega) (show c.toNat < n.toNat by omega) hb
  have h' : m.toNat + 2 ^ c.toNat < 2 ^ n.toNat := h
  omega
def xF9 (Q : Int → Int → Int) (T : Int → Int) : Int → Int := fun i => Q 0 (T i)
def xW9 (Q : Int → Int → Int) (T : Int → Int) : Int → Int → Int := fun i j => Q (T i) (T j)
def xQs (Q : Int → Int → Int) : Prop := ∀ a b : Int, 0 ≤ a → a < 10 → 0 ≤ b → b < 10 → Q a b = Q b a ∧ 0 ≤ Q a b ∧ Q a b ≤ 200
def xQ1 (S : xT) (g : xG) (mg : Nat) (Q : Int → Int → Int) : Prop := S mg = some (11604, 10) ∧ ∀ a : Int, 0 ≤ a → a < 10 → ∃ r : Nat, g mg a.toNat = .ref r ∧ S r = some (11500, 10) ∧ (∀ b : Int, 0 ≤ b → b < 10 → xv g r b = Q a b) ∧ ∀ a' : Int, 0 ≤ a' → a' < 10 → g mg a'.toNat = .ref r → a' = a
def xQm (S : xT) (g : xG) (mg : Nat) (Q : Int → Int → Int) : Prop := xQ1 S g mg Q ∧ xQs Q
theorem xQm.at {S : xT} {g : xG} {mg r : Nat} {Q : Int → Int → Int} {a b : Int} (h : xQm S g mg Q) (ha : 0 ≤ a ∧ a < 10) (hb : 0 ≤ b ∧ b < 10) (e : g mg a.toNat = .ref r) : xv g r b = Q a b := by
  obtain ⟨r', e1, e2, e3, e4⟩ := h.1.2 a ha.1 ha.2
  rw [e1] at e
  cases e
  exact e3 b hb.1 hb.2
def xqm : List (Nat × Nat) := [(11604, 0), (11500, 0)]
theorem xQ1_m {S S1 : xT} {g g1 : xG} {mg : Nat} {Q : Int → Int → Int} {L : List (Nat × Nat)} (h : xQ1 S g mg Q) (hm : xM L S g g1) (hle : xLe S S1) (hd : ∀ x ∈ xqm, x ∉ L) : xQ1 S1 g1 mg Q := by
  have em : ∀ k, g1 mg k = g mg k := fun k => hm _ _ _ k h.1 (hd _ (show (11604, 0) ∈ xqm by decide))
  refine ⟨hle _ _ h.1, fun a q1 q2 => ?_⟩
  obtain ⟨r, e1, e2, e3, e4⟩ := h.2 a q1 q2
  refine ⟨r, by rw [em]; exact e1, hle _ _ e2, fun b w1 w2 => ?_, fun a' w1 w2 w3 => e4 a' w1 w2 (by rw [← em]; exact w3)⟩
  rw [xv_m hm e2 (by decide) (hd _ (by decide))]; exact e3 b w1 w2
theorem xQm_m {S S1 : xT} {g g1 : xG} {mg : Nat} {Q : Int → Int → Int} {L : List (Nat × Nat)} (h : xQm S g mg Q) (hm : xM L S g g1) (hle : xLe S S1) (hd : ∀ x ∈ xqm, x ∉ L) : xQm S1 g1 mg Q := ⟨xQ1_m h.1 hm hle hd, h.2⟩
theorem xQm_u {S : xT} {g g1 : xG} {mg a t k n : Nat} {v : Value} {Q : Int → Int → Int} (h : xQm S g mg Q) (hg : g1 = xup g a k v) (hs : S a = some (t, n)) (ht : t ≠ 11604 ∧ t ≠ 11500) : xQm S g1 mg Q := by
  have em : ∀ k, g1 mg k = g mg k := fun k => xs_a hg (fun e => by rw [← e, h.1.1] at hs; cases hs; exact ht.1 rfl)
  refine ⟨⟨h.1.1, fun c q1 q2 => ?_⟩, h.2⟩
  obtain ⟨r, e1, e2, e3, e4⟩ := h.1.2 c q1 q2
  refine ⟨r, by rw [em]; exact e1, e2, fun b w1 w2 => ?_, fun a' w1 w2 w3 => e4 a' w1 w2 (by rw [← em]; exact w3)⟩
  rw [xv_a hg (fun e => by rw [← e, e2] at hs; cases hs; exact ht.2 rfl)]; exact e3 b w1 w2
theorem xQ1.up {S : xT} {g g1 : xG} {mg w : Nat} {Q : Int → Int → Int} {a b n : Int} (h : xQ1 S g mg Q) (ha : 0 ≤ a ∧ a < 10) (hb : 0 ≤ b ∧ b < 10) (e : g mg a.toNat = .ref w) (hfr : xFr 11500 S g g1 w) (hu : xUp (xv g1 w) (xv g w) b n) (hg : ∀ k, g1 mg k = g mg k) : xQ1 S g1 mg (fun x y => if x = a ∧ y = b then n else Q x y) := by
  refine ⟨h.1, fun c q1 q2 => ?_⟩
  obtain ⟨r, e1, e2, e3, e4⟩ := h.2 c q1 q2
  refine ⟨r, by rw [hg]; exact e1, e2, fun d w1 w2 => ?_, fun a' w1 w2 w3 => e4 a' w1 w2 (by rw [← hg]; exact w3)⟩
  show xv g1 r d = if c = a ∧ d = b then n else Q c d
  by_cases q : r = w
  · subst q
    have ec : a = c := e4 a ha.1 ha.2 e
    subst ec
    by_cases qd : d = b
    · rw [if_pos ⟨rfl, qd⟩, qd]; exact hu.1
    · rw [if_neg (fun x => qd x.2), hu.2 d w1 qd]; exact e3 d w1 w2
  · have nc : ¬ (c = a ∧ d = b) := fun x => by
      rw [x.1] at e1
      rw [e1] at e
      cases e
      exact q rfl
    rw [if_neg nc, hfr.v e2 q]; exact e3 d w1 w2
theorem xQ1.cg {S : xT} {g : xG} {mg : Nat} {Q Q' : Int → Int → Int} (h : xQ1 S g mg Q) (e : ∀ a b : Int, 0 ≤ a → a < 10 → 0 ≤ b → b < 10 → Q a b = Q' a b) : xQ1 S g mg Q' := ⟨h.1, fun a q1 q2 => by
  obtain ⟨r, e1, e2, e3, e4⟩ := h.2 a q1 q2
  exact ⟨r, e1, e2, fun b w1 w2 => by rw [← e a b q1 q2 w1 w2]; exact e3 b w1 w2, e4⟩⟩
theorem xQ1.h9 {S0 : xT} {g g1 : xG} {q : Nat} {Q : Int → Int → Int} (h : xQ1 S0 g q Q) (hq : ∀ k, g1 q k = g q k) (hr : ∀ r, S0 r = some (11500, 10) → xv g1 r = xv g r) : xQ1 S0 g1 q Q := ⟨h.1, fun a q1 q2 => by
  obtain ⟨r, e1, e2, e3, e4⟩ := h.2 a q1 q2
  exact ⟨r, (hq _).trans e1, e2, fun b w1 w2 => by rw [hr r e2]; exact e3 b w1 w2, fun a' w1 w2 w3 => e4 a' w1 w2 ((hq _).symm.trans w3)⟩⟩
theorem xQ1.u9 {S0 S : xT} {g g1 : xG} {q a k t n : Nat} {v : Value} {Q : Int → Int → Int} (h : xQ1 S0 g q Q) (hlt : xLt S0 S) (hg : g1 = xup g a k v) (ha : S a = some (t, n)) (ht : t ≠ 11604 ∧ t ≠ 11500) : xQ1 S0 g1 q Q :=
  h.h9 (fun _ => xs_a hg (xne (hlt _ _ _ h.1 (by decide)) ha (fun e => ht.1 (congrArg Prod.fst e).symm))) (fun r hr => xv_a hg (xne (hlt _ _ _ hr (by decide)) ha (fun e => ht.2 (congrArg Prod.fst e).symm)))
theorem xQ1.m9 {S0 S : xT} {g g1 : xG} {q : Nat} {L : List (Nat × Nat)} {Q : Int → Int → Int} (h : xQ1 S0 g q Q) (hlt : xLt S0 S) (hm : xM L S g g1) (hd : ∀ x ∈ xqm, x ∉ L) : xQ1 S0 g1 q Q :=
  h.h9 (fun k => hm _ _ _ k (hlt _ _ _ h.1 (by decide)) (hd _ (show (11604, 0) ∈ xqm by decide))) (fun r hr => xv_m hm (hlt _ _ _ hr (by decide)) (by decide) (hd _ (by decide)))
theorem xQ1.n9 {S0 S : xT} {g g1 : xG} {q c : Nat} {f : Nat → Value} {Q : Int → Int → Int} (h : xQ1 S0 g q Q) (hlt : xLt S0 S) (hg : g1 = xrow g c f) (hc : S c = none) : xQ1 S0 g1 q Q :=
  h.h9 (fun _ => by rw [hg, xrow_o (fun e => by have := hlt _ _ _ h.1 (by decide); rw [e, hc] at this; cases this)]) (fun r hr => xv_eqn (fun k => by rw [hg, xrow_o (fun e => by have := hlt _ _ _ hr (by decide); rw [e, hc] at this; cases this)]))
theorem xQ1.s9 {S0 S : xT} {g : xG} {q : Nat} {Q : Int → Int → Int} (h : xQ1 S0 g q Q) (hlt : xLt S0 S) : xQ1 S g q Q := ⟨hlt _ _ _ h.1 (by decide), fun a q1 q2 => by
  obtain ⟨r, e1, e2, e3, e4⟩ := h.2 a q1 q2
  exact ⟨r, e1, hlt _ _ _ e2 (by decide), e3, e4⟩⟩
theorem xQ1.of {S : xT} {g : xG} {q : Nat} (h : xGr S g q 11500 10 10) (hq : S q = some (11604, 10)) : xQ1 S g q (fun _ _ => 0) := ⟨hq, fun a q1 q2 => by
  obtain ⟨r, e1, e2, e3, e4⟩ := h a.toNat (by omega)
  refine ⟨r, e1, e2, fun b w1 w2 => ?_, fun a' w1 w2 w3 => by have := e4 a'.toNat (by omega) w3; omega⟩
  have e : g r b.toNat = .int (iI 0) := e3 b.toNat
  show xv g r b = 0
  exact xv_e e (by omega)⟩
def xQ9 : Int → Int → Int := fun x y => if x = y then 0 else 10
def xQf (a b : Int) : Int → Int → Int := fun x y => if x < a ∨ (x = a ∧ y < b) then (if x = y then 0 else 10) else 0
theorem xQs9 : xQs xQ9 := fun a b _ _ _ _ => by
  unfold xQ9
  by_cases c : a = b
  · rw [if_pos c, if_pos c.symm]; omega
  · rw [if_neg c, if_neg (fun e => c e.symm)]; omega
def xTy (n : Int) (A B T Y : Int → Int) : Prop := ∀ k, 0 ≤ k → k < n → A k = T k ∧ B k = Y k ∧ 0 ≤ T k ∧ T k ≤ 9 ∧ 0 ≤ Y k ∧ Y k ≤ 65535
theorem xQm.F {S : xT} {g : xG} {mg : Nat} {Q : Int → Int → Int} {n : Int} {A B T Y : Int → Int} (h : xQm S g mg Q) (ht : xTy n A B T Y) : ∀ i, 0 ≤ i → i < n → 0 ≤ xF9 Q T i := fun i q1 q2 => by
  have t := ht i q1 q2
  exact (h.2 0 (T i) (by omega) (by omega) (by omega) (by omega)).2.1
theorem xQm.W {S : xT} {g : xG} {mg : Nat} {Q : Int → Int → Int} {n : Int} {A B T Y : Int → Int} (h : xQm S g mg Q) (ht : xTy n A B T Y) : ∀ i j, 0 ≤ i → i < n → 0 ≤ j → j < n → 0 ≤ xW9 Q T i j := fun i j q1 q2 q3 q4 => by
  have t := ht i q1 q2
  have u := ht j q3 q4
  exact (h.2 (T i) (T j) (by omega) (by omega) (by omega) (by omega)).2.1
theorem xQm.W2 {S : xT} {g : xG} {mg : Nat} {Q : Int → Int → Int} {n : Int} {A B T Y : Int → Int} (h : xQm S g mg Q) (ht : xTy n A B T Y) : ∀ i j, 0 ≤ i → i < n → 0 ≤ j → j < n → xW9 Q T i j < 1000 := fun i j q1 q2 q3 q4 => by
  have t := ht i q1 q2
  have u := ht j q3 q4
  have := (h.2 (T i) (T j) (by omega) (by omega) (by omega) (by omega)).2.2
  show Q (T i) (T j) < 1000
  omega
theorem xTy.B {n : Int} {A B T Y : Int → Int} (ht : xTy n A B T Y) : ∀ i, 0 ≤ i → i < n → Y i < 900000 := fun i q1 q2 => by
  have t := ht i q1 q2
  omega
theorem xQm.f {S : xT} {g : xG} {mg r : Nat} {Q : Int → Int → Int} {T : Int → Int} {l a z : Int} (h : xQm S g mg Q) (e0 : T l = a) (ha : 0 ≤ a ∧ a < 10) (e : g mg a.toNat = .ref r) (ez : xv g r 0 = z) : xF9 Q T l = z := by
  show Q 0 (T l) = z
  rw [e0, (h.2 0 a (by omega) (by omega) ha.1 ha.2).1, ← ez]
  exact (h.at ha (by omega) e).symm
theorem xQm.w {S : xT} {g : xG} {mg r : Nat} {Q : Int → Int → Int} {T : Int → Int} {i l a b z : Int} (h : xQm S g mg Q) (e0 : T l = a) (e1 : T i = b) (ha : 0 ≤ a ∧ a < 10) (hb : 0 ≤ b ∧ b < 10) (e : g mg a.toNat = .ref r) (ez : xv g r b = z) : xW9 Q T i l = z ∧ xW9 Q T l i = z := by
  have w := h.at ha hb e
  have s := (h.2 a b ha.1 ha.2 hb.1 hb.2).1
  refine ⟨?_, ?_⟩
  · show Q (T i) (T l) = z
    rw [e0, e1, ← s, ← w]; exact ez
  · show Q (T l) (T i) = z
    rw [e0, e1, ← w]; exact ez
theorem xDp.lt {n s l : Int} {F B D : Int → Int} {W : Int → Int → Int} (h : xDp n F W B D s l) (hl : 0 ≤ l) : xDp n F W B D s 0 := fun s' l' q1 q2 q3 q4 q5 => h s' l' q1 q2 q3 q4 (by omega)
theorem xDp.to {n s l s' : Int} {F B D : Int → Int} {W : Int → Int → Int} (h : xDp n F W B D s l) (e : s' ≤ s) : xDp n F W B D s' 0 := fun s1 l' q1 q2 q3 q4 q5 => h s1 l' q1 q2 q3 q4 (by omega)
theorem xTz.rng {n e a s l : Int} {F B D E : Int → Int} {W : Int → Int → Int} (h : xTz n F W B D E e a) (hF : ∀ i, 0 ≤ i → i < n → 0 ≤ F i) (hW : ∀ i j, 0 ≤ i → i < n → 0 ≤ j → j < n → 0 ≤ W i j) (hB : ∀ i, 0 ≤ i → i < n → B i < 900000) (hs : 1 ≤ s ∧ s ≤ a) (hl : 0 ≤ l ∧ l < n) : 0 ≤ E (9 * s + l) ∧ E (9 * s + l) ≤ 1000000 := by
  have r := xSv.rng hF hW hB (h.1 s l hs.1 hs.2 hl.1 hl.2)
  rcases (h.2.2 s l hs.1 hs.2 hl.1 hl.2).1 with q | q
  · rw [q]; omega
  · rw [q]; omega
theorem xp2lt {c n : Int} (h : 0 ≤ c ∧ c < n) : ((2 ^ c.toNat : Nat) : Int) < ((2 ^ n.toNat : Nat) : Int) := by
  have : 2 ^ c.toNat < 2 ^ n.toNat := Nat.pow_lt_pow_right (by decide) (by omega)
  omega
theorem xnel {t t' n n' : Nat} (h : t ≠ t') : (t, n) ≠ (t', n') := fun e => h (congrArg Prod.fst e)
theorem xp2ge (c : Int) : 1 ≤ ((2 ^ c.toNat : Nat) : Int) := by
  have : 0 < 2 ^ c.toNat := Nat.two_pow_pos _
  omega
theorem xTz.start {n e a : Int} {F B D E : Int → Int} {W : Int → Int → Int} (hn : 1 ≤ n ∧ n ≤ 9) (ha : a + 1 = ((2 ^ n.toNat : Nat) : Int)) (hB : ∀ i, 0 ≤ i → i < n → B i < 900000) (he : e < 900000) (h : xTz n F W B D E e a) (hl : ∃ l, 0 ≤ l ∧ l < n ∧ D (9 * a + l) = e) : ∃ x, 0 ≤ x ∧ x < n ∧ xSt0 n E x := by
  have hn0 : 0 ≤ n ∧ n ≤ 9 := ⟨by omega, hn.2⟩
  have p1 := xp2lt (c := 0) (n := n) (by omega)
  have p0 := xp2ge 0
  obtain ⟨l, l1, l2, l3⟩ := hl
  rcases (h.1 a l (by omega) (by omega) l1 l2).2 with q | ⟨v, b, v1, v2, v3, v4⟩
  · omega
  · have fb := (xmn_full hn0 v1.1).mpr (by omega)
    have o := xTz.opt hn ha hB he h (t := v) (by rw [← fb]; exact v1) (by rw [← fb]; show xar F W v b = e; omega) b 0 (by omega)
    have r := v1.1.2.1 0 (by omega) (by omega)
    have w1 := v1.2 0 (by omega)
    have w2 := hB (v 0) r.1 r.2
    refine ⟨v 0, r.1, r.2, ?_⟩
    show E (9 * ((2 ^ (v 0).toNat : Nat) : Int) + v 0) ≠ 1000000
    have mk : ((xmn v (0 + 1) : Nat) : Int) = ((2 ^ (v 0).toNat : Nat) : Int) := by show ((0 + 2 ^ (v 0).toNat : Nat) : Int) = _; rw [Nat.zero_add]
    rw [← mk]
    have o' : E (9 * ((xmn v (0 + 1) : Nat) : Int) + v 0) = xar F W v 0 := o
    have w1' : xar F W v 0 ≤ B (v 0) := w1
    omega
def xTn (f : Int → Int) : Int := (xsq f 9).1
def xTs (f : Int → Int) : Int → Int := (xsq f 9).2
def xTb9 (f : Int → Int) : Int → Int := fun i => xpr f (xTs f i)
def xTk (f : Int → Int) (Q : Int → Int → Int) (r m m1 : Int) (Y Y1 : Int → Int) : Prop := (xTn f = 0 ∧ r = 0 ∧ m1 = 0) ∨ (1 ≤ xTn f ∧ r = -1 ∧ m1 = m ∧ (∀ k, 0 ≤ k → k < 9 → Y1 k = Y k) ∧ ∀ t, ¬ xFz (xTn f) (xF9 Q (xTs f)) (xW9 Q (xTs f)) (xTb9 f) t (xTn f).toNat) ∨ (1 ≤ xTn f ∧ m1 = xTn f ∧ ∃ v, xBw (xTn f) (xF9 Q (xTs f)) (xW9 Q (xTs f)) (xTb9 f) r v ∧ ∀ k, 0 ≤ k → k < xTn f → Y1 k = xTs f (v k))
theorem xTk.det {f : Int → Int} {Q : Int → Int → Int} {r r' m m1 m1' : Int} {Y Y1 Y' Y1' : Int → Int} (hm : m ≤ 9) (ha : ∀ k, 0 ≤ k → k < m → Y k = Y' k) (h : xTk f Q r m m1 Y Y1) (h' : xTk f Q r' m m1' Y' Y1') : r = r' ∧ m1 = m1' ∧ ∀ k, 0 ≤ k → k < m1 → Y1 k = Y1' k := by
  rcases h with ⟨a1, a2, a3⟩ | ⟨a1, a2, a3, a4, a5⟩ | ⟨a1, a2, v, a3, a4⟩
  · rcases h' with ⟨b1, b2, b3⟩ | ⟨b1, b2, b3, b4, b5⟩ | ⟨b1, b2, u, b3, b4⟩
    · exact ⟨by omega, by omega, fun k q1 q2 => by omega⟩
    · omega
    · omega
  · rcases h' with ⟨b1, b2, b3⟩ | ⟨b1, b2, b3, b4, b5⟩ | ⟨b1, b2, u, b3, b4⟩
    · omega
    · exact ⟨by omega, by omega, fun k q1 q2 => by rw [a4 k q1 (by omega), b4 k q1 (by omega)]; exact ha k q1 (by omega)⟩
    · exact absurd b3.1 (a5 u)
  · rcases h' with ⟨b1, b2, b3⟩ | ⟨b1, b2, b3, b4, b5⟩ | ⟨b1, b2, u, b3, b4⟩
    · omega
    · exact absurd a3.1 (b5 v)
    · have d := xBw.det a3 b3
      exact ⟨d.1, by omega, fun k q1 q2 => by rw [a4 k q1 (by omega), b4 k q1 (by omega), d.2 k q1 (by omega)]⟩
set_option maxHeartbeats 4000000 in
set_option maxRecDepth 100000 in
theorem c3_soonestAt (l : Launch) (D : va_G) (kA : Nat → ClassId) (b0 : Nat) (t0 : Nat → Nat) (S : xT) (g : xG) (a0 : Nat) (a1 : Nat) (x2 : Int) (x3 : Int) (n0 : Int) (ws : Nat) (wb : Nat) (w0 nw0 : Nat) (mg : Nat) (Q9 : Int → Int → Int) (T9 : Int → Int) (Y9 : Int → Int) (hs_a0 : S a0 = some (9, 0)) (hs_a1 : S a1 = some (4, 0)) (hx2 : 1 ≤ x2 ∧ x2 ≤ 511) (hx3 : 0 ≤ x3 ∧ x3 ≤ 8) (hn0 : 1 ≤ n0 ∧ n0 ≤ 9) (en0 : g a0 4 = .int (iI n0)) (ews : g a0 0 = .ref ws) (hs_ws : S ws = some (13100, 9)) (ewb : g a0 1 = .ref wb) (hs_wb : S wb = some (13200, 9)) (ew0 : g a0 3 = .ref w0) (hs_w0 : S w0 = some (13400, nw0)) (emg : g a1 6 = .ref mg) (hs_mg : S mg = some (11604, 10)) (hp0 : 9 * ((2 ^ n0.toNat : Nat) : Int) ≤ (nw0 : Int)) (hp1 : (nw0 : Int) ≤ 2147483647) (hp2 : xQm S g mg Q9) (hp3 : xTy n0 (xv g ws) (xv g wb) T9 Y9) (hp4 : x2 < ((2 ^ n0.toNat : Nat) : Int) ∧ x3 < n0) (hp5 : xtc x2.toNat x3.toNat = 1) (hp6 : xDp n0 (xF9 Q9 T9) (xW9 Q9 T9) Y9 (xv g w0) x2 0) : xMt l yX8_soonestAt cX8_soonestAt 8 (some .int) 1 0 0 13 D kA b0 t0 [] [.ref a0, .ref a1, .int (iI x2), .int (iI x3)] S g (fun (r : Option Value) (S1 : xT) (g1 : xG) => S = S1 ∧ g = g1 ∧ ∃ z : Int, r = some (.int (iI z)) ∧ 0 ≤ z ∧ z ≤ 1000000 ∧ (xSv n0 (xF9 Q9 T9) (xW9 Q9 T9) Y9 x2 x3 z)) := by
  refine xEnterI (by decide) (by simp [lg_sl, Value.category]) [(0, .ref a0), (1, .ref a1), (2, .int (iI x2)), (3, .int (iI x3))] rfl ?_
  intro K E hK hret _ _ _
  refine X_aloadn hK (i := 1) 1 kd36_22.2.2.2.2.2.2.2.2.1 rfl rfl ?_
  refine X_getK hK fl_X8_62_4 hs_a1 emg kd36_22.2.2.2.2.2.2.2.2.2.1 ?_
  refine X_aloadn hK (i := 0) 0 kd36_22.2.2.2.2.2.2.2.2.2.2.1 rfl rfl ?_
  refine X_getK hK fl_X8_11_9 hs_a0 ews kd36_22.2.2.2.2.2.2.2.2.2.2.2 ?_
  refine X_iloadn hK (i := 3) 3 kd36_23.1 rfl rfl ?_
  refine X_iald hK hs_ws (by decide) sl_13100 (by omega) (by omega) kd36_23.2.1 (fun z1 ez1 lz1 uz1 => ?_)
  have ht2 : T9 x3 = z1 := ((show xTy n0 (xv g ws) (xv g wb) T9 Y9 from hp3) x3 (by omega) (by omega)).1.symm.trans (xv_e (j := x3) ez1 (by omega))
  refine X_aald hK 11500 10 hs_mg (by decide) sl_11604 (by omega) (by omega) kd36_23.2.2.1 (fun b3 eb3 hs_b3 => ?_)
  refine X_astore hK (i := 4) [(4, .ref b3), (0, .ref a0), (1, .ref a1), (2, .int (iI x2)), (3, .int (iI x3))] kd36_23.2.2.2.1 (by decide) rfl ?_
  refine X_iloadn hK (i := 2) 3 kd36_23.2.2.2.2.1 rfl rfl ?_
  refine X_iconst hK kd36_23.2.2.2.2.2.1 ?_
  refine X_iloadn hK (i := 3) 4 kd36_23.2.2.2.2.2.2.1 rfl rfl ?_
  refine X_ishl hK kd36_23.2.2.2.2.2.2.2.1 (fun z4 ez4 lz4 uz4 => ?_)
  have bz4 := xshlB 8 ez4 ⟨lz4, uz4⟩ (by omega) (by decide)
  refine X_ixor hK kd36_23.2.2.2.2.2.2.2.2.1 (fun z5 ez5 lz5 uz5 => ?_)
  have bz5 := xixorB 9 ez5 ⟨lz5, uz5⟩ (by omega) (by omega) (by decide)
  have hxz5 := xxorn (m := x2) (c := x3) (by omega) (by omega) hp5 ez4 ez5 (by omega)
  have hyz5 := xp2ge x3
  refine X_istore hK (i := 5) [(5, .int (iI z5)), (4, .ref b3), (0, .ref a0), (1, .ref a1), (2, .int (iI x2)), (3, .int (iI x3))] kd36_23.2.2.2.2.2.2.2.2.2.1 (by decide) rfl ?_
  refine X_iload hK (i := 5) 0 kd36_23.2.2.2.2.2.2.2.2.2.2.1 rfl ?_
  refine X_if_ne hK 32 (by omega) kd36_23.2.2.2.2.2.2.2.2.2.2.2 (by decide) (fun c6 => ?_) (fun c6 => ?_)
  · refine X_ldc hK (n := 1000000) kd36_24.2.2.2.2.1 m_53_22 (by decide) ?_
    refine X_istore hK (i := 6) [(6, .int (iI 1000000)), (5, .int (iI z5)), (4, .ref b3), (0, .ref a0), (1, .ref a1), (2, .int (iI x2)), (3, .int (iI x3))] kd36_24.2.2.2.2.2.1 (by decide) rfl ?_
    refine X_iconst hK kd36_24.2.2.2.2.2.2.1 ?_
    refine X_istore hK (i := 7) [(7, .int (iI 0)), (6, .int (iI 1000000)), (5, .int (iI z5)), (4, .ref b3), (0, .ref a0), (1, .ref a1), (2, .int (iI x2)), (3, .int (iI x3))] kd36_24.2.2.2.2.2.2.2.1 (by decide) rfl ?_
    have P65 : ∀ (nP65 : Nat) (z55 : Int) (_ : 0 ≤ z55) (_ : z55 ≤ 9) (z56 : Int) (_ : 0 ≤ z56) (_ : z56 ≤ 1000000) (_ : (z5 ≠ 0 → xMi (fun f9 => xv g w0 (9 * z5 + f9) + xW9 Q9 T9 f9 x3) z55 z56) ∧ (z5 = 0 → z56 = xF9 Q9 T9 x3)) (_ : z55 ≤ n0) (_ : 25 - z55 < (nP65 : Int)), X K E 39 [(7, .int (iI z55)), (6, .int (iI z56)), (5, .int (iI z5)), (4, .ref b3), (0, .ref a0), (1, .ref a1), (2, .int (iI x2)), (3, .int (iI x3))] [] S g 0 0 := by
      intro nP65
      induction nP65 with
      | zero => intro z55 lz55 uz55 z56 lz56 uz56 v66 v67 mP65; exact False.elim (by omega)
      | succ nP65 ihP65 =>
        intro z55 lz55 uz55 z56 lz56 uz56 v66 v67 mP65
        refine X_iload hK (i := 7) 0 kd36_24.2.2.2.2.2.2.2.2.1 rfl ?_
        refine X_aloadn hK (i := 0) 4 kd36_24.2.2.2.2.2.2.2.2.2.1 rfl rfl ?_
        refine X_getK hK fl_X8_24_9 hs_a0 en0 kd36_24.2.2.2.2.2.2.2.2.2.2.1 ?_
        refine X_icmp_ge hK 90 (by omega) (by omega) kd36_24.2.2.2.2.2.2.2.2.2.2.2 (by decide) (fun c68 => ?_) (fun c68 => ?_)
        · refine X_iload hK (i := 6) 1 kd36_26.2.2.2.2.2.2.2.2.2.2.1 rfl ?_
          refine X_aloadn hK (i := 0) 4 kd36_26.2.2.2.2.2.2.2.2.2.2.2 rfl rfl ?_
          refine X_getK hK fl_X8_15_9 hs_a0 ewb kd36_27.1 ?_
          refine X_iloadn hK (i := 3) 7 kd36_27.2.1 rfl rfl ?_
          refine X_iald hK hs_wb (by decide) sl_13200 (by omega) (by omega) kd36_27.2.2.1 (fun z69 ez69 lz69 uz69 => ?_)
          have ht70 : Y9 x3 = z69 := ((show xTy n0 (xv g ws) (xv g wb) T9 Y9 from hp3) x3 (by omega) (by omega)).2.1.symm.trans (xv_e (j := x3) ez69 (by omega))
          refine X_icmp_gt hK 106 (by omega) (by omega) kd36_27.2.2.2.1 (by decide) (fun c71 => ?_) (fun c71 => ?_)
          · refine X_ldc hK (n := 1000000) kd36_27.2.2.2.2.2.2.1 m_53_22 (by decide) ?_
            exact hret _ _ _ _ _ _ _ kd36_27.2.2.2.2.2.2.2.1 ⟨rfl, rfl, 1000000, rfl, (by omega), (by omega), ((xSv.mo (a := z5) (m := z56) (D := fun f9 => xv g w0 (9 * z5 + f9)) (by omega) (by omega) (by omega) hp5 (by omega) (by omega) (fun f9 q1 q2 => hp6 z5 f9 (by omega) (by omega) q1 q2 (Or.inl (by omega))) (fun f9 q1 q2 => (v66.1 (by omega)).1 f9 q1 (by omega)) (by rcases (v66.1 (by omega)).2.2 with q9 | ⟨f9, q1, q2, q3⟩; exact Or.inl q9; exact Or.inr ⟨f9, q1, by omega, q3⟩) (by rw [ht70]; omega) (fun f9 q1 q2 => xQm.W hp2 hp3 f9 x3 q1 q2 (by omega) (by omega))).2 (by rw [ht70]; omega))⟩ (Nat.le_refl _) (Nat.le_refl _)
          · refine X_iload hK (i := 6) 1 kd36_27.2.2.2.2.1 rfl ?_
            refine X_goto hK 108 kd36_27.2.2.2.2.2.1 (by decide) ?_
            exact hret _ _ _ _ _ _ _ kd36_27.2.2.2.2.2.2.2.1 ⟨rfl, rfl, z56, rfl, (by omega), (by omega), ((xSv.mo (a := z5) (m := z56) (D := fun f9 => xv g w0 (9 * z5 + f9)) (by omega) (by omega) (by omega) hp5 (by omega) (by omega) (fun f9 q1 q2 => hp6 z5 f9 (by omega) (by omega) q1 q2 (Or.inl (by omega))) (fun f9 q1 q2 => (v66.1 (by omega)).1 f9 q1 (by omega)) (by rcases (v66.1 (by omega)).2.2 with q9 | ⟨f9, q1, q2, q3⟩; exact Or.inl q9; exact Or.inr ⟨f9, q1, by omega, q3⟩) (by rw [ht70]; omega) (fun f9 q1 q2 => xQm.W hp2 hp3 f9 x3 q1 q2 (by omega) (by omega))).1 (by rw [ht70]; omega))⟩ (Nat.le_refl _) (Nat.le_refl _)
        · refine X_iload hK (i := 5) 2 kd36_25.1 rfl ?_
          refine X_if_eq hK 90 (by omega) kd36_25.2.1 (by decide) (fun c72 => False.elim (by omega)) (fun c72 => ?_)
          refine X_iload hK (i := 6) 1 kd36_25.2.2.1 rfl ?_
          refine X_aloadn hK (i := 0) 4 kd36_25.2.2.2.1 rfl rfl ?_
          refine X_getK hK fl_X8_21_9 hs_a0 ew0 kd36_25.2.2.2.2.1 ?_
          refine X_iload hK (i := 5) 2 kd36_25.2.2.2.2.2.1 rfl ?_
          refine X_bipush hK kd36_25.2.2.2.2.2.2.1 (by decide) ?_
          refine X_imul hK kd36_25.2.2.2.2.2.2.2.1 ?_
          refine X_iload hK (i := 7) 0 kd36_25.2.2.2.2.2.2.2.2.1 rfl ?_
          refine X_iadd hK kd36_25.2.2.2.2.2.2.2.2.2.1 ?_
          refine X_iald hK hs_w0 ⟨by decide, by decide, by omega⟩ sl_13400 (by omega) (by omega) kd36_25.2.2.2.2.2.2.2.2.2.2.1 (fun z73 ez73 lz73 uz73 => ?_)
          have hr74 := (show xv g w0 (9 * z5 + z55) = z73 from by rw [show 9 * z5 + z55 = ((z5 * 9) + z55) by omega]; exact xv_e (j := ((z5 * 9) + z55)) ez73 (by omega))
          have rhr74 := xSv.rng (xQm.F hp2 (show xTy n0 (xv g ws) (xv g wb) T9 Y9 from hp3)) (xQm.W hp2 (show xTy n0 (xv g ws) (xv g wb) T9 Y9 from hp3)) (xTy.B (show xTy n0 (xv g ws) (xv g wb) T9 Y9 from hp3)) (hp6 z5 z55 (by omega) (by omega) (by omega) (by omega) (Or.inl (by omega)))
          rw [hr74] at rhr74
          refine X_aload hK (i := 4) 3 kd36_25.2.2.2.2.2.2.2.2.2.2.2 rfl ?_
          refine X_aloadn hK (i := 0) 4 kd36_26.1 rfl rfl ?_
          refine X_getK hK fl_X8_11_9 hs_a0 ews kd36_26.2.1 ?_
          refine X_iload hK (i := 7) 0 kd36_26.2.2.1 rfl ?_
          refine X_iald hK hs_ws (by decide) sl_13100 (by omega) (by omega) kd36_26.2.2.2.1 (fun z75 ez75 lz75 uz75 => ?_)
          have ht76 : T9 z55 = z75 := ((show xTy n0 (xv g ws) (xv g wb) T9 Y9 from hp3) z55 (by omega) (by omega)).1.symm.trans (xv_e (j := z55) ez75 (by omega))
          refine X_iald hK hs_b3 (by decide) sl_11500 (by omega) (by omega) kd36_26.2.2.2.2.1 (fun z77 ez77 lz77 uz77 => ?_)
          have hw78 := xQm.w (i := z55) (l := x3) hp2 ht2 ht76 (by omega) (by omega) eb3 (xv_e (j := z75) ez77 (by omega))
          refine X_iadd hK kd36_26.2.2.2.2.2.1 ?_
          refine X_mmin hK mm_X8_68 ⟨by decide, by simp [Value.category]⟩ (by decide) (by omega) (by omega) kd36_26.2.2.2.2.2.2.1 (fun z79 ez79 fz79 => ?_)
          have bz79 : 0 ≤ z79 ∧ z79 ≤ 1000000 := by omega
          refine X_istore hK (i := 6) [(6, .int (iI z79)), (7, .int (iI z55)), (5, .int (iI z5)), (4, .ref b3), (0, .ref a0), (1, .ref a1), (2, .int (iI x2)), (3, .int (iI x3))] kd36_26.2.2.2.2.2.2.2.1 (by decide) rfl ?_
          refine X_iinc hK (i := 7) (z := z55) (n := 1) 1 [(7, .int (iI (z55 + 1))), (6, .int (iI z79)), (5, .int (iI z5)), (4, .ref b3), (0, .ref a0), (1, .ref a1), (2, .int (iI x2)), (3, .int (iI x3))] kd36_26.2.2.2.2.2.2.2.2.1 rfl (by decide) rfl ?_
          refine X_goto hK 39 kd36_26.2.2.2.2.2.2.2.2.2.1 (by decide) ?_
          exact ihP65  (z55 + 1) (by omega) (by omega) z79 (by omega) (by omega) ⟨fun h9 => xMi.s (v66.1 h9) (by omega) (show xv g w0 (9 * z5 + z55) + xW9 Q9 T9 z55 x3 = _ from by rw [hr74, hw78.1]) (by omega), fun h9 => by omega⟩ (by omega) (by omega)
    exact P65 ((25 - 0 : Int).toNat + 1) 0 (by omega) (by omega) 1000000 (by omega) (by omega) ⟨fun _ => xMi.z, fun h9 => by omega⟩ (by omega) (by omega)
  · refine X_aload hK (i := 4) 1 kd36_24.1 rfl ?_
    refine X_iconst hK kd36_24.2.1 ?_
    refine X_iald hK hs_b3 (by decide) sl_11500 (by omega) (by omega) kd36_24.2.2.1 (fun z80 ez80 lz80 uz80 => ?_)
    have hf81 : xF9 Q9 T9 x3 = z80 := xQm.f hp2 ht2 (by omega) eb3 (xv_e (j := 0) ez80 (by omega))
    refine X_goto hK 34 kd36_24.2.2.2.1 (by decide) ?_
    refine X_istore hK (i := 6) [(6, .int (iI z80)), (5, .int (iI z5)), (4, .ref b3), (0, .ref a0), (1, .ref a1), (2, .int (iI x2)), (3, .int (iI x3))] kd36_24.2.2.2.2.2.1 (by decide) rfl ?_
    refine X_iconst hK kd36_24.2.2.2.2.2.2.1 ?_
    refine X_istore hK (i := 7) [(7, .int (iI 0)), (6, .int (iI z80)), (5, .int (iI z5)), (4, .ref b3), (0, .ref a0), (1, .ref a1), (2, .int (iI x2)), (3, .int (iI x3))] kd36_24.2.2.2.2.2.2.2.1 (by decide) rfl ?_
    have P106 : ∀ (nP106 : Nat) (z100 : Int) (_ : 0 ≤ z100) (_ : z100 ≤ 0) (z101 : Int) (_ : 0 ≤ z101) (_ : z101 ≤ 1000000) (_ : (z5 ≠ 0 → xMi (fun f9 => xv g w0 (9 * z5 + f9) + xW9 Q9 T9 f9 x3) z100 z101) ∧ (z5 = 0 → z101 = xF9 Q9 T9 x3)) (_ : z100 ≤ n0) (_ : (0 : Int) < (nP106 : Int)), X K E 39 [(7, .int (iI z100)), (6, .int (iI z101)), (5, .int (iI z5)), (4, .ref b3), (0, .ref a0), (1, .ref a1), (2, .int (iI x2)), (3, .int (iI x3))] [] S g 0 0 := by
      intro nP106
      induction nP106 with
      | zero => intro z100 lz100 uz100 z101 lz101 uz101 v107 v108 mP106; exact False.elim (by omega)
      | succ nP106 ihP106 =>
        intro z100 lz100 uz100 z101 lz101 uz101 v107 v108 mP106
        refine X_iload hK (i := 7) 0 kd36_24.2.2.2.2.2.2.2.2.1 rfl ?_
        refine X_aloadn hK (i := 0) 4 kd36_24.2.2.2.2.2.2.2.2.2.1 rfl rfl ?_
        refine X_getK hK fl_X8_24_9 hs_a0 en0 kd36_24.2.2.2.2.2.2.2.2.2.2.1 ?_
        refine X_icmp_ge hK 90 (by omega) (by omega) kd36_24.2.2.2.2.2.2.2.2.2.2.2 (by decide) (fun c109 => False.elim (by omega)) (fun c109 => ?_)
        refine X_iload hK (i := 5) 2 kd36_25.1 rfl ?_
        refine X_if_eq hK 90 (by omega) kd36_25.2.1 (by decide) (fun c110 => ?_) (fun c110 => False.elim (by omega))
        refine X_iload hK (i := 6) 1 kd36_26.2.2.2.2.2.2.2.2.2.2.1 rfl ?_
        refine X_aloadn hK (i := 0) 4 kd36_26.2.2.2.2.2.2.2.2.2.2.2 rfl rfl ?_
        refine X_getK hK fl_X8_15_9 hs_a0 ewb kd36_27.1 ?_
        refine X_iloadn hK (i := 3) 7 kd36_27.2.1 rfl rfl ?_
        refine X_iald hK hs_wb (by decide) sl_13200 (by omega) (by omega) kd36_27.2.2.1 (fun z111 ez111 lz111 uz111 => ?_)
        have ht112 : Y9 x3 = z111 := ((show xTy n0 (xv g ws) (xv g wb) T9 Y9 from hp3) x3 (by omega) (by omega)).2.1.symm.trans (xv_e (j := x3) ez111 (by omega))
        refine X_icmp_gt hK 106 (by omega) (by omega) kd36_27.2.2.2.1 (by decide) (fun c113 => ?_) (fun c113 => ?_)
        · refine X_ldc hK (n := 1000000) kd36_27.2.2.2.2.2.2.1 m_53_22 (by decide) ?_
          exact hret _ _ _ _ _ _ _ kd36_27.2.2.2.2.2.2.2.1 ⟨rfl, rfl, 1000000, rfl, (by omega), (by omega), (xSv.one0 (by omega) (by omega) (by omega) (by rw [← (v107.2 (by omega)), ht112]; omega))⟩ (Nat.le_refl _) (Nat.le_refl _)
        · refine X_iload hK (i := 6) 1 kd36_27.2.2.2.2.1 rfl ?_
          refine X_goto hK 108 kd36_27.2.2.2.2.2.1 (by decide) ?_
          exact hret _ _ _ _ _ _ _ kd36_27.2.2.2.2.2.2.2.1 ⟨rfl, rfl, z101, rfl, (by omega), (by omega), (by rw [(v107.2 (by omega))]; exact xSv.one (by omega) (by omega) (by omega) (by rw [← (v107.2 (by omega)), ht112]; omega))⟩ (Nat.le_refl _) (Nat.le_refl _)
    exact P106 (((0 : Int) : Int).toNat + 1) 0 (by omega) (by omega) z80 (by omega) (by omega) ⟨fun h9 => by omega, fun _ => hf81.symm⟩ (by omega) (by omega)

set_option maxHeartbeats 4000000 in
set_option maxRecDepth 100000 in
theorem c3_findSoonest (l : Launch) (D : va_G) (kA : Nat → ClassId) (b0 : Nat) (t0 : Nat → Nat) (S : xT) (g : xG) (a0 : Nat) (a1 : Nat) (n0 : Int) (ws : Nat) (wb : Nat) (w0 nw0 : Nat) (mg : Nat) (Q9 : Int → Int → Int) (T9 : Int → Int) (Y9 : Int → Int) (hs_a0 : S a0 = some (9, 0)) (hs_a1 : S a1 = some (4, 0)) (hn0 : 1 ≤ n0 ∧ n0 ≤ 9) (en0 : g a0 4 = .int (iI n0)) (ews : g a0 0 = .ref ws) (hs_ws : S ws = some (13100, 9)) (ewb : g a0 1 = .ref wb) (hs_wb : S wb = some (13200, 9)) (ew0 : g a0 3 = .ref w0) (hs_w0 : S w0 = some (13400, nw0)) (emg : g a1 6 = .ref mg) (hs_mg : S mg = some (11604, 10)) (hp0 : 9 * ((2 ^ n0.toNat : Nat) : Int) ≤ (nw0 : Int)) (hp1 : (nw0 : Int) ≤ 2147483647) (hp2 : xQm S g mg Q9) (hp3 : xTy n0 (xv g ws) (xv g wb) T9 Y9) : xMt l yX8_findSoonest cX8_findSoonest 4 none 2 0 0 40 D kA b0 t0 [(13400, 0)] [.ref a0, .ref a1] S g (fun (r : Option Value) (S1 : xT) (g1 : xG) => S = S1 ∧ r = none ∧ (xDp n0 (xF9 Q9 T9) (xW9 Q9 T9) Y9 (xv g1 w0) ((2 ^ n0.toNat : Nat) : Int) 0)) := by
  refine xEnterV (by decide) (by simp [lg_sl, Value.category]) [(0, .ref a0), (1, .ref a1)] rfl ?_
  intro K E hK hret _ _ _
  refine X_iconst hK kd36_7.2.2.2.2.2.2.1 ?_
  have hp2n := xp2ge n0
  refine X_istoren hK (i := 2) [(2, .int (iI 1)), (0, .ref a0), (1, .ref a1)] kd36_7.2.2.2.2.2.2.2.1 rfl (by decide) rfl ?_
  have P475 : ∀ (nP475 : Nat) (g381 : xG) (_ : xM [(13400, 0)] S g g381) (z380 : Int) (_ : 1 ≤ z380) (_ : z380 ≤ 512) (_ : xDp n0 (xF9 Q9 T9) (xW9 Q9 T9) Y9 (xv g381 w0) z380 0) (_ : z380 ≤ ((2 ^ n0.toNat : Nat) : Int)) (_ : 528 - z380 < (nP475 : Int)), X K E 2 [(2, .int (iI z380)), (0, .ref a0), (1, .ref a1)] [] S g381 0 0 := by
    intro nP475
    induction nP475 with
    | zero => intro g381 hg381 z380 lz380 uz380 v476 v477 mP475; exact False.elim (by omega)
    | succ nP475 ihP475 =>
      intro g381 hg381 z380 lz380 uz380 v476 v477 mP475
      refine X_iloadn hK (i := 2) 0 kd36_7.2.2.2.2.2.2.2.2.1 rfl rfl ?_
      refine X_iconst hK kd36_7.2.2.2.2.2.2.2.2.2.1 ?_
      refine X_aloadn hK (i := 0) 1 kd36_7.2.2.2.2.2.2.2.2.2.2.1 rfl rfl ?_
      refine X_getK hK fl_X8_24_9 hs_a0 ((hg381 a0 9 0 4 hs_a0 (by decide)).trans en0) kd36_7.2.2.2.2.2.2.2.2.2.2.2 ?_
      refine X_ishl hK kd36_8.1 (fun z478 ez478 lz478 uz478 => ?_)
      have bz478 := xshlB 9 ez478 ⟨lz478, uz478⟩ (by omega) (by decide)
      have hPz478 := xshl1 ez478 ⟨lz478, uz478⟩ (by omega)
      refine X_icmp_ge hK 66 (by omega) (by omega) kd36_8.2.1 (by decide) (fun c479 => ?_) (fun c479 => ?_)
      · exact hret _ _ _ _ _ _ kd36_10.2.2.2.2.2.2.2.2.2.2.1 ⟨rfl, rfl, (xDp.to v476 (by omega))⟩ (Nat.le_refl _) (Nat.le_refl _)
      · refine X_iconst hK kd36_8.2.2.1 ?_
        refine X_istoren hK (i := 3) [(3, .int (iI 0)), (2, .int (iI z380)), (0, .ref a0), (1, .ref a1)] kd36_8.2.2.2.1 rfl (by decide) rfl ?_
        have P557 : ∀ (nP557 : Nat) (g545 : xG) (_ : xM [(13400, 0)] S g381 g545) (z544 : Int) (_ : 0 ≤ z544) (_ : z544 ≤ 9) (_ : xDp n0 (xF9 Q9 T9) (xW9 Q9 T9) Y9 (xv g545 w0) z380 z544) (_ : z380 < ((2 ^ n0.toNat : Nat) : Int)) (_ : 25 - z544 < (nP557 : Int)), X K E 14 [(3, .int (iI z544)), (2, .int (iI z380)), (0, .ref a0), (1, .ref a1)] [] S g545 0 0 := by
          intro nP557
          induction nP557 with
          | zero => intro g545 hg545 z544 lz544 uz544 v558 v559 mP557; exact False.elim (by omega)
          | succ nP557 ihP557 =>
            intro g545 hg545 z544 lz544 uz544 v558 v559 mP557
            refine X_iloadn hK (i := 3) 0 kd36_8.2.2.2.2.1 rfl rfl ?_
            refine X_aloadn hK (i := 0) 2 kd36_8.2.2.2.2.2.1 rfl rfl ?_
            refine X_getK hK fl_X8_24_9 hs_a0 ((hg545 a0 9 0 4 hs_a0 (by decide)).trans ((hg381 a0 9 0 4 hs_a0 (by decide)).trans en0)) kd36_8.2.2.2.2.2.2.1 ?_
            refine X_icmp_ge hK 60 (by omega) (by omega) kd36_8.2.2.2.2.2.2.2.1 (by decide) (fun c560 => ?_) (fun c560 => ?_)
            · refine X_iinc hK (i := 2) (z := z380) (n := 1) 1 [(2, .int (iI (z380 + 1))), (3, .int (iI z544)), (0, .ref a0), (1, .ref a1)] kd36_10.2.2.2.2.2.2.2.2.1 rfl (by decide) rfl ?_
              refine X_goto hK 2 kd36_10.2.2.2.2.2.2.2.2.2.1 (by decide) ?_
              refine X_lv [(2, .int (iI (z380 + 1))), (0, .ref a0), (1, .ref a1)] [0, 2, 3] rfl ?_
              exact ihP475  g545 (xM.tr (xM.tr xM.rf xLe.rf hg381 (by decide)) xLe.rf hg545 (by decide)) (z380 + 1) (by omega) (by omega) (xDp.row v558 (by omega)) (by omega) (by omega)
            · refine X_aloadn hK (i := 0) 2 kd36_8.2.2.2.2.2.2.2.2.1 rfl rfl ?_
              refine X_getK hK fl_X8_21_9 hs_a0 ((hg545 a0 9 0 3 hs_a0 (by decide)).trans ((hg381 a0 9 0 3 hs_a0 (by decide)).trans ew0)) kd36_8.2.2.2.2.2.2.2.2.2.1 ?_
              refine X_iloadn hK (i := 2) 1 kd36_8.2.2.2.2.2.2.2.2.2.2.1 rfl rfl ?_
              refine X_bipush hK kd36_8.2.2.2.2.2.2.2.2.2.2.2 (by decide) ?_
              refine X_imul hK kd36_9.1 ?_
              refine X_iloadn hK (i := 3) 0 kd36_9.2.1 rfl rfl ?_
              refine X_iadd hK kd36_9.2.2.1 ?_
              refine X_iloadn hK (i := 2) 1 kd36_9.2.2.2.1 rfl rfl ?_
              refine X_iloadn hK (i := 3) 0 kd36_9.2.2.2.2.1 rfl rfl ?_
              refine X_ishr hK kd36_9.2.2.2.2.2.1 (fun z561 ez561 lz561 uz561 => ?_)
              refine X_iconst hK kd36_9.2.2.2.2.2.2.1 ?_
              refine X_iand hK kd36_9.2.2.2.2.2.2.2.1 (fun z562 ez562 lz562 uz562 => ?_)
              have bz562 := xandB ez562 ⟨lz562, uz562⟩ (by omega)
              have ht563 := xtc_of (m := z380) (c := z544) (by omega) (by omega) ez561 ez562 (by omega)
              refine X_iconst hK kd36_9.2.2.2.2.2.2.2.2.1 ?_
              refine X_icmp_ne hK 51 (by omega) (by omega) kd36_9.2.2.2.2.2.2.2.2.2.1 (by decide) (fun c564 => ?_) (fun c564 => ?_)
              · refine X_ldc hK (n := 1000000) kd36_10.2.2.2.2.1 m_53_22 (by decide) ?_
                refine X_iast hK hs_w0 ⟨by decide, by decide, by decide, by omega⟩ (by decide) sl_13400 (by omega) (by omega) (by omega) (by omega) kd36_10.2.2.2.2.2.1 (fun g565 hg565 => ?_)
                refine X_iinc hK (i := 3) (z := z544) (n := 1) 0 [(3, .int (iI (z544 + 1))), (2, .int (iI z380)), (0, .ref a0), (1, .ref a1)] kd36_10.2.2.2.2.2.2.1 rfl (by decide) rfl ?_
                refine X_goto hK 14 kd36_10.2.2.2.2.2.2.2.1 (by decide) ?_
                exact ihP557  g565 (xM_ua (xM.tr xM.rf xLe.rf hg545 (by decide)) hg565 hs_w0 (by decide) (by decide)) (z544 + 1) (by omega) (by omega) (xDp.s (j := ((z380 * 9) + z544)) v558 (by omega) (by omega) (by omega) (by omega) (show xv g565 w0 ((z380 * 9) + z544) = 1000000 from by rw [xv_s hg565 (by omega)]) (fun i9 hi9 h09 => (show xv g565 w0 i9 = xv g545 w0 i9 from by rw [(xv_k (i := i9) hg565 (by omega) (by omega) (by omega))])) (xSv.no (by omega) (by omega) (by omega))) (by omega) (by omega)
              · refine X_aloadn hK (i := 0) 2 kd36_9.2.2.2.2.2.2.2.2.2.2.1 rfl rfl ?_
                refine X_aloadn hK (i := 1) 3 kd36_9.2.2.2.2.2.2.2.2.2.2.2 rfl rfl ?_
                refine X_iloadn hK (i := 2) 1 kd36_10.1 rfl rfl ?_
                refine X_iloadn hK (i := 3) 0 kd36_10.2.1 rfl rfl ?_
                refine X_callV hK [.ref a1, .int (iI z380), .int (iI z544)] [.int (iI ((z380 * 9) + z544)), .ref w0] lk_X8_58 (c3_soonestAt _ _ _ _ _ S g545 a0 a1 z380 z544 n0 ws wb w0 nw0 mg Q9 T9 Y9 hs_a0 hs_a1 (by omega) (by omega) (by omega) ((hg545 a0 9 0 4 hs_a0 (by decide)).trans ((hg381 a0 9 0 4 hs_a0 (by decide)).trans en0)) ((hg545 a0 9 0 0 hs_a0 (by decide)).trans ((hg381 a0 9 0 0 hs_a0 (by decide)).trans ews)) hs_ws ((hg545 a0 9 0 1 hs_a0 (by decide)).trans ((hg381 a0 9 0 1 hs_a0 (by decide)).trans ewb)) hs_wb ((hg545 a0 9 0 3 hs_a0 (by decide)).trans ((hg381 a0 9 0 3 hs_a0 (by decide)).trans ew0)) hs_w0 ((hg545 a1 4 0 6 hs_a1 (by decide)).trans ((hg381 a1 4 0 6 hs_a1 (by decide)).trans emg)) hs_mg (by omega) (by omega) (xQm_m (xQm_m hp2 hg381 xLe.rf (by decide)) hg545 xLe.rf (by decide)) (by rw [(Eq.trans (xv_m hg545 hs_ws (by decide) (by decide)) (xv_m hg381 hs_ws (by decide) (by decide))), (Eq.trans (xv_m hg545 hs_wb (by decide) (by decide)) (xv_m hg381 hs_wb (by decide) (by decide)))]; exact hp3) (by omega) (by omega) (xDp.lt v558 (by omega))) hs_a0 ⟨by decide, rfl⟩ kd36_10.2.2.1 rfl rfl (by simp [Value.category]) (by decide) (by decide) (by decide) (by decide) (fun r566 S568 g567 pr566 qr566 hg567 => ?_)
                obtain ⟨rfl, rfl, z569, rfl, lz569, uz569, k570⟩ := pr566
                refine X_st [.int (iI z569), .int (iI ((z380 * 9) + z544)), .ref w0] rfl ?_
                refine X_goto hK 53 kd36_10.2.2.2.1 (by decide) ?_
                refine X_iast hK hs_w0 ⟨by decide, by decide, by decide, by omega⟩ (by decide) sl_13400 (by omega) (by omega) (by omega) (by omega) kd36_10.2.2.2.2.2.1 (fun g571 hg571 => ?_)
                refine X_iinc hK (i := 3) (z := z544) (n := 1) 0 [(3, .int (iI (z544 + 1))), (2, .int (iI z380)), (0, .ref a0), (1, .ref a1)] kd36_10.2.2.2.2.2.2.1 rfl (by decide) rfl ?_
                refine X_goto hK 14 kd36_10.2.2.2.2.2.2.2.1 (by decide) ?_
                exact ihP557  g571 (xM_ua (xM.tr xM.rf xLe.rf hg545 (by decide)) hg571 hs_w0 (by decide) (by decide)) (z544 + 1) (by omega) (by omega) (xDp.s (j := ((z380 * 9) + z544)) v558 (by omega) (by omega) (by omega) (by omega) (show xv g571 w0 ((z380 * 9) + z544) = z569 from by rw [xv_s hg571 (by omega)]) (fun i9 hi9 h09 => (show xv g571 w0 i9 = xv g545 w0 i9 from by rw [(xv_k (i := i9) hg571 (by omega) (by omega) (by omega))])) k570) (by omega) (by omega)
        exact P557 ((25 - 0 : Int).toNat + 1) g381 xM.rf 0 (by omega) (by omega) v476 (by omega) (by omega)
  exact P475 ((528 - 1 : Int).toNat + 1) g xM.rf 1 (by omega) (by omega) xDp.z (by omega) (by omega)

set_option maxHeartbeats 4000000 in
set_option maxRecDepth 100000 in
theorem c3_firstAtEnd (l : Launch) (D : va_G) (kA : Nat → ClassId) (b0 : Nat) (t0 : Nat → Nat) (S : xT) (g : xG) (a0 : Nat) (n0 : Int) (w0 nw0 : Nat) (hs_a0 : S a0 = some (9, 0)) (hn0 : 1 ≤ n0 ∧ n0 ≤ 9) (en0 : g a0 4 = .int (iI n0)) (ew0 : g a0 3 = .ref w0) (hs_w0 : S w0 = some (13400, nw0)) (hp0 : 9 * ((2 ^ n0.toNat : Nat) : Int) ≤ (nw0 : Int)) (hp1 : (nw0 : Int) ≤ 2147483647) : xMt l yX8_firstAtEnd cX8_firstAtEnd 4 (some .int) 1 0 0 13 D kA b0 t0 [] [.ref a0] S g (fun (r : Option Value) (S1 : xT) (g1 : xG) => S = S1 ∧ g = g1 ∧ ∃ z : Int, r = some (.int (iI z)) ∧ (-2147483648) ≤ z ∧ z ≤ 1000000 ∧ (xMi (fun l9 => xv g w0 (9 * ((((2 ^ n0.toNat : Nat) : Int)) - 1) + l9)) n0 z)) := by
  refine xEnterI (by decide) (by simp [lg_sl, Value.category]) [(0, .ref a0)] rfl ?_
  intro K E hK hret _ _ _
  refine X_iconst hK kd36_10.2.2.2.2.2.2.2.2.2.2.2 ?_
  have hp2n := xp2ge n0
  refine X_aloadn hK (i := 0) 0 kd36_11.1 rfl rfl ?_
  refine X_getK hK fl_X8_24_9 hs_a0 en0 kd36_11.2.1 ?_
  refine X_ishl hK kd36_11.2.2.1 (fun z1 ez1 lz1 uz1 => ?_)
  have bz1 := xshlB 9 ez1 ⟨lz1, uz1⟩ (by omega) (by decide)
  have hPz1 := xshl1 ez1 ⟨lz1, uz1⟩ (by omega)
  refine X_iconst hK kd36_11.2.2.2.1 ?_
  refine X_isub hK kd36_11.2.2.2.2.1 ?_
  refine X_istoren hK (i := 1) [(1, .int (iI (z1 - 1))), (0, .ref a0)] kd36_11.2.2.2.2.2.1 rfl (by decide) rfl ?_
  refine X_ldc hK (n := 1000000) kd36_11.2.2.2.2.2.2.1 m_53_22 (by decide) ?_
  refine X_istoren hK (i := 2) [(2, .int (iI 1000000)), (1, .int (iI (z1 - 1))), (0, .ref a0)] kd36_11.2.2.2.2.2.2.2.1 rfl (by decide) rfl ?_
  refine X_iconst hK kd36_11.2.2.2.2.2.2.2.2.1 ?_
  refine X_istoren hK (i := 3) [(3, .int (iI 0)), (2, .int (iI 1000000)), (1, .int (iI (z1 - 1))), (0, .ref a0)] kd36_11.2.2.2.2.2.2.2.2.2.1 rfl (by decide) rfl ?_
  have P32 : ∀ (nP32 : Nat) (z27 : Int) (_ : 0 ≤ z27) (_ : z27 ≤ 9) (z28 : Int) (_ : (-2147483648) ≤ z28) (_ : z28 ≤ 1000000) (_ : xMi (fun l9 => xv g w0 (9 * ((((2 ^ n0.toNat : Nat) : Int)) - 1) + l9)) z27 z28) (_ : z27 ≤ n0) (_ : 25 - z27 < (nP32 : Int)), X K E 14 [(3, .int (iI z27)), (2, .int (iI z28)), (1, .int (iI (z1 - 1))), (0, .ref a0)] [] S g 0 0 := by
    intro nP32
    induction nP32 with
    | zero => intro z27 lz27 uz27 z28 lz28 uz28 v33 v34 mP32; exact False.elim (by omega)
    | succ nP32 ihP32 =>
      intro z27 lz27 uz27 z28 lz28 uz28 v33 v34 mP32
      refine X_iloadn hK (i := 3) 0 kd36_11.2.2.2.2.2.2.2.2.2.2.1 rfl rfl ?_
      refine X_aloadn hK (i := 0) 3 kd36_11.2.2.2.2.2.2.2.2.2.2.2 rfl rfl ?_
      refine X_getK hK fl_X8_24_9 hs_a0 en0 kd36_12.1 ?_
      refine X_icmp_ge hK 44 (by omega) (by omega) kd36_12.2.1 (by decide) (fun c35 => ?_) (fun c35 => ?_)
      · refine X_iloadn hK (i := 2) 1 kd36_13.2.2.2.1 rfl rfl ?_
        exact hret _ _ _ _ _ _ _ kd36_13.2.2.2.2.1 ⟨rfl, rfl, z28, rfl, (by omega), (by omega), (show xMi _ n0 _ from (by have h9 := v33; rw [show z27 = n0 by omega] at h9; exact h9))⟩ (Nat.le_refl _) (Nat.le_refl _)
      · refine X_iloadn hK (i := 2) 1 kd36_12.2.2.1 rfl rfl ?_
        refine X_aloadn hK (i := 0) 3 kd36_12.2.2.2.1 rfl rfl ?_
        refine X_getK hK fl_X8_21_9 hs_a0 ew0 kd36_12.2.2.2.2.1 ?_
        refine X_iloadn hK (i := 1) 2 kd36_12.2.2.2.2.2.1 rfl rfl ?_
        refine X_bipush hK kd36_12.2.2.2.2.2.2.1 (by decide) ?_
        refine X_imul hK kd36_12.2.2.2.2.2.2.2.1 ?_
        refine X_iloadn hK (i := 3) 0 kd36_12.2.2.2.2.2.2.2.2.1 rfl rfl ?_
        refine X_iadd hK kd36_12.2.2.2.2.2.2.2.2.2.1 ?_
        refine X_iald hK hs_w0 ⟨by decide, by decide, by omega⟩ sl_13400 (by omega) (by omega) kd36_12.2.2.2.2.2.2.2.2.2.2.1 (fun z36 ez36 lz36 uz36 => ?_)
        have hr37 := (show xv g w0 (9 * ((((2 ^ n0.toNat : Nat) : Int)) - 1) + z27) = z36 from by rw [show 9 * ((((2 ^ n0.toNat : Nat) : Int)) - 1) + z27 = (((z1 - 1) * 9) + z27) by omega]; exact xv_e (j := (((z1 - 1) * 9) + z27)) ez36 (by omega))
        refine X_mmin hK mm_X8_68 ⟨by decide, by simp [Value.category]⟩ (by decide) (by omega) (by omega) kd36_12.2.2.2.2.2.2.2.2.2.2.2 (fun z38 ez38 fz38 => ?_)
        have bz38 : (-2147483648) ≤ z38 ∧ z38 ≤ 1000000 := by omega
        refine X_istoren hK (i := 2) [(2, .int (iI z38)), (3, .int (iI z27)), (1, .int (iI (z1 - 1))), (0, .ref a0)] kd36_13.1 rfl (by decide) rfl ?_
        refine X_iinc hK (i := 3) (z := z27) (n := 1) 1 [(3, .int (iI (z27 + 1))), (2, .int (iI z38)), (1, .int (iI (z1 - 1))), (0, .ref a0)] kd36_13.2.1 rfl (by decide) rfl ?_
        refine X_goto hK 14 kd36_13.2.2.1 (by decide) ?_
        exact ihP32  (z27 + 1) (by omega) (by omega) z38 (by omega) (by omega) (xMi.s v33 (by omega) hr37 (by omega)) (by omega) (by omega)
  exact P32 ((25 - 0 : Int).toNat + 1) 0 (by omega) (by omega) 1000000 (by omega) (by omega) xMi.z (by omega) (by omega)

set_option maxHeartbeats 4000000 in
set_option maxRecDepth 100000 in
theorem c3_nextOf (l : Launch) (D : va_G) (kA : Nat → ClassId) (b0 : Nat) (t0 : Nat → Nat) (S : xT) (g : xG) (a0 : Nat) (a1 : Nat) (x2 : Int) (x3 : Int) (n0 : Int) (ws : Nat) (wb : Nat) (w0 nw0 : Nat) (mg : Nat) (Q9 : Int → Int → Int) (T9 : Int → Int) (Y9 : Int → Int) (hs_a0 : S a0 = some (9, 0)) (hs_a1 : S a1 = some (4, 0)) (hx2 : 1 ≤ x2 ∧ x2 ≤ 511) (hx3 : 0 ≤ x3 ∧ x3 ≤ 8) (hn0 : 1 ≤ n0 ∧ n0 ≤ 9) (en0 : g a0 4 = .int (iI n0)) (ews : g a0 0 = .ref ws) (hs_ws : S ws = some (13100, 9)) (ewb : g a0 1 = .ref wb) (hs_wb : S wb = some (13200, 9)) (ew0 : g a0 3 = .ref w0) (hs_w0 : S w0 = some (13400, nw0)) (emg : g a1 6 = .ref mg) (hs_mg : S mg = some (11604, 10)) (hp0 : 9 * ((2 ^ n0.toNat : Nat) : Int) ≤ (nw0 : Int)) (hp1 : (nw0 : Int) ≤ 2147483647) (hp2 : xQm S g mg Q9) (hp3 : xTy n0 (xv g ws) (xv g wb) T9 Y9) (hp4 : x2 < ((2 ^ n0.toNat : Nat) : Int) ∧ x3 < n0) (hp5 : 0 ≤ xv g w0 (9 * x2 + x3) ∧ xv g w0 (9 * x2 + x3) ≤ 1000000) : xMt l yX8_nextOf cX8_nextOf 7 (some .int) 0 0 0 0 D kA b0 t0 [] [.ref a0, .ref a1, .int (iI x2), .int (iI x3)] S g (fun (r : Option Value) (S1 : xT) (g1 : xG) => S = S1 ∧ g = g1 ∧ ∃ z : Int, r = some (.int (iI z)) ∧ (-1) ≤ z ∧ z ≤ 8 ∧ (xNx n0 (xW9 Q9 T9) (xv g w0) x2 x3 z)) := by
  refine xEnterI (by decide) (by simp [lg_sl, Value.category]) [(0, .ref a0), (1, .ref a1), (2, .int (iI x2)), (3, .int (iI x3))] rfl ?_
  intro K E hK hret _ _ _
  refine X_aloadn hK (i := 0) 0 kd36_17.2.2.2.2.2.2.2.2.2.1 rfl rfl ?_
  refine X_getK hK fl_X8_21_9 hs_a0 ew0 kd36_17.2.2.2.2.2.2.2.2.2.2.1 ?_
  refine X_iloadn hK (i := 2) 2 kd36_17.2.2.2.2.2.2.2.2.2.2.2 rfl rfl ?_
  refine X_bipush hK kd36_18.1 (by decide) ?_
  refine X_imul hK kd36_18.2.1 ?_
  refine X_iloadn hK (i := 3) 3 kd36_18.2.2.1 rfl rfl ?_
  refine X_iadd hK kd36_18.2.2.2.1 ?_
  refine X_iald hK hs_w0 ⟨by decide, by decide, by omega⟩ sl_13400 (by omega) (by omega) kd36_18.2.2.2.2.1 (fun z1 ez1 lz1 uz1 => ?_)
  have hr2 := (show xv g w0 (9 * x2 + x3) = z1 from by rw [show 9 * x2 + x3 = ((x2 * 9) + x3) by omega]; exact xv_e (j := ((x2 * 9) + x3)) ez1 (by omega))
  have rhr2 := hp5; rw [hr2] at rhr2
  refine X_istore hK (i := 4) [(4, .int (iI z1)), (0, .ref a0), (1, .ref a1), (2, .int (iI x2)), (3, .int (iI x3))] kd36_18.2.2.2.2.2.1 (by decide) rfl ?_
  refine X_iconst hK kd36_18.2.2.2.2.2.2.1 ?_
  refine X_istore hK (i := 5) [(5, .int (iI 0)), (4, .int (iI z1)), (0, .ref a0), (1, .ref a1), (2, .int (iI x2)), (3, .int (iI x3))] kd36_18.2.2.2.2.2.2.2.1 (by decide) rfl ?_
  have P87 : ∀ (nP87 : Nat) (z73 : Int) (_ : 0 ≤ z73) (_ : z73 ≤ 9) (_ : z1 = 1000000 ∨ ∀ x9, 0 ≤ x9 → x9 < z73 → ¬ xCd n0 (xW9 Q9 T9) (xv g w0) x2 x3 x9) (_ : 25 - z73 < (nP87 : Int)), X K E 16 [(5, .int (iI z73)), (4, .int (iI z1)), (0, .ref a0), (1, .ref a1), (2, .int (iI x2)), (3, .int (iI x3))] [] S g 0 0 := by
    intro nP87
    induction nP87 with
    | zero => intro z73 lz73 uz73 v88 mP87; exact False.elim (by omega)
    | succ nP87 ihP87 =>
      intro z73 lz73 uz73 v88 mP87
      refine X_iload hK (i := 5) 0 kd36_18.2.2.2.2.2.2.2.2.1 rfl ?_
      refine X_aloadn hK (i := 0) 2 kd36_18.2.2.2.2.2.2.2.2.2.1 rfl rfl ?_
      refine X_getK hK fl_X8_24_9 hs_a0 en0 kd36_18.2.2.2.2.2.2.2.2.2.2.1 ?_
      refine X_icmp_ge hK 96 (by omega) (by omega) kd36_18.2.2.2.2.2.2.2.2.2.2.2 (by decide) (fun c89 => ?_) (fun c89 => ?_)
      · refine X_iconst hK kd36_22.2.2.2.2.2.2.1 ?_
        exact hret _ _ _ _ _ _ _ kd36_22.2.2.2.2.2.2.2.1 ⟨rfl, rfl, (-1), rfl, (by omega), (by omega), (Or.inl ⟨rfl, by rw [hr2]; exact (show _ ∨ ∀ x9, 0 ≤ x9 → x9 < n0 → ¬ xCd n0 (xW9 Q9 T9) (xv g w0) x2 x3  x9 from by first | exact Or.inl (by omega) | exact v88.imp (fun q9 => q9) (fun q9 x9 q1 q2 => q9 x9 q1 (by omega)))⟩)⟩ (Nat.le_refl _) (Nat.le_refl _)
      · refine X_iload hK (i := 4) 1 kd36_19.1 rfl ?_
        refine X_ldc hK (n := 1000000) kd36_19.2.1 m_53_22 (by decide) ?_
        refine X_icmp_eq hK 96 (by omega) (by omega) kd36_19.2.2.1 (by decide) (fun c90 => ?_) (fun c90 => ?_)
        · refine X_iconst hK kd36_22.2.2.2.2.2.2.1 ?_
          exact hret _ _ _ _ _ _ _ kd36_22.2.2.2.2.2.2.2.1 ⟨rfl, rfl, (-1), rfl, (by omega), (by omega), (Or.inl ⟨rfl, by rw [hr2]; exact (show _ ∨ ∀ x9, 0 ≤ x9 → x9 < n0 → ¬ xCd n0 (xW9 Q9 T9) (xv g w0) x2 x3  x9 from by first | exact Or.inl (by omega) | exact v88.imp (fun q9 => q9) (fun q9 x9 q1 q2 => q9 x9 q1 (by omega)))⟩)⟩ (Nat.le_refl _) (Nat.le_refl _)
        · refine X_iload hK (i := 4) 1 kd36_19.2.2.2.1 rfl ?_
          refine X_aloadn hK (i := 1) 3 kd36_19.2.2.2.2.1 rfl rfl ?_
          refine X_getK hK fl_X8_62_4 hs_a1 emg kd36_19.2.2.2.2.2.1 ?_
          refine X_aloadn hK (i := 0) 2 kd36_19.2.2.2.2.2.2.1 rfl rfl ?_
          refine X_getK hK fl_X8_11_9 hs_a0 ews kd36_19.2.2.2.2.2.2.2.1 ?_
          refine X_iloadn hK (i := 3) 5 kd36_19.2.2.2.2.2.2.2.2.1 rfl rfl ?_
          refine X_iald hK hs_ws (by decide) sl_13100 (by omega) (by omega) kd36_19.2.2.2.2.2.2.2.2.2.1 (fun z91 ez91 lz91 uz91 => ?_)
          have ht92 : T9 x3 = z91 := ((show xTy n0 (xv g ws) (xv g wb) T9 Y9 from hp3) x3 (by omega) (by omega)).1.symm.trans (xv_e (j := x3) ez91 (by omega))
          refine X_aald hK 11500 10 hs_mg (by decide) sl_11604 (by omega) (by omega) kd36_19.2.2.2.2.2.2.2.2.2.2.1 (fun b93 eb93 hs_b93 => ?_)
          refine X_aloadn hK (i := 0) 2 kd36_19.2.2.2.2.2.2.2.2.2.2.2 rfl rfl ?_
          refine X_getK hK fl_X8_11_9 hs_a0 ews kd36_20.1 ?_
          refine X_iload hK (i := 5) 0 kd36_20.2.1 rfl ?_
          refine X_iald hK hs_ws (by decide) sl_13100 (by omega) (by omega) kd36_20.2.2.1 (fun z94 ez94 lz94 uz94 => ?_)
          have ht95 : T9 z73 = z94 := ((show xTy n0 (xv g ws) (xv g wb) T9 Y9 from hp3) z73 (by omega) (by omega)).1.symm.trans (xv_e (j := z73) ez94 (by omega))
          refine X_iald hK hs_b93 (by decide) sl_11500 (by omega) (by omega) kd36_20.2.2.2.1 (fun z96 ez96 lz96 uz96 => ?_)
          have hw97 := xQm.w (i := z73) (l := x3) hp2 ht92 ht95 (by omega) (by omega) eb93 (xv_e (j := z94) ez96 (by omega))
          refine X_iadd hK kd36_20.2.2.2.2.1 ?_
          refine X_istore hK (i := 6) [(6, .int (iI (z1 + z96))), (5, .int (iI z73)), (4, .int (iI z1)), (0, .ref a0), (1, .ref a1), (2, .int (iI x2)), (3, .int (iI x3))] kd36_20.2.2.2.2.2.1 (by decide) rfl ?_
          refine X_iloadn hK (i := 2) 5 kd36_20.2.2.2.2.2.2.1 rfl rfl ?_
          refine X_iload hK (i := 5) 1 kd36_20.2.2.2.2.2.2.2.1 rfl ?_
          refine X_ishr hK kd36_20.2.2.2.2.2.2.2.2.1 (fun z98 ez98 lz98 uz98 => ?_)
          refine X_iconst hK kd36_20.2.2.2.2.2.2.2.2.2.1 ?_
          refine X_iand hK kd36_20.2.2.2.2.2.2.2.2.2.2.1 (fun z99 ez99 lz99 uz99 => ?_)
          have bz99 := xandB ez99 ⟨lz99, uz99⟩ (by omega)
          have ht100 := xtc_of (m := x2) (c := z73) (by omega) (by omega) ez98 ez99 (by omega)
          refine X_if_ne hK 90 (by omega) kd36_20.2.2.2.2.2.2.2.2.2.2.2 (by decide) (fun c101 => ?_) (fun c101 => ?_)
          · refine X_iinc hK (i := 5) (z := z73) (n := 1) 1 [(5, .int (iI (z73 + 1))), (6, .int (iI (z1 + z96))), (4, .int (iI z1)), (0, .ref a0), (1, .ref a1), (2, .int (iI x2)), (3, .int (iI x3))] kd36_22.2.2.2.2.1 rfl (by decide) rfl ?_
            refine X_goto hK 16 kd36_22.2.2.2.2.2.1 (by decide) ?_
            refine X_lv [(5, .int (iI (z73 + 1))), (4, .int (iI z1)), (0, .ref a0), (1, .ref a1), (2, .int (iI x2)), (3, .int (iI x3))] [0, 2, 3, 4, 5, 6] rfl ?_
            exact ihP87  (z73 + 1) (by omega) (by omega) (v88.imp (fun q9 => q9) (fun q9 x9 q1 q2 => by by_cases e9 : x9 = z73; (rw [e9]; exact (fun q9 => by have h8 := q9.1; have h7 := q9.2;  omega)); exact q9 x9 q1 (by omega))) (by omega)
          · refine X_aloadn hK (i := 0) 3 kd36_21.1 rfl rfl ?_
            refine X_getK hK fl_X8_21_9 hs_a0 ew0 kd36_21.2.1 ?_
            refine X_iloadn hK (i := 2) 5 kd36_21.2.2.1 rfl rfl ?_
            refine X_iconst hK kd36_21.2.2.2.1 ?_
            refine X_iload hK (i := 5) 1 kd36_21.2.2.2.2.1 rfl ?_
            refine X_ishl hK kd36_21.2.2.2.2.2.1 (fun z102 ez102 lz102 uz102 => ?_)
            have bz102 := xshlB 8 ez102 ⟨lz102, uz102⟩ (by omega) (by decide)
            refine X_ior hK kd36_21.2.2.2.2.2.2.1 (fun z103 ez103 lz103 uz103 => ?_)
            have bz103 := xiorB 9 ez103 ⟨lz103, uz103⟩ (by omega) (by omega) (by decide)
            have hoz103 := xorn (m := x2) (c := z73) (by omega) (by omega) (by omega) ez102 ez103 (by omega)
            have huz103 := xupn (m := x2) (n := n0) (c := z73) (by omega) (by omega) (by omega) (by omega)
            refine X_bipush hK kd36_21.2.2.2.2.2.2.2.1 (by decide) ?_
            refine X_imul hK kd36_21.2.2.2.2.2.2.2.2.1 ?_
            refine X_iload hK (i := 5) 1 kd36_21.2.2.2.2.2.2.2.2.2.1 rfl ?_
            refine X_iadd hK kd36_21.2.2.2.2.2.2.2.2.2.2.1 ?_
            refine X_iald hK hs_w0 ⟨by decide, by decide, by omega⟩ sl_13400 (by omega) (by omega) kd36_21.2.2.2.2.2.2.2.2.2.2.2 (fun z104 ez104 lz104 uz104 => ?_)
            have hr105 := (show xv g w0 (9 * (x2 + ((2 ^ z73.toNat : Nat) : Int)) + z73) = z104 from by rw [show 9 * (x2 + ((2 ^ z73.toNat : Nat) : Int)) + z73 = ((z103 * 9) + z73) by omega]; exact xv_e (j := ((z103 * 9) + z73)) ez104 (by omega))
            refine X_iload hK (i := 6) 0 kd36_22.1 rfl ?_
            refine X_icmp_ne hK 90 (by omega) (by omega) kd36_22.2.1 (by decide) (fun c106 => ?_) (fun c106 => ?_)
            · refine X_iinc hK (i := 5) (z := z73) (n := 1) 1 [(5, .int (iI (z73 + 1))), (6, .int (iI (z1 + z96))), (4, .int (iI z1)), (0, .ref a0), (1, .ref a1), (2, .int (iI x2)), (3, .int (iI x3))] kd36_22.2.2.2.2.1 rfl (by decide) rfl ?_
              refine X_goto hK 16 kd36_22.2.2.2.2.2.1 (by decide) ?_
              refine X_lv [(5, .int (iI (z73 + 1))), (4, .int (iI z1)), (0, .ref a0), (1, .ref a1), (2, .int (iI x2)), (3, .int (iI x3))] [0, 2, 3, 4, 5, 6] rfl ?_
              exact ihP87  (z73 + 1) (by omega) (by omega) (v88.imp (fun q9 => q9) (fun q9 x9 q1 q2 => by by_cases e9 : x9 = z73; (rw [e9]; exact (fun q9 => by have h8 := q9.1; have h7 := q9.2; rw [hr105, hr2, hw97.2] at h7; omega)); exact q9 x9 q1 (by omega))) (by omega)
            · refine X_iload hK (i := 5) 1 kd36_22.2.2.1 rfl ?_
              exact hret _ _ _ _ _ _ _ kd36_22.2.2.2.1 ⟨rfl, rfl, z73, rfl, (by omega), (by omega), (Or.inr ⟨by omega, by omega, by rw [hr2]; omega, ⟨by omega, by rw [hr105, hr2, hw97.2]; omega⟩, (v88.resolve_left (by omega))⟩)⟩ (Nat.le_refl _) (Nat.le_refl _)
  exact P87 ((25 - 0 : Int).toNat + 1) 0 (by omega) (by omega) (Or.inr (fun x9 q1 q2 => by omega)) (by omega)

set_option maxHeartbeats 4000000 in
set_option maxRecDepth 100000 in
theorem c3_dropOthers (l : Launch) (D : va_G) (kA : Nat → ClassId) (b0 : Nat) (t0 : Nat → Nat) (S : xT) (g : xG) (a0 : Nat) (a1 : Nat) (x2 : Int) (n0 : Int) (ws : Nat) (wb : Nat) (w0 nw0 : Nat) (mg : Nat) (Q9 : Int → Int → Int) (T9 : Int → Int) (Y9 : Int → Int) (hs_a0 : S a0 = some (9, 0)) (hs_a1 : S a1 = some (4, 0)) (hx2 : 0 ≤ x2 ∧ x2 ≤ 999999) (hn0 : 1 ≤ n0 ∧ n0 ≤ 9) (en0 : g a0 4 = .int (iI n0)) (ews : g a0 0 = .ref ws) (hs_ws : S ws = some (13100, 9)) (ewb : g a0 1 = .ref wb) (hs_wb : S wb = some (13200, 9)) (ew0 : g a0 3 = .ref w0) (hs_w0 : S w0 = some (13400, nw0)) (emg : g a1 6 = .ref mg) (hs_mg : S mg = some (11604, 10)) (hp0 : 9 * ((2 ^ n0.toNat : Nat) : Int) ≤ (nw0 : Int)) (hp1 : (nw0 : Int) ≤ 2147483647) (hp2 : xQm S g mg Q9) (hp3 : xTy n0 (xv g ws) (xv g wb) T9 Y9) (hp4 : xDp n0 (xF9 Q9 T9) (xW9 Q9 T9) Y9 (xv g w0) ((2 ^ n0.toNat : Nat) : Int) 0) : xMt l yX8_dropOthers cX8_dropOthers 8 none 1 0 0 26 D kA b0 t0 [(13400, 0)] [.ref a0, .ref a1, .int (iI x2)] S g (fun (r : Option Value) (S1 : xT) (g1 : xG) => S = S1 ∧ r = none ∧ (xDr n0 (xW9 Q9 T9) (xv g w0) (xv g1 w0) x2 ((((2 ^ n0.toNat : Nat) : Int)) - 1) 0 0)) := by
  refine xEnterV (by decide) (by simp [lg_sl, Value.category]) [(0, .ref a0), (1, .ref a1), (2, .int (iI x2))] rfl ?_
  intro K E hK hret _ _ _
  refine X_iconst hK kd36_2.2.2.2.2.2.2.2.1 ?_
  have hp2n := xp2ge n0
  refine X_aloadn hK (i := 0) 0 kd36_2.2.2.2.2.2.2.2.2.1 rfl rfl ?_
  refine X_getK hK fl_X8_24_9 hs_a0 en0 kd36_2.2.2.2.2.2.2.2.2.2.1 ?_
  refine X_ishl hK kd36_2.2.2.2.2.2.2.2.2.2.2.1 (fun z1 ez1 lz1 uz1 => ?_)
  have bz1 := xshlB 9 ez1 ⟨lz1, uz1⟩ (by omega) (by decide)
  have hPz1 := xshl1 ez1 ⟨lz1, uz1⟩ (by omega)
  refine X_iconst hK kd36_2.2.2.2.2.2.2.2.2.2.2.2 ?_
  refine X_isub hK kd36_3.1 ?_
  refine X_istoren hK (i := 3) [(3, .int (iI (z1 - 1))), (0, .ref a0), (1, .ref a1), (2, .int (iI x2))] kd36_3.2.1 rfl (by decide) rfl ?_
  refine X_iloadn hK (i := 3) 0 kd36_3.2.2.1 rfl rfl ?_
  refine X_istore hK (i := 4) [(4, .int (iI (z1 - 1))), (3, .int (iI (z1 - 1))), (0, .ref a0), (1, .ref a1), (2, .int (iI x2))] kd36_3.2.2.2.1 (by decide) rfl ?_
  have P646 : ∀ (nP646 : Nat) (g518 : xG) (_ : xM [(13400, 0)] S g g518) (z517 : Int) (_ : 0 ≤ z517) (_ : z517 ≤ 511) (_ : xDr n0 (xW9 Q9 T9) (xv g w0) (xv g518 w0) x2 ((((2 ^ n0.toNat : Nat) : Int)) - 1) z517 0) (_ : z517 ≤ ((((2 ^ n0.toNat : Nat) : Int)) - 1)) (_ : z517 - (-16) < (nP646 : Int)), X K E 12 [(4, .int (iI z517)), (3, .int (iI (z1 - 1))), (0, .ref a0), (1, .ref a1), (2, .int (iI x2))] [] S g518 0 0 := by
    intro nP646
    induction nP646 with
    | zero => intro g518 hg518 z517 lz517 uz517 v647 v648 mP646; exact False.elim (by omega)
    | succ nP646 ihP646 =>
      intro g518 hg518 z517 lz517 uz517 v647 v648 mP646
      refine X_iload hK (i := 4) 0 kd36_3.2.2.2.2.1 rfl ?_
      refine X_if_le hK 110 (by omega) kd36_3.2.2.2.2.2.1 (by decide) (fun c649 => ?_) (fun c649 => ?_)
      · exact hret _ _ _ _ _ _ kd36_7.2.2.2.2.2.1 ⟨rfl, rfl, (by have h9 := v647; rw [show z517 = 0 by omega] at h9; exact h9)⟩ (Nat.le_refl _) (Nat.le_refl _)
      · refine X_iconst hK kd36_3.2.2.2.2.2.2.1 ?_
        refine X_istore hK (i := 5) [(5, .int (iI 0)), (4, .int (iI z517)), (3, .int (iI (z1 - 1))), (0, .ref a0), (1, .ref a1), (2, .int (iI x2))] kd36_3.2.2.2.2.2.2.2.1 (by decide) rfl ?_
        have P757 : ∀ (nP757 : Nat) (g740 : xG) (_ : xM [(13400, 0)] S g518 g740) (z739 : Int) (_ : 0 ≤ z739) (_ : z739 ≤ 9) (_ : xDr n0 (xW9 Q9 T9) (xv g w0) (xv g740 w0) x2 ((((2 ^ n0.toNat : Nat) : Int)) - 1) z517 z739) (_ : z517 ≤ ((((2 ^ n0.toNat : Nat) : Int)) - 1)) (_ : 25 - z739 < (nP757 : Int)), X K E 20 [(5, .int (iI z739)), (4, .int (iI z517)), (3, .int (iI (z1 - 1))), (0, .ref a0), (1, .ref a1), (2, .int (iI x2))] [] S g740 0 0 := by
          intro nP757
          induction nP757 with
          | zero => intro g740 hg740 z739 lz739 uz739 v758 v759 mP757; exact False.elim (by omega)
          | succ nP757 ihP757 =>
            intro g740 hg740 z739 lz739 uz739 v758 v759 mP757
            refine X_iload hK (i := 5) 0 kd36_3.2.2.2.2.2.2.2.2.1 rfl ?_
            refine X_aloadn hK (i := 0) 3 kd36_3.2.2.2.2.2.2.2.2.2.1 rfl rfl ?_
            refine X_getK hK fl_X8_24_9 hs_a0 ((hg740 a0 9 0 4 hs_a0 (by decide)).trans ((hg518 a0 9 0 4 hs_a0 (by decide)).trans en0)) kd36_3.2.2.2.2.2.2.2.2.2.2.1 ?_
            refine X_icmp_ge hK 104 (by omega) (by omega) kd36_3.2.2.2.2.2.2.2.2.2.2.2 (by decide) (fun c760 => ?_) (fun c760 => ?_)
            · refine X_iinc hK (i := 4) (z := z517) (n := (-1)) 1 [(4, .int (iI (z517 + (-1)))), (5, .int (iI z739)), (3, .int (iI (z1 - 1))), (0, .ref a0), (1, .ref a1), (2, .int (iI x2))] kd36_7.2.2.2.1 rfl (by decide) rfl ?_
              refine X_goto hK 12 kd36_7.2.2.2.2.1 (by decide) ?_
              refine X_lv [(4, .int (iI (z517 + (-1)))), (3, .int (iI (z1 - 1))), (0, .ref a0), (1, .ref a1), (2, .int (iI x2))] [0, 2, 3, 4, 5] rfl ?_
              exact ihP646  g740 (xM.tr (xM.tr xM.rf xLe.rf hg518 (by decide)) xLe.rf hg740 (by decide)) (z517 + (-1)) (by omega) (by omega) (xDr.row v758 (by omega)) (by omega) (by omega)
            · refine X_iload hK (i := 4) 1 kd36_4.1 rfl ?_
              refine X_bipush hK kd36_4.2.1 (by decide) ?_
              refine X_imul hK kd36_4.2.2.1 ?_
              refine X_iload hK (i := 5) 0 kd36_4.2.2.2.1 rfl ?_
              refine X_iadd hK kd36_4.2.2.2.2.1 ?_
              refine X_istore hK (i := 6) [(6, .int (iI ((z517 * 9) + z739))), (5, .int (iI z739)), (4, .int (iI z517)), (3, .int (iI (z1 - 1))), (0, .ref a0), (1, .ref a1), (2, .int (iI x2))] kd36_4.2.2.2.2.2.1 (by decide) rfl ?_
              refine X_iload hK (i := 4) 2 kd36_4.2.2.2.2.2.2.1 rfl ?_
              refine X_iloadn hK (i := 3) 3 kd36_4.2.2.2.2.2.2.2.1 rfl rfl ?_
              refine X_icmp_ne hK 64 (by omega) (by omega) kd36_4.2.2.2.2.2.2.2.2.1 (by decide) (fun c761 => ?_) (fun c761 => ?_)
              · refine X_aloadn hK (i := 0) 4 kd36_5.2.2.2.2.2.2.2.1 rfl rfl ?_
                refine X_aloadn hK (i := 1) 5 kd36_5.2.2.2.2.2.2.2.2.1 rfl rfl ?_
                refine X_iload hK (i := 4) 2 kd36_5.2.2.2.2.2.2.2.2.2.1 rfl ?_
                refine X_iload hK (i := 5) 1 kd36_5.2.2.2.2.2.2.2.2.2.2.1 rfl ?_
                refine X_callV hK [.ref a1, .int (iI z517), .int (iI z739)] [] lk_X8_74 (c3_nextOf _ _ _ _ _ S g740 a0 a1 z517 z739 n0 ws wb w0 nw0 mg Q9 T9 Y9 hs_a0 hs_a1 (by omega) (by omega) (by omega) ((hg740 a0 9 0 4 hs_a0 (by decide)).trans ((hg518 a0 9 0 4 hs_a0 (by decide)).trans en0)) ((hg740 a0 9 0 0 hs_a0 (by decide)).trans ((hg518 a0 9 0 0 hs_a0 (by decide)).trans ews)) hs_ws ((hg740 a0 9 0 1 hs_a0 (by decide)).trans ((hg518 a0 9 0 1 hs_a0 (by decide)).trans ewb)) hs_wb ((hg740 a0 9 0 3 hs_a0 (by decide)).trans ((hg518 a0 9 0 3 hs_a0 (by decide)).trans ew0)) hs_w0 ((hg740 a1 4 0 6 hs_a1 (by decide)).trans ((hg518 a1 4 0 6 hs_a1 (by decide)).trans emg)) hs_mg (by omega) (by omega) (xQm_m (xQm_m hp2 hg518 xLe.rf (by decide)) hg740 xLe.rf (by decide)) (by rw [(Eq.trans (xv_m hg740 hs_ws (by decide) (by decide)) (xv_m hg518 hs_ws (by decide) (by decide))), (Eq.trans (xv_m hg740 hs_wb (by decide) (by decide)) (xv_m hg518 hs_wb (by decide) (by decide)))]; exact hp3) (by omega) (by rw [xDr.own v758 (by omega) (by omega)]; have h9 := xSv.rng (xQm.F hp2 hp3) (xQm.W hp2 hp3) (xTy.B hp3) (hp4 z517 z739 (by omega) (by omega) (by omega) (by omega) (Or.inl (by omega))); exact ⟨h9.1, h9.2.1⟩)) hs_a0 ⟨by decide, rfl⟩ kd36_5.2.2.2.2.2.2.2.2.2.2.2 rfl rfl (by simp [Value.category]) (by decide) (by decide) (by decide) (by decide) (fun r762 S764 g763 pr762 qr762 hg763 => ?_)
                obtain ⟨rfl, rfl, z765, rfl, lz765, uz765, k766⟩ := pr762
                refine X_st [.int (iI z765)] rfl ?_
                refine X_iconst hK kd36_6.1 ?_
                refine X_icmp_eq hK 81 (by omega) (by omega) kd36_6.2.1 (by decide) (fun c767 => ?_) (fun c767 => ?_)
                · refine X_iconst hK kd36_6.2.2.2.2.1 ?_
                  refine X_istore hK (i := 7) [(7, .int (iI 0)), (6, .int (iI ((z517 * 9) + z739))), (5, .int (iI z739)), (4, .int (iI z517)), (3, .int (iI (z1 - 1))), (0, .ref a0), (1, .ref a1), (2, .int (iI x2))] kd36_6.2.2.2.2.2.1 (by decide) rfl ?_
                  refine X_iload hK (i := 7) 0 kd36_6.2.2.2.2.2.2.1 rfl ?_
                  refine X_if_ne hK 98 (by omega) kd36_6.2.2.2.2.2.2.2.1 (by decide) (fun c768 => False.elim (by omega)) (fun c768 => ?_)
                  refine X_aloadn hK (i := 0) 5 kd36_6.2.2.2.2.2.2.2.2.1 rfl rfl ?_
                  refine X_getK hK fl_X8_21_9 hs_a0 ((hg740 a0 9 0 3 hs_a0 (by decide)).trans ((hg518 a0 9 0 3 hs_a0 (by decide)).trans ew0)) kd36_6.2.2.2.2.2.2.2.2.2.1 ?_
                  refine X_iload hK (i := 6) 1 kd36_6.2.2.2.2.2.2.2.2.2.2.1 rfl ?_
                  refine X_ldc hK (n := 1000000) kd36_6.2.2.2.2.2.2.2.2.2.2.2 m_53_22 (by decide) ?_
                  refine X_iast hK hs_w0 ⟨by decide, by decide, by decide, by omega⟩ (by decide) sl_13400 (by omega) (by omega) (by omega) (by omega) kd36_7.1 (fun g769 hg769 => ?_)
                  refine X_iinc hK (i := 5) (z := z739) (n := 1) 2 [(5, .int (iI (z739 + 1))), (7, .int (iI 0)), (6, .int (iI ((z517 * 9) + z739))), (4, .int (iI z517)), (3, .int (iI (z1 - 1))), (0, .ref a0), (1, .ref a1), (2, .int (iI x2))] kd36_7.2.1 rfl (by decide) rfl ?_
                  refine X_goto hK 20 kd36_7.2.2.1 (by decide) ?_
                  refine X_lv [(5, .int (iI (z739 + 1))), (4, .int (iI z517)), (3, .int (iI (z1 - 1))), (0, .ref a0), (1, .ref a1), (2, .int (iI x2))] [0, 3, 4, 5, 6, 7] rfl ?_
                  exact ihP757  g769 (xM_ua (xM.tr xM.rf xLe.rf hg740 (by decide)) hg769 hs_w0 (by decide) (by decide)) (z739 + 1) (by omega) (by omega) (xDr.drop (j := ((z517 * 9) + z739)) v758 (by omega) (by omega) (by omega) (by omega) (show xv g769 w0 ((z517 * 9) + z739) = 1000000 from by rw [xv_s hg769 (by omega)]) (fun i9 hi9 h09 => (show xv g769 w0 i9 = xv g740 w0 i9 from by rw [(xv_k (i := i9) hg769 (by omega) (by omega) (by omega))])) (Or.inr ⟨by omega, (by have h8 := (k766.resolve_right (fun q9 => by omega)).2; rw [(xDr.own v758 (by omega) (by omega))] at h8; rcases h8 with h8 | h8; exact Or.inl h8; exact Or.inr (fun x9 q1 q2 q3 q4 => h8 x9 q1 q2 ⟨q3, by rw [(xDr.own v758 (by omega) (by omega))]; exact q4⟩))⟩)) (by omega) (by omega)
                · refine X_iconst hK kd36_6.2.2.1 ?_
                  refine X_goto hK 82 kd36_6.2.2.2.1 (by decide) ?_
                  refine X_istore hK (i := 7) [(7, .int (iI 1)), (6, .int (iI ((z517 * 9) + z739))), (5, .int (iI z739)), (4, .int (iI z517)), (3, .int (iI (z1 - 1))), (0, .ref a0), (1, .ref a1), (2, .int (iI x2))] kd36_6.2.2.2.2.2.1 (by decide) rfl ?_
                  refine X_iload hK (i := 7) 0 kd36_6.2.2.2.2.2.2.1 rfl ?_
                  refine X_if_ne hK 98 (by omega) kd36_6.2.2.2.2.2.2.2.1 (by decide) (fun c770 => ?_) (fun c770 => False.elim (by omega))
                  refine X_iinc hK (i := 5) (z := z739) (n := 1) 2 [(5, .int (iI (z739 + 1))), (7, .int (iI 1)), (6, .int (iI ((z517 * 9) + z739))), (4, .int (iI z517)), (3, .int (iI (z1 - 1))), (0, .ref a0), (1, .ref a1), (2, .int (iI x2))] kd36_7.2.1 rfl (by decide) rfl ?_
                  refine X_goto hK 20 kd36_7.2.2.1 (by decide) ?_
                  refine X_lv [(5, .int (iI (z739 + 1))), (4, .int (iI z517)), (3, .int (iI (z1 - 1))), (0, .ref a0), (1, .ref a1), (2, .int (iI x2))] [0, 3, 4, 5, 6, 7] rfl ?_
                  exact ihP757  g740 (xM.tr xM.rf xLe.rf hg740 (by decide)) (z739 + 1) (by omega) (by omega) (xDr.keep v758 (Or.inr ⟨by omega, (by obtain ⟨_, _, h8, h7, _⟩ := k766.resolve_left (fun q9 => by omega); rw [(xDr.own v758 (by omega) (by omega))] at h8; exact ⟨h8, _, by omega, by omega, h7.1, by rw [← (xDr.own v758 (by omega) (by omega))]; exact h7.2⟩)⟩)) (by omega) (by omega)
              · refine X_aloadn hK (i := 0) 4 kd36_4.2.2.2.2.2.2.2.2.2.1 rfl rfl ?_
                refine X_getK hK fl_X8_21_9 hs_a0 ((hg740 a0 9 0 3 hs_a0 (by decide)).trans ((hg518 a0 9 0 3 hs_a0 (by decide)).trans ew0)) kd36_4.2.2.2.2.2.2.2.2.2.2.1 ?_
                refine X_iload hK (i := 6) 0 kd36_4.2.2.2.2.2.2.2.2.2.2.2 rfl ?_
                refine X_iald hK hs_w0 ⟨by decide, by decide, by omega⟩ sl_13400 (by omega) (by omega) kd36_5.1 (fun z771 ez771 lz771 uz771 => ?_)
                have hr772 := (show xv g740 w0 (9 * z517 + z739) = z771 from by rw [show 9 * z517 + z739 = ((z517 * 9) + z739) by omega]; exact xv_e (j := ((z517 * 9) + z739)) ez771 (by omega))
                refine X_iloadn hK (i := 2) 6 kd36_5.2.1 rfl rfl ?_
                refine X_icmp_ne hK 60 (by omega) (by omega) kd36_5.2.2.1 (by decide) (fun c773 => ?_) (fun c773 => ?_)
                · refine X_iconst hK kd36_5.2.2.2.2.2.1 ?_
                  refine X_goto hK 82 kd36_5.2.2.2.2.2.2.1 (by decide) ?_
                  refine X_istore hK (i := 7) [(7, .int (iI 0)), (6, .int (iI ((z517 * 9) + z739))), (5, .int (iI z739)), (4, .int (iI z517)), (3, .int (iI (z1 - 1))), (0, .ref a0), (1, .ref a1), (2, .int (iI x2))] kd36_6.2.2.2.2.2.1 (by decide) rfl ?_
                  refine X_iload hK (i := 7) 0 kd36_6.2.2.2.2.2.2.1 rfl ?_
                  refine X_if_ne hK 98 (by omega) kd36_6.2.2.2.2.2.2.2.1 (by decide) (fun c774 => False.elim (by omega)) (fun c774 => ?_)
                  refine X_aloadn hK (i := 0) 5 kd36_6.2.2.2.2.2.2.2.2.1 rfl rfl ?_
                  refine X_getK hK fl_X8_21_9 hs_a0 ((hg740 a0 9 0 3 hs_a0 (by decide)).trans ((hg518 a0 9 0 3 hs_a0 (by decide)).trans ew0)) kd36_6.2.2.2.2.2.2.2.2.2.1 ?_
                  refine X_iload hK (i := 6) 1 kd36_6.2.2.2.2.2.2.2.2.2.2.1 rfl ?_
                  refine X_ldc hK (n := 1000000) kd36_6.2.2.2.2.2.2.2.2.2.2.2 m_53_22 (by decide) ?_
                  refine X_iast hK hs_w0 ⟨by decide, by decide, by decide, by omega⟩ (by decide) sl_13400 (by omega) (by omega) (by omega) (by omega) kd36_7.1 (fun g775 hg775 => ?_)
                  refine X_iinc hK (i := 5) (z := z739) (n := 1) 2 [(5, .int (iI (z739 + 1))), (7, .int (iI 0)), (6, .int (iI ((z517 * 9) + z739))), (4, .int (iI z517)), (3, .int (iI (z1 - 1))), (0, .ref a0), (1, .ref a1), (2, .int (iI x2))] kd36_7.2.1 rfl (by decide) rfl ?_
                  refine X_goto hK 20 kd36_7.2.2.1 (by decide) ?_
                  refine X_lv [(5, .int (iI (z739 + 1))), (4, .int (iI z517)), (3, .int (iI (z1 - 1))), (0, .ref a0), (1, .ref a1), (2, .int (iI x2))] [0, 3, 4, 5, 6, 7] rfl ?_
                  exact ihP757  g775 (xM_ua (xM.tr xM.rf xLe.rf hg740 (by decide)) hg775 hs_w0 (by decide) (by decide)) (z739 + 1) (by omega) (by omega) (xDr.drop (j := ((z517 * 9) + z739)) v758 (by omega) (by omega) (by omega) (by omega) (show xv g775 w0 ((z517 * 9) + z739) = 1000000 from by rw [xv_s hg775 (by omega)]) (fun i9 hi9 h09 => (show xv g775 w0 i9 = xv g740 w0 i9 from by rw [(xv_k (i := i9) hg775 (by omega) (by omega) (by omega))])) (Or.inl ⟨by omega, by rw [← (xDr.own v758 (by omega) (by omega)), hr772]; omega⟩)) (by omega) (by omega)
                · refine X_iconst hK kd36_5.2.2.2.1 ?_
                  refine X_goto hK 82 kd36_5.2.2.2.2.1 (by decide) ?_
                  refine X_istore hK (i := 7) [(7, .int (iI 1)), (6, .int (iI ((z517 * 9) + z739))), (5, .int (iI z739)), (4, .int (iI z517)), (3, .int (iI (z1 - 1))), (0, .ref a0), (1, .ref a1), (2, .int (iI x2))] kd36_6.2.2.2.2.2.1 (by decide) rfl ?_
                  refine X_iload hK (i := 7) 0 kd36_6.2.2.2.2.2.2.1 rfl ?_
                  refine X_if_ne hK 98 (by omega) kd36_6.2.2.2.2.2.2.2.1 (by decide) (fun c776 => ?_) (fun c776 => False.elim (by omega))
                  refine X_iinc hK (i := 5) (z := z739) (n := 1) 2 [(5, .int (iI (z739 + 1))), (7, .int (iI 1)), (6, .int (iI ((z517 * 9) + z739))), (4, .int (iI z517)), (3, .int (iI (z1 - 1))), (0, .ref a0), (1, .ref a1), (2, .int (iI x2))] kd36_7.2.1 rfl (by decide) rfl ?_
                  refine X_goto hK 20 kd36_7.2.2.1 (by decide) ?_
                  refine X_lv [(5, .int (iI (z739 + 1))), (4, .int (iI z517)), (3, .int (iI (z1 - 1))), (0, .ref a0), (1, .ref a1), (2, .int (iI x2))] [0, 3, 4, 5, 6, 7] rfl ?_
                  exact ihP757  g740 (xM.tr xM.rf xLe.rf hg740 (by decide)) (z739 + 1) (by omega) (by omega) (xDr.keep v758 (Or.inl ⟨by omega, by rw [← (xDr.own v758 (by omega) (by omega)), hr772]; omega, by omega⟩)) (by omega) (by omega)
        exact P757 ((25 - 0 : Int).toNat + 1) g518 xM.rf 0 (by omega) (by omega) v647 (by omega) (by omega)
  exact P646 (((z1 - 1) - (-16) : Int).toNat + 1) g xM.rf (z1 - 1) (by omega) (by omega) (show xDr n0 (xW9 Q9 T9) (xv g w0) (xv g w0) x2 ((((2 ^ n0.toNat : Nat) : Int)) - 1) (z1 - 1) 0 from by rw [show (z1 - 1) = ((((2 ^ n0.toNat : Nat) : Int)) - 1) by omega]; exact xDr.z) (by omega) (by omega)

set_option maxHeartbeats 4000000 in
set_option maxRecDepth 100000 in
theorem c3_walk (l : Launch) (D : va_G) (kA : Nat → ClassId) (b0 : Nat) (t0 : Nat → Nat) (S : xT) (g : xG) (a0 : Nat) (a1 : Nat) (n0 : Int) (ws : Nat) (wb : Nat) (w0 nw0 : Nat) (mg : Nat) (wy : Nat) (Q9 : Int → Int → Int) (T9 : Int → Int) (Y9 : Int → Int) (D9 : Int → Int) (e9 : Int) (hs_a0 : S a0 = some (9, 0)) (hs_a1 : S a1 = some (4, 0)) (hn0 : 1 ≤ n0 ∧ n0 ≤ 9) (en0 : g a0 4 = .int (iI n0)) (ews : g a0 0 = .ref ws) (hs_ws : S ws = some (13100, 9)) (ewb : g a0 1 = .ref wb) (hs_wb : S wb = some (13200, 9)) (ew0 : g a0 3 = .ref w0) (hs_w0 : S w0 = some (13400, nw0)) (emg : g a1 6 = .ref mg) (hs_mg : S mg = some (11604, 10)) (ewy : g a0 2 = .ref wy) (hs_wy : S wy = some (13300, 9)) (hp0 : 9 * ((2 ^ n0.toNat : Nat) : Int) ≤ (nw0 : Int)) (hp1 : (nw0 : Int) ≤ 2147483647) (hp2 : xQm S g mg Q9) (hp3 : xTy n0 (xv g ws) (xv g wb) T9 Y9) (hp4 : e9 < 900000) (hp5 : xTz n0 (xF9 Q9 T9) (xW9 Q9 T9) Y9 D9 (xv g w0) e9 ((((2 ^ n0.toNat : Nat) : Int)) - 1)) (hp6 : ∃ l9, 0 ≤ l9 ∧ l9 < n0 ∧ D9 (9 * ((((2 ^ n0.toNat : Nat) : Int)) - 1) + l9) = e9) : xMt l yX8_walk cX8_walk 5 none 1 0 0 26 D kA b0 t0 [(9, 5), (13300, 0)] [.ref a0, .ref a1] S g (fun (r : Option Value) (S1 : xT) (g1 : xG) => S = S1 ∧ r = none ∧ (g1 a0 5 = .int (iI n0)) ∧ (∃ v9, xBw n0 (xF9 Q9 T9) (xW9 Q9 T9) Y9 e9 v9 ∧ ∀ k, 0 ≤ k → k < n0 → xv g1 wy k = T9 (v9 k))) := by
  refine xEnterV (by decide) (by simp [lg_sl, Value.category]) [(0, .ref a0), (1, .ref a1)] rfl ?_
  intro K E hK hret _ _ _
  refine X_iconst hK kd36_27.2.2.2.2.2.2.2.2.1 ?_
  have hp2n := xp2ge n0
  refine X_istoren hK (i := 2) [(2, .int (iI (-1))), (0, .ref a0), (1, .ref a1)] kd36_27.2.2.2.2.2.2.2.2.2.1 rfl (by decide) rfl ?_
  refine X_aloadn hK (i := 0) 1 kd36_27.2.2.2.2.2.2.2.2.2.2.1 rfl rfl ?_
  refine X_getK hK fl_X8_24_9 hs_a0 en0 kd36_27.2.2.2.2.2.2.2.2.2.2.2 ?_
  refine X_iconst hK kd36_28.1 ?_
  refine X_isub hK kd36_28.2.1 ?_
  refine X_istoren hK (i := 3) [(3, .int (iI (n0 - 1))), (2, .int (iI (-1))), (0, .ref a0), (1, .ref a1)] kd36_28.2.2.1 rfl (by decide) rfl ?_
  have P433 : ∀ (nP433 : Nat) (z325 : Int) (_ : (-1) ≤ z325) (_ : z325 ≤ 8) (z326 : Int) (_ : (-1) ≤ z326) (_ : z326 ≤ 8) (_ : (z326 = -1 ∧ ∀ x9, z325 < x9 → x9 < n0 → ¬ xSt0 n0 (xv g w0) x9) ∨ (z325 < z326 ∧ z326 < n0 ∧ xSt0 n0 (xv g w0) z326 ∧ ∀ x9, z325 < x9 → x9 < z326 → ¬ xSt0 n0 (xv g w0) x9)) (_ : z325 < n0) (_ : z325 - (-17) < (nP433 : Int)), X K E 9 [(3, .int (iI z325)), (2, .int (iI z326)), (0, .ref a0), (1, .ref a1)] [] S g 0 0 := by
    intro nP433
    induction nP433 with
    | zero => intro z325 lz325 uz325 z326 lz326 uz326 v434 v435 mP433; exact False.elim (by omega)
    | succ nP433 ihP433 =>
      intro z325 lz325 uz325 z326 lz326 uz326 v434 v435 mP433
      refine X_iloadn hK (i := 3) 0 kd36_28.2.2.2.1 rfl rfl ?_
      refine X_if_lt hK 39 (by omega) kd36_28.2.2.2.2.1 (by decide) (fun c436 => ?_) (fun c436 => ?_)
      · refine X_iconst hK kd36_29.2.2.2.2.2.2.2.2.2.1 ?_
        refine X_istoren hK (i := 3) [(3, .int (iI 0)), (2, .int (iI z326)), (0, .ref a0), (1, .ref a1)] kd36_29.2.2.2.2.2.2.2.2.2.2.1 rfl (by decide) rfl ?_
        refine X_aloadn hK (i := 0) 2 kd36_29.2.2.2.2.2.2.2.2.2.2.2 rfl rfl ?_
        refine X_iconst hK kd36_30.1 ?_
        refine X_puti hK fl_X8_28_9 hs_a0 (by decide) sl_9_5 (by omega) (by omega) kd36_30.2.1 (fun g437 hg437 => ?_)
        refine X_iconst hK kd36_30.2.2.1 ?_
        refine X_istore hK (i := 4) [(4, .int (iI 0)), (3, .int (iI 0)), (2, .int (iI z326)), (0, .ref a0), (1, .ref a1)] kd36_30.2.2.2.1 (by decide) rfl ?_
        have P522 : ∀ (nP522 : Nat) (g508 : xG) (_ : xM [(9, 5), (13300, 0)] S g437 g508) (z505 : Int) (_ : 0 ≤ z505) (_ : z505 ≤ 9) (z506 : Int) (_ : 0 ≤ z506) (_ : z506 ≤ 511) (z507 : Int) (_ : (-1) ≤ z507) (_ : z507 ≤ 8) (q509 : Int) (_ : 0 ≤ q509) (_ : q509 ≤ 9) (_ : g508 a0 5 = .int (iI q509)) (_ : xWl n0 (xW9 Q9 T9) (xv g w0) T9 (xv g508 wy) z505 z507 z506) (_ : q509 = z505) (_ : z506 < ((2 ^ n0.toNat : Nat) : Int)) (_ : z505 ≤ n0) (_ : 25 - z505 < (nP522 : Int)), X K E 49 [(4, .int (iI z505)), (3, .int (iI z506)), (2, .int (iI z507)), (0, .ref a0), (1, .ref a1)] [] S g508 0 0 := by
          intro nP522
          induction nP522 with
          | zero => intro g508 hg508 z505 lz505 uz505 z506 lz506 uz506 z507 lz507 uz507 q509 lq509 uq509 eq509 v523 v524 v525 v526 mP522; exact False.elim (by omega)
          | succ nP522 ihP522 =>
            intro g508 hg508 z505 lz505 uz505 z506 lz506 uz506 z507 lz507 uz507 q509 lq509 uq509 eq509 v523 v524 v525 v526 mP522
            refine X_iload hK (i := 4) 0 kd36_30.2.2.2.2.1 rfl ?_
            refine X_aloadn hK (i := 0) 3 kd36_30.2.2.2.2.2.1 rfl rfl ?_
            refine X_getK hK fl_X8_24_9 hs_a0 ((hg508 a0 9 0 4 hs_a0 (by decide)).trans ((xs_k hg437 (by decide)).trans en0)) kd36_30.2.2.2.2.2.2.1 ?_
            refine X_icmp_ge hK 106 (by omega) (by omega) kd36_30.2.2.2.2.2.2.2.1 (by decide) (fun c527 => ?_) (fun c527 => ?_)
            · exact hret _ _ _ _ _ _ kd36_33.2.2.2 ⟨rfl, rfl, (eq509.trans (by rw [show q509 = n0 from by have h9 := (show z505 = n0 from by rcases (show z505 < n0 ∨ z505 = n0 by omega) with c9 | c9; (have h9 := xWl.bnd v523 c9; omega); exact c9); omega])), (xWl.fin (by omega) (by omega) (xTy.B hp3) (xQm.W2 hp2 hp3) (by omega) hp5 v523 (show z505 = n0 from by rcases (show z505 < n0 ∨ z505 = n0 by omega) with c9 | c9; (have h9 := xWl.bnd v523 c9; omega); exact c9))⟩ (Nat.le_refl _) (Nat.le_refl _)
            · refine X_iloadn hK (i := 2) 2 kd36_30.2.2.2.2.2.2.2.2.1 rfl rfl ?_
              refine X_iconst hK kd36_30.2.2.2.2.2.2.2.2.2.1 ?_
              refine X_icmp_eq hK 106 (by omega) (by omega) kd36_30.2.2.2.2.2.2.2.2.2.2.1 (by decide) (fun c528 => ?_) (fun c528 => ?_)
              · exact hret _ _ _ _ _ _ kd36_33.2.2.2 ⟨rfl, rfl, (eq509.trans (by rw [show q509 = n0 from by have h9 := (show z505 = n0 from by rcases (show z505 < n0 ∨ z505 = n0 by omega) with c9 | c9; (have h9 := xWl.bnd v523 c9; omega); exact c9); omega])), (xWl.fin (by omega) (by omega) (xTy.B hp3) (xQm.W2 hp2 hp3) (by omega) hp5 v523 (show z505 = n0 from by rcases (show z505 < n0 ∨ z505 = n0 by omega) with c9 | c9; (have h9 := xWl.bnd v523 c9; omega); exact c9))⟩ (Nat.le_refl _) (Nat.le_refl _)
              · refine X_aloadn hK (i := 0) 3 kd36_30.2.2.2.2.2.2.2.2.2.2.2 rfl rfl ?_
                have hb529 := xWl.bnd v523 (by omega)
                have bhb529 := xWl.bit v523 (by omega)
                refine X_getK hK fl_X8_18_9 hs_a0 ((hg508 a0 9 0 2 hs_a0 (by decide)).trans ((xs_k hg437 (by decide)).trans ewy)) kd36_31.1 ?_
                refine X_iload hK (i := 4) 0 kd36_31.2.1 rfl ?_
                refine X_aloadn hK (i := 0) 3 kd36_31.2.2.1 rfl rfl ?_
                refine X_getK hK fl_X8_11_9 hs_a0 ((hg508 a0 9 0 0 hs_a0 (by decide)).trans ((xs_k hg437 (by decide)).trans ews)) kd36_31.2.2.2.1 ?_
                refine X_iloadn hK (i := 2) 2 kd36_31.2.2.2.2.1 rfl rfl ?_
                refine X_iald hK hs_ws (by decide) sl_13100 (by omega) (by omega) kd36_31.2.2.2.2.2.1 (fun z530 ez530 lz530 uz530 => ?_)
                have ht531 : T9 z507 = z530 := ((show xTy n0 (xv g508 ws) (xv g508 wb) T9 Y9 from (by rw [(Eq.trans (xv_m hg508 hs_ws (by decide) (by decide)) (xv_a hg437 (xne hs_ws hs_a0 (by decide)))), (Eq.trans (xv_m hg508 hs_wb (by decide) (by decide)) (xv_a hg437 (xne hs_wb hs_a0 (by decide))))]; exact hp3)) z507 (by omega) (by omega)).1.symm.trans (xv_e (j := z507) ez530 (by omega))
                refine X_iast hK hs_wy (by decide) (by decide) sl_13300 (by omega) (by omega) (by omega) (by omega) kd36_31.2.2.2.2.2.2.1 (fun g532 hg532 => ?_)
                refine X_aloadn hK (i := 0) 3 kd36_31.2.2.2.2.2.2.2.1 rfl rfl ?_
                refine X_dup hK kd36_31.2.2.2.2.2.2.2.2.1 rfl ?_
                refine X_getK hK fl_X8_28_9 hs_a0 ((xs_a hg532 (xne hs_a0 hs_wy (by decide))).trans eq509) kd36_31.2.2.2.2.2.2.2.2.2.1 ?_
                refine X_iconst hK kd36_31.2.2.2.2.2.2.2.2.2.2.1 ?_
                refine X_iadd hK kd36_31.2.2.2.2.2.2.2.2.2.2.2 ?_
                refine X_puti hK fl_X8_28_9 hs_a0 (by decide) sl_9_5 (by omega) (by omega) kd36_32.1 (fun g533 hg533 => ?_)
                refine X_iloadn hK (i := 3) 1 kd36_32.2.1 rfl rfl ?_
                refine X_iconst hK kd36_32.2.2.1 ?_
                refine X_iloadn hK (i := 2) 2 kd36_32.2.2.2.1 rfl rfl ?_
                refine X_ishl hK kd36_32.2.2.2.2.1 (fun z534 ez534 lz534 uz534 => ?_)
                have bz534 := xshlB 8 ez534 ⟨lz534, uz534⟩ (by omega) (by decide)
                refine X_ior hK kd36_32.2.2.2.2.2.1 (fun z535 ez535 lz535 uz535 => ?_)
                have bz535 := xiorB 9 ez535 ⟨lz535, uz535⟩ (by omega) (by omega) (by decide)
                have hoz535 := xorn (m := z506) (c := z507) (by omega) (by omega) bhb529 ez534 ez535 (by omega)
                have huz535 := xupn (m := z506) (n := n0) (c := z507) (by omega) (by omega) (by omega) bhb529
                have hgz535 := xp2ge z507
                refine X_istoren hK (i := 3) [(3, .int (iI z535)), (4, .int (iI z505)), (2, .int (iI z507)), (0, .ref a0), (1, .ref a1)] kd36_32.2.2.2.2.2.2.1 rfl (by decide) rfl ?_
                refine X_aloadn hK (i := 0) 3 kd36_32.2.2.2.2.2.2.2.1 rfl rfl ?_
                refine X_aloadn hK (i := 1) 4 kd36_32.2.2.2.2.2.2.2.2.1 rfl rfl ?_
                refine X_iloadn hK (i := 3) 0 kd36_32.2.2.2.2.2.2.2.2.2.1 rfl rfl ?_
                refine X_iloadn hK (i := 2) 2 kd36_32.2.2.2.2.2.2.2.2.2.2.1 rfl rfl ?_
                refine X_callV hK [.ref a1, .int (iI z535), .int (iI z507)] [] lk_X8_74 (c3_nextOf _ _ _ _ _ S g533 a0 a1 z535 z507 n0 ws wb w0 nw0 mg Q9 T9 Y9 hs_a0 hs_a1 (by omega) (by omega) (by omega) ((xs_k hg533 (by decide)).trans ((xs_a hg532 (xne hs_a0 hs_wy (by decide))).trans ((hg508 a0 9 0 4 hs_a0 (by decide)).trans ((xs_k hg437 (by decide)).trans en0)))) ((xs_k hg533 (by decide)).trans ((xs_a hg532 (xne hs_a0 hs_wy (by decide))).trans ((hg508 a0 9 0 0 hs_a0 (by decide)).trans ((xs_k hg437 (by decide)).trans ews)))) hs_ws ((xs_k hg533 (by decide)).trans ((xs_a hg532 (xne hs_a0 hs_wy (by decide))).trans ((hg508 a0 9 0 1 hs_a0 (by decide)).trans ((xs_k hg437 (by decide)).trans ewb)))) hs_wb ((xs_k hg533 (by decide)).trans ((xs_a hg532 (xne hs_a0 hs_wy (by decide))).trans ((hg508 a0 9 0 3 hs_a0 (by decide)).trans ((xs_k hg437 (by decide)).trans ew0)))) hs_w0 ((xs_k hg533 (by decide)).trans ((xs_a hg532 (xne hs_a1 hs_wy (by decide))).trans ((hg508 a1 4 0 6 hs_a1 (by decide)).trans ((xs_k hg437 (by decide)).trans emg)))) hs_mg (by omega) (by omega) (xQm_u (xQm_u (xQm_m (xQm_u hp2 hg437 hs_a0 (by decide)) hg508 xLe.rf (by decide)) hg532 hs_wy (by decide)) hg533 hs_a0 (by decide)) (by rw [(Eq.trans (Eq.trans (Eq.trans (xv_a hg533 (xne hs_ws hs_a0 (by decide))) (xv_a hg532 (xne hs_ws hs_wy (by decide)))) (xv_m hg508 hs_ws (by decide) (by decide))) (xv_a hg437 (xne hs_ws hs_a0 (by decide)))), (Eq.trans (Eq.trans (Eq.trans (xv_a hg533 (xne hs_wb hs_a0 (by decide))) (xv_a hg532 (xne hs_wb hs_wy (by decide)))) (xv_m hg508 hs_wb (by decide) (by decide))) (xv_a hg437 (xne hs_wb hs_a0 (by decide))))]; exact hp3) (by omega) (by rw [(Eq.trans (Eq.trans (Eq.trans (xv_a hg533 (xne hs_w0 hs_a0 (xnel (by decide)))) (xv_a hg532 (xne hs_w0 hs_wy (xnel (by decide))))) (xv_m hg508 hs_w0 (by decide) (by decide))) (xv_a hg437 (xne hs_w0 hs_a0 (xnel (by decide)))))]; exact xTz.rng hp5 (xQm.F hp2 hp3) (xQm.W hp2 hp3) (xTy.B hp3) (by omega) (by omega))) hs_a0 ⟨by decide, rfl⟩ kd36_32.2.2.2.2.2.2.2.2.2.2.2 rfl rfl (by simp [Value.category]) (by decide) (by decide) (by decide) (by decide) (fun r536 S538 g537 pr536 qr536 hg537 => ?_)
                obtain ⟨rfl, rfl, z539, rfl, lz539, uz539, k540⟩ := pr536
                refine X_st [.int (iI z539)] rfl ?_
                refine X_istoren hK (i := 2) [(2, .int (iI z539)), (3, .int (iI z535)), (4, .int (iI z505)), (0, .ref a0), (1, .ref a1)] kd36_33.1 rfl (by decide) rfl ?_
                refine X_iinc hK (i := 4) (z := z505) (n := 1) 2 [(4, .int (iI (z505 + 1))), (2, .int (iI z539)), (3, .int (iI z535)), (0, .ref a0), (1, .ref a1)] kd36_33.2.1 rfl (by decide) rfl ?_
                refine X_goto hK 49 kd36_33.2.2.1 (by decide) ?_
                refine X_lv [(4, .int (iI (z505 + 1))), (3, .int (iI z535)), (2, .int (iI z539)), (0, .ref a0), (1, .ref a1)] [0, 2, 1, 3, 4] rfl ?_
                exact ihP522  g533 (xM_up (xM_ua (xM.tr xM.rf xLe.rf hg508 (by decide)) hg532 hs_wy (by decide) (by decide)) hg533 hs_a0 (by decide) (by decide)) (z505 + 1) (by omega) (by omega) z535 (by omega) (by omega) z539 (by omega) (by omega) (q509 + 1) (by omega) (by omega) (xs_s hg533) (by rw [show z535 = z506 + ((2 ^ z507.toNat : Nat) : Int) by omega]; exact xWl.stp (by omega) (by omega) (xTy.B hp3) (xQm.W2 hp2 hp3) hp5 v523 (by omega) ((show xv g533 wy z505 = z530 from by rw [(xv_a hg533 (xne hs_wy hs_a0 (by decide))), xv_s hg532 (by omega)]).trans ht531.symm) (fun i9 hi9 h09 => (show xv g533 wy i9 = xv g508 wy i9 from by rw [(xv_a hg533 (xne hs_wy hs_a0 (by decide))), (xv_k (i := i9) hg532 (by omega) (by omega) (by omega))])) (by rw [show z506 + ((2 ^ z507.toNat : Nat) : Int) = z535 by omega]; exact (by rw [← (Eq.trans (Eq.trans (Eq.trans (xv_a hg533 (xne hs_w0 hs_a0 (xnel (by decide)))) (xv_a hg532 (xne hs_w0 hs_wy (xnel (by decide))))) (xv_m hg508 hs_w0 (by decide) (by decide))) (xv_a hg437 (xne hs_w0 hs_a0 (xnel (by decide)))))]; exact k540))) (by omega) (by omega) (by omega) (by omega)
        exact P522 ((25 - 0 : Int).toNat + 1) g437 xM.rf 0 (by omega) (by omega) 0 (by omega) (by omega) z326 (by omega) (by omega) 0 (by omega) (by omega) (xs_s hg437) (by rcases v434 with ⟨c1, c2⟩ | ⟨c1, c2, c3, c4⟩; (obtain ⟨x9, q1, q2, q3⟩ := xTz.start (by omega) (by omega) (xTy.B hp3) (by omega) hp5 hp6; exact absurd q3 (c2 x9 (by omega) q2)); exact xWl.z (by omega) (by omega) c3 (fun x9 q1 q2 => c4 x9 (by omega) q2)) (by omega) (by omega) (by omega) (by omega)
      · refine X_aloadn hK (i := 0) 2 kd36_28.2.2.2.2.2.1 rfl rfl ?_
        refine X_getK hK fl_X8_21_9 hs_a0 ew0 kd36_28.2.2.2.2.2.2.1 ?_
        refine X_iconst hK kd36_28.2.2.2.2.2.2.2.1 ?_
        refine X_iloadn hK (i := 3) 0 kd36_28.2.2.2.2.2.2.2.2.1 rfl rfl ?_
        refine X_ishl hK kd36_28.2.2.2.2.2.2.2.2.2.1 (fun z541 ez541 lz541 uz541 => ?_)
        have bz541 := xshlB 8 ez541 ⟨lz541, uz541⟩ (by omega) (by decide)
        have hPz541 := xshl1 ez541 ⟨lz541, uz541⟩ (by omega)
        have hQz541 := xp2lt (c := z325) (n := n0) (by omega)
        refine X_bipush hK kd36_28.2.2.2.2.2.2.2.2.2.2.1 (by decide) ?_
        refine X_imul hK kd36_28.2.2.2.2.2.2.2.2.2.2.2 ?_
        refine X_iloadn hK (i := 3) 0 kd36_29.1 rfl rfl ?_
        refine X_iadd hK kd36_29.2.1 ?_
        refine X_iald hK hs_w0 ⟨by decide, by decide, by omega⟩ sl_13400 (by omega) (by omega) kd36_29.2.2.1 (fun z542 ez542 lz542 uz542 => ?_)
        have hr543 := (show xv g w0 (9 * ((2 ^ z325.toNat : Nat) : Int) + z325) = z542 from by rw [show 9 * ((2 ^ z325.toNat : Nat) : Int) + z325 = ((z541 * 9) + z325) by omega]; exact xv_e (j := ((z541 * 9) + z325)) ez542 (by omega))
        refine X_ldc hK (n := 1000000) kd36_29.2.2.2.1 m_53_22 (by decide) ?_
        refine X_icmp_eq hK 33 (by omega) (by omega) kd36_29.2.2.2.2.1 (by decide) (fun c544 => ?_) (fun c544 => ?_)
        · refine X_iinc hK (i := 3) (z := z325) (n := (-1)) 0 [(3, .int (iI (z325 + (-1)))), (2, .int (iI z326)), (0, .ref a0), (1, .ref a1)] kd36_29.2.2.2.2.2.2.2.1 rfl (by decide) rfl ?_
          refine X_goto hK 9 kd36_29.2.2.2.2.2.2.2.2.1 (by decide) ?_
          exact ihP433  (z325 + (-1)) (by omega) (by omega) z326 (by omega) (by omega) (by rcases v434 with ⟨c1, c2⟩ | ⟨c1, c2, c3, c4⟩; exact Or.inl ⟨c1, fun x9 q1 q2 => by by_cases e9 : x9 = z325; (rw [e9]; exact (fun q9 => q9 (by rw [hr543]; omega))); exact c2 x9 (by omega) q2⟩; exact Or.inr ⟨by omega, c2, c3, fun x9 q1 q2 => by by_cases e9 : x9 = z325; (rw [e9]; exact (fun q9 => q9 (by rw [hr543]; omega))); exact c4 x9 (by omega) q2⟩) (by omega) (by omega)
        · refine X_iloadn hK (i := 3) 0 kd36_29.2.2.2.2.2.1 rfl rfl ?_
          refine X_istoren hK (i := 2) [(2, .int (iI z325)), (3, .int (iI z325)), (0, .ref a0), (1, .ref a1)] kd36_29.2.2.2.2.2.2.1 rfl (by decide) rfl ?_
          refine X_iinc hK (i := 3) (z := z325) (n := (-1)) 1 [(3, .int (iI (z325 + (-1)))), (2, .int (iI z325)), (0, .ref a0), (1, .ref a1)] kd36_29.2.2.2.2.2.2.2.1 rfl (by decide) rfl ?_
          refine X_goto hK 9 kd36_29.2.2.2.2.2.2.2.2.1 (by decide) ?_
          exact ihP433  (z325 + (-1)) (by omega) (by omega) z325 (by omega) (by omega) (Or.inr ⟨by omega, by omega, (show xv g w0 _ ≠ 1000000 from by rw [hr543]; omega), fun x9 q1 q2 => by omega⟩) (by omega) (by omega)
  exact P433 (((n0 - 1) - (-17) : Int).toNat + 1) (n0 - 1) (by omega) (by omega) (-1) (by omega) (by omega) (Or.inl ⟨rfl, fun x9 q1 q2 => by omega⟩) (by omega) (by omega)

set_option maxHeartbeats 4000000 in
set_option maxRecDepth 100000 in
theorem c3_pairAt (l : Launch) (D : va_G) (kA : Nat → ClassId) (b0 : Nat) (t0 : Nat → Nat) (S : xT) (g : xG) (a0 : Nat) (x1 : Int) (tn : Int) (fb : Nat) (hs_a0 : S a0 = some (10, 0)) (hx1 : 1 ≤ x1 ∧ x1 ≤ 9) (htn : 0 ≤ tn ∧ tn ≤ 420) (etn : g a0 1 = .int (iI tn)) (efb : g a0 0 = .ref fb) (hs_fb : S fb = some (13500, 420)) : xMt l yX9_pairAt cX9_pairAt 3 (some .int) 0 0 0 0 D kA b0 t0 [] [.ref a0, .int (iI x1)] S g (fun (r : Option Value) (S1 : xT) (g1 : xG) => S = S1 ∧ g = g1 ∧ ∃ z : Int, r = some (.int (iI z)) ∧ 0 ≤ z ∧ z ≤ 65535 ∧ (tn = 20 → z = xpr (xv g fb) x1)) := by
  refine xEnterI (by decide) (by simp [lg_sl, Value.category]) [(0, .ref a0), (1, .int (iI x1))] rfl ?_
  intro K E hK hret _ _ _
  refine X_iconst hK kd21_6.2.2.2.2.2.2.1 ?_
  refine X_iloadn hK (i := 1) 1 kd21_6.2.2.2.2.2.2.2.1 rfl rfl ?_
  refine X_imul hK kd21_6.2.2.2.2.2.2.2.2.1 ?_
  refine X_istoren hK (i := 2) [(2, .int (iI (2 * x1))), (0, .ref a0), (1, .int (iI x1))] kd21_6.2.2.2.2.2.2.2.2.2.1 rfl (by decide) rfl ?_
  refine X_iloadn hK (i := 2) 0 kd21_6.2.2.2.2.2.2.2.2.2.2.1 rfl rfl ?_
  refine X_if_lt hK 40 (by omega) kd21_6.2.2.2.2.2.2.2.2.2.2.2 (by decide) (fun c1 => False.elim (by omega)) (fun c1 => ?_)
  refine X_iloadn hK (i := 2) 0 kd21_7.1 rfl rfl ?_
  refine X_iconst hK kd21_7.2.1 ?_
  refine X_iadd hK kd21_7.2.2.1 ?_
  refine X_aloadn hK (i := 0) 1 kd21_7.2.2.2.1 rfl rfl ?_
  refine X_getK hK fl_X9_15_10 hs_a0 etn kd21_7.2.2.2.2.1 ?_
  refine X_icmp_ge hK 40 (by omega) (by omega) kd21_7.2.2.2.2.2.1 (by decide) (fun c2 => ?_) (fun c2 => ?_)
  · refine X_iconst hK kd21_8.2.2.2.2.2.2.2.2.1 ?_
    exact hret _ _ _ _ _ _ _ kd21_8.2.2.2.2.2.2.2.2.2.1 ⟨rfl, rfl, 0, rfl, (by omega), (by omega), (fun h9 => by omega)⟩ (Nat.le_refl _) (Nat.le_refl _)
  · refine X_aloadn hK (i := 0) 1 kd21_7.2.2.2.2.2.2.1 rfl rfl ?_
    refine X_getK hK fl_X9_9_10 hs_a0 efb kd21_7.2.2.2.2.2.2.2.1 ?_
    refine X_iloadn hK (i := 2) 0 kd21_7.2.2.2.2.2.2.2.2.1 rfl rfl ?_
    refine X_iald hK hs_fb (by decide) sl_13500 (by omega) (by omega) kd21_7.2.2.2.2.2.2.2.2.2.1 (fun z3 ez3 lz3 uz3 => ?_)
    have hw4 : xv g fb (2 * x1) = z3 := xv_e (j := (2 * x1)) ez3 (by omega)
    refine X_sipush hK kd21_7.2.2.2.2.2.2.2.2.2.2.1 (by decide) ?_
    refine X_imul hK kd21_7.2.2.2.2.2.2.2.2.2.2.2 ?_
    refine X_aloadn hK (i := 0) 1 kd21_8.1 rfl rfl ?_
    refine X_getK hK fl_X9_9_10 hs_a0 efb kd21_8.2.1 ?_
    refine X_iloadn hK (i := 2) 0 kd21_8.2.2.1 rfl rfl ?_
    refine X_iconst hK kd21_8.2.2.2.1 ?_
    refine X_iadd hK kd21_8.2.2.2.2.1 ?_
    refine X_iald hK hs_fb (by decide) sl_13500 (by omega) (by omega) kd21_8.2.2.2.2.2.1 (fun z5 ez5 lz5 uz5 => ?_)
    have hw6 : xv g fb ((2 * x1) + 1) = z5 := xv_e (j := ((2 * x1) + 1)) ez5 (by omega)
    refine X_iadd hK kd21_8.2.2.2.2.2.2.1 ?_
    refine X_goto hK 41 kd21_8.2.2.2.2.2.2.2.1 (by decide) ?_
    exact hret _ _ _ _ _ _ _ kd21_8.2.2.2.2.2.2.2.2.2.1 ⟨rfl, rfl, ((z3 * 256) + z5), rfl, (by omega), (by omega), (fun _ => by unfold xpr; rw [show xv g fb (2 * x1) = _ from hw4, show xv g fb (2 * x1 + 1) = _ from hw6]; omega)⟩ (Nat.le_refl _) (Nat.le_refl _)

set_option maxHeartbeats 4000000 in
set_option maxRecDepth 100000 in
theorem c3_learn8 (l : Launch) (D : va_G) (kA : Nat → ClassId) (b0 : Nat) (t0 : Nat → Nat) (S : xT) (g : xG) (a0 : Nat) (a1 : Nat) (ws : Nat) (wb : Nat) (tn : Int) (fb : Nat) (hs_a0 : S a0 = some (9, 0)) (hs_a1 : S a1 = some (10, 0)) (ews : g a0 0 = .ref ws) (hs_ws : S ws = some (13100, 9)) (ewb : g a0 1 = .ref wb) (hs_wb : S wb = some (13200, 9)) (htn : 0 ≤ tn ∧ tn ≤ 420) (etn : g a1 1 = .int (iI tn)) (efb : g a1 0 = .ref fb) (hs_fb : S fb = some (13500, 420)) (hp0 : xSn S) : xMu l yX8_learn cX8_learn 3 none 1 1 4608 22 D kA b0 t0 [(9, 4), (13100, 0), (13200, 0), (9, 3)] [.ref a0, .ref a1] S g (fun (r : Option Value) (S1 : xT) (g1 : xG) (dc ds : Nat) => xNw2 S S1 [13400] ∧ r = none ∧ (∃ (n : Int) (b m : Nat), g1 a0 4 = .int (iI n) ∧ 0 ≤ n ∧ n ≤ 9 ∧ g1 a0 3 = .ref b ∧ S1 b = some (13400, m) ∧ 9 * 2 ^ n.toNat ≤ m ∧ m ≤ 4608 ∧ (tn = 20 → xSq (xv g fb) 9 n (xv g1 ws) ∧ ∀ k, 0 ≤ k → k < n → xv g1 wb k = xpr (xv g fb) (xv g1 ws k) ∧ 1 ≤ xv g1 ws k ∧ xv g1 ws k ≤ 9 ∧ 0 ≤ xv g1 wb k ∧ xv g1 wb k ≤ 65535)) ∧ (dc ≤ 1 ∧ ds ≤ 4608) ∧ (xSn S1)) := by
  refine xEnterUV (by decide) (by simp [lg_sl, Value.category]) [(0, .ref a0), (1, .ref a1)] rfl ?_
  intro K E hK hret hS0 _ hini ht
  subst ht
  refine X_aloadn hK (i := 0) 0 kd36_13.2.2.2.2.2.1 rfl rfl ?_
  refine X_iconst hK kd36_13.2.2.2.2.2.2.1 ?_
  refine X_puti hK fl_X8_24_9 hs_a0 (by decide) sl_9_4 (by omega) (by omega) kd36_13.2.2.2.2.2.2.2.1 (fun g1 hg1 => ?_)
  refine X_iconst hK kd36_13.2.2.2.2.2.2.2.2.1 ?_
  refine X_istoren hK (i := 2) [(2, .int (iI 1)), (0, .ref a0), (1, .ref a1)] kd36_13.2.2.2.2.2.2.2.2.2.1 rfl (by decide) rfl ?_
  have P144 : ∀ (nP144 : Nat) (g120 : xG) (_ : xM [(9, 4), (13200, 0), (13100, 0)] S g1 g120) (z119 : Int) (_ : 1 ≤ z119) (_ : z119 ≤ 10) (q121 : Int) (_ : 0 ≤ q121) (_ : q121 ≤ 9) (_ : g120 a0 4 = .int (iI q121)) (_ : q121 ≤ z119 - 1) (_ : tn = 20 → xSq (xv g fb) (z119 - 1) q121 (xv g120 ws) ∧ ∀ k, 0 ≤ k → k < q121 → xv g120 wb k = xpr (xv g fb) (xv g120 ws k) ∧ 1 ≤ xv g120 ws k ∧ xv g120 ws k ≤ 9 ∧ 0 ≤ xv g120 wb k ∧ xv g120 wb k ≤ 65535) (_ : 26 - z119 < (nP144 : Int)), X K E 7 [(2, .int (iI z119)), (0, .ref a0), (1, .ref a1)] [] S g120 0 0 := by
    intro nP144
    induction nP144 with
    | zero => intro g120 hg120 z119 lz119 uz119 q121 lq121 uq121 eq121 v145 v146 mP144; exact False.elim (by omega)
    | succ nP144 ihP144 =>
      intro g120 hg120 z119 lz119 uz119 q121 lq121 uq121 eq121 v145 v146 mP144
      refine X_iloadn hK (i := 2) 0 kd36_13.2.2.2.2.2.2.2.2.2.2.1 rfl rfl ?_
      refine X_bipush hK kd36_13.2.2.2.2.2.2.2.2.2.2.2 (by decide) ?_
      refine X_icmp_ge hK 63 (by omega) (by omega) kd36_14.1 (by decide) (fun c147 => ?_) (fun c147 => ?_)
      · refine X_iconst hK kd36_16.2.2.2.2.1 ?_
        refine X_aloadn hK (i := 0) 1 kd36_16.2.2.2.2.2.1 rfl rfl ?_
        refine X_getK hK fl_X8_24_9 hs_a0 eq121 kd36_16.2.2.2.2.2.2.1 ?_
        refine X_ishl hK kd36_16.2.2.2.2.2.2.2.1 (fun z148 ez148 lz148 uz148 => ?_)
        have bz148 := xshlB 9 ez148 ⟨lz148, uz148⟩ (by omega) (by decide)
        have pz148 := xshl1 ez148 ⟨lz148, uz148⟩ (by omega)
        refine X_bipush hK kd36_16.2.2.2.2.2.2.2.2.1 (by decide) ?_
        refine X_imul hK kd36_16.2.2.2.2.2.2.2.2.2.1 ?_
        refine X_istoren hK (i := 2) [(2, .int (iI (z148 * 9))), (0, .ref a0), (1, .ref a1)] kd36_16.2.2.2.2.2.2.2.2.2.2.1 rfl (by decide) rfl ?_
        refine X_aloadn hK (i := 0) 1 kd36_16.2.2.2.2.2.2.2.2.2.2.2 rfl rfl ?_
        refine X_getw hK 13400 fl_X8_21_9 hs_a0 sl_9_3 kd36_17.1 (fun b149 nb149 eb149 hs_b149 => ?_)
        have vb149 := hp0 _ _ hs_b149
        refine X_alen hK (i := 0) (ty := .int) hs_b149 (by decide) (by decide) (fun _ => rfl) kd36_17.2.1 ?_
        refine X_iloadn hK (i := 2) 0 kd36_17.2.2.1 rfl rfl ?_
        refine X_icmp_ge hK 89 (by omega) (by omega) kd36_17.2.2.2.1 (by decide) (fun c150 => ?_) (fun c150 => ?_)
        · exact hret _ _ _ _ _ _ kd36_17.2.2.2.2.2.2.2.2.1 ⟨xNw2.rf, rfl, ⟨q121, b149, nb149, eq121, (by omega), (by omega), eb149, hs_b149, xst9 pz148 (by omega), (hp0 _ _ hs_b149), (fun h9 => by exact ⟨(by have h8 := (v146 h9).1; rw [show z119 - 1 = 9 by omega] at h8; exact h8), (v146 h9).2⟩)⟩, (by omega), hp0⟩ (by omega) (by omega)
        · refine X_aloadn hK (i := 0) 1 kd36_17.2.2.2.2.1 rfl rfl ?_
          refine X_iloadn hK (i := 2) 0 kd36_17.2.2.2.2.2.1 rfl rfl ?_
          refine X_newa hK (ty := .int) 13400 0 (.int 0) rfl (fun _ => rfl) rfl (by decide) m_3_14 (by omega) ⟨by show _ * 4 ≤ _; omega, by omega⟩ (by omega) (by omega) (fun _ _ h9 => h9) (fun S9 k9 => by rw [sl_13400]; exact ⟨0, rfl, by decide, by decide⟩) kd36_17.2.2.2.2.2.2.1 (fun b151 S152 g153 zb151 nb151 hSb151 hg153 qb151 hs_b151 => ?_)
          refine X_putw hK 13400 fl_X8_21_9 (qb151 _ _ hs_a0) (by decide) sl_9_3 hs_b151 kd36_17.2.2.2.2.2.2.2.1 (fun g154 hg154 => ?_)
          exact hret _ _ _ _ _ _ kd36_17.2.2.2.2.2.2.2.2.1 ⟨(xNw2.tr xNw2.rf (hSb151 ▸ xNw2.set (by decide)) (fun _ h => h)), rfl, ⟨q121, b151, ((z148 * 9) : Int).toNat, ((xs_k hg154 (by decide)).trans ((xs_n hg153 hs_a0 nb151).trans eq121)), (by omega), (by omega), (xs_s hg154), hs_b151, xst9 pz148 (by omega), (by omega), (fun h9 => by rw [(Eq.trans (xv_a hg154 (xne (qb151 _ _ hs_ws) (qb151 _ _ hs_a0) (by decide))) (xv_n hg153 hs_ws nb151)), (Eq.trans (xv_a hg154 (xne (qb151 _ _ hs_wb) (qb151 _ _ hs_a0) (by decide))) (xv_n hg153 hs_wb nb151))]; exact ⟨(by have h8 := (v146 h9).1; rw [show z119 - 1 = 9 by omega] at h8; exact h8), (v146 h9).2⟩)⟩, (by omega), (xSn_set hp0 hSb151 (by omega))⟩ (by omega) (by omega)
      · refine X_aloadn hK (i := 1) 2 kd36_14.2.1 rfl rfl ?_
        refine X_iloadn hK (i := 2) 0 kd36_14.2.2.1 rfl rfl ?_
        refine X_callV hK [.int (iI z119)] [] lk_X8_51 (c3_pairAt _ _ _ _ _ S g120 a1 z119 tn fb hs_a1 (by omega) (by omega) ((hg120 a1 10 0 1 hs_a1 (by decide)).trans ((xs_k hg1 (by decide)).trans etn)) ((hg120 a1 10 0 0 hs_a1 (by decide)).trans ((xs_k hg1 (by decide)).trans efb)) hs_fb) hs_a1 ⟨by decide, rfl⟩ kd36_14.2.2.2.1 rfl rfl (by simp [Value.category]) (by decide) (by omega) (by omega) (by decide) (fun r155 S157 g156 pr155 qr155 hg156 => ?_)
        obtain ⟨rfl, rfl, z158, rfl, lz158, uz158, k159⟩ := pr155
        refine X_st [.int (iI z158)] rfl ?_
        refine X_ldc hK (n := 65535) kd36_14.2.2.2.2.1 m_54_3 (by decide) ?_
        refine X_icmp_eq hK 57 (by omega) (by omega) kd36_14.2.2.2.2.2.1 (by decide) (fun c160 => ?_) (fun c160 => ?_)
        · refine X_iinc hK (i := 2) (z := z119) (n := 1) 0 [(2, .int (iI (z119 + 1))), (0, .ref a0), (1, .ref a1)] kd36_16.2.2.1 rfl (by decide) rfl ?_
          refine X_goto hK 7 kd36_16.2.2.2.1 (by decide) ?_
          exact ihP144  g120 (xM.tr xM.rf xLe.rf hg120 (by decide)) (z119 + 1) (by omega) (by omega) q121 (by omega) (by omega) eq121 (by omega) (fun h9 => ⟨by rw [show z119 + 1 - 1 = (z119 - 1) + 1 by omega]; exact xSq.skip (v146 h9).1 (by omega) (by have h7 := (by have h8 := k159 h9; rw [(Eq.trans (xv_m hg120 hs_fb (by decide) (by decide)) (xv_a hg1 (xne hs_fb hs_a0 (by decide))))] at h8; exact h8); rw [show z119 - 1 + 1 = z119 by omega]; omega), (v146 h9).2⟩) (by omega)
        · refine X_aloadn hK (i := 0) 1 kd36_14.2.2.2.2.2.2.1 rfl rfl ?_
          refine X_getK hK fl_X8_11_9 hs_a0 ((hg120 a0 9 0 0 hs_a0 (by decide)).trans ((xs_k hg1 (by decide)).trans ews)) kd36_14.2.2.2.2.2.2.2.1 ?_
          refine X_aloadn hK (i := 0) 1 kd36_14.2.2.2.2.2.2.2.2.1 rfl rfl ?_
          refine X_getK hK fl_X8_24_9 hs_a0 eq121 kd36_14.2.2.2.2.2.2.2.2.2.1 ?_
          refine X_iloadn hK (i := 2) 0 kd36_14.2.2.2.2.2.2.2.2.2.2.1 rfl rfl ?_
          refine X_iast hK hs_ws (by decide) (by decide) sl_13100 (by omega) (by omega) (by omega) (by omega) kd36_14.2.2.2.2.2.2.2.2.2.2.2 (fun g161 hg161 => ?_)
          refine X_aloadn hK (i := 0) 1 kd36_15.1 rfl rfl ?_
          refine X_getK hK fl_X8_15_9 hs_a0 ((xs_a hg161 (xne hs_a0 hs_ws (by decide))).trans ((hg120 a0 9 0 1 hs_a0 (by decide)).trans ((xs_k hg1 (by decide)).trans ewb))) kd36_15.2.1 ?_
          refine X_aloadn hK (i := 0) 1 kd36_15.2.2.1 rfl rfl ?_
          refine X_getK hK fl_X8_24_9 hs_a0 ((xs_a hg161 (xne hs_a0 hs_ws (by decide))).trans eq121) kd36_15.2.2.2.1 ?_
          refine X_aloadn hK (i := 1) 2 kd36_15.2.2.2.2.1 rfl rfl ?_
          refine X_iloadn hK (i := 2) 0 kd36_15.2.2.2.2.2.1 rfl rfl ?_
          refine X_callV hK [.int (iI z119)] [.int (iI q121), .ref wb] lk_X8_51 (c3_pairAt _ _ _ _ _ S g161 a1 z119 tn fb hs_a1 (by omega) (by omega) ((xs_a hg161 (xne hs_a1 hs_ws (by decide))).trans ((hg120 a1 10 0 1 hs_a1 (by decide)).trans ((xs_k hg1 (by decide)).trans etn))) ((xs_a hg161 (xne hs_a1 hs_ws (by decide))).trans ((hg120 a1 10 0 0 hs_a1 (by decide)).trans ((xs_k hg1 (by decide)).trans efb))) hs_fb) hs_a1 ⟨by decide, rfl⟩ kd36_15.2.2.2.2.2.2.1 rfl rfl (by simp [Value.category]) (by decide) (by omega) (by omega) (by decide) (fun r162 S164 g163 pr162 qr162 hg163 => ?_)
          obtain ⟨rfl, rfl, z165, rfl, lz165, uz165, k166⟩ := pr162
          refine X_st [.int (iI z165), .int (iI q121), .ref wb] rfl ?_
          refine X_iast hK hs_wb (by decide) (by decide) sl_13200 (by omega) (by omega) (by omega) (by omega) kd36_15.2.2.2.2.2.2.2.1 (fun g167 hg167 => ?_)
          refine X_aloadn hK (i := 0) 1 kd36_15.2.2.2.2.2.2.2.2.1 rfl rfl ?_
          refine X_dup hK kd36_15.2.2.2.2.2.2.2.2.2.1 rfl ?_
          refine X_getK hK fl_X8_24_9 hs_a0 ((xs_a hg167 (xne hs_a0 hs_wb (by decide))).trans ((xs_a hg161 (xne hs_a0 hs_ws (by decide))).trans eq121)) kd36_15.2.2.2.2.2.2.2.2.2.2.1 ?_
          refine X_iconst hK kd36_15.2.2.2.2.2.2.2.2.2.2.2 ?_
          refine X_iadd hK kd36_16.1 ?_
          refine X_puti hK fl_X8_24_9 hs_a0 (by decide) sl_9_4 (by omega) (by omega) kd36_16.2.1 (fun g168 hg168 => ?_)
          refine X_iinc hK (i := 2) (z := z119) (n := 1) 0 [(2, .int (iI (z119 + 1))), (0, .ref a0), (1, .ref a1)] kd36_16.2.2.1 rfl (by decide) rfl ?_
          refine X_goto hK 7 kd36_16.2.2.2.1 (by decide) ?_
          exact ihP144  g168 (xM_up (xM_ua (xM_ua (xM.tr xM.rf xLe.rf hg120 (by decide)) hg161 hs_ws (by decide) (by decide)) hg167 hs_wb (by decide) (by decide)) hg168 hs_a0 (by decide) (by decide)) (z119 + 1) (by omega) (by omega) (q121 + 1) (by omega) (by omega) (xs_s hg168) (by omega) (fun h9 => ⟨by rw [show z119 + 1 - 1 = (z119 - 1) + 1 by omega]; exact xSq.add (v146 h9).1 (by omega) (by omega) (by have h7 := (by have h8 := k159 h9; rw [(Eq.trans (xv_m hg120 hs_fb (by decide) (by decide)) (xv_a hg1 (xne hs_fb hs_a0 (by decide))))] at h8; exact h8); rw [show z119 - 1 + 1 = z119 by omega]; omega) (by have h8 := (show xv g168 ws q121 = z119 from by rw [(xv_a hg168 (xne hs_ws hs_a0 (by decide))), (xv_a hg167 (xne hs_ws hs_wb (by decide))), xv_s hg161 (by omega)]); omega) (fun i9 hi9 h09 => (show xv g168 ws i9 = xv g120 ws i9 from by rw [(xv_a hg168 (xne hs_ws hs_a0 (by decide))), (xv_a hg167 (xne hs_ws hs_wb (by decide))), (xv_k (i := i9) hg161 (by omega) (by omega) (by omega))])), fun k q1 q2 => by by_cases e9 : k = q121; (have h7 := (by have h8 := k166 h9; rw [(Eq.trans (Eq.trans (xv_a hg161 (xne hs_fb hs_ws (by decide))) (xv_m hg120 hs_fb (by decide) (by decide))) (xv_a hg1 (xne hs_fb hs_a0 (by decide))))] at h8; exact h8); rw [e9, (show xv g168 wb q121 = z165 from by rw [(xv_a hg168 (xne hs_wb hs_a0 (by decide))), xv_s hg167 (by omega)]), (show xv g168 ws q121 = z119 from by rw [(xv_a hg168 (xne hs_ws hs_a0 (by decide))), (xv_a hg167 (xne hs_ws hs_wb (by decide))), xv_s hg161 (by omega)])]; exact ⟨h7, by omega, by omega, by omega, by omega⟩); (rw [(show xv g168 wb k = xv g120 wb k from by rw [(xv_a hg168 (xne hs_wb hs_a0 (by decide))), (xv_k (i := k) hg167 (by omega) (by omega) (by omega)), (xv_a hg161 (xne hs_wb hs_ws (by decide)))]), (show xv g168 ws k = xv g120 ws k from by rw [(xv_a hg168 (xne hs_ws hs_a0 (by decide))), (xv_a hg167 (xne hs_ws hs_wb (by decide))), (xv_k (i := k) hg161 (by omega) (by omega) (by omega))])]; exact (v146 h9).2 k q1 (by omega))⟩) (by omega)
  exact P144 ((26 - 1 : Int).toNat + 1) g1 xM.rf 1 (by omega) (by omega) 0 (by omega) (by omega) (xs_s hg1) (by omega) (fun _ => ⟨xSq.z, fun k q1 q2 => by omega⟩) (by omega)

set_option maxHeartbeats 4000000 in
set_option maxRecDepth 100000 in
theorem c3_drive (l : Launch) (D : va_G) (kA : Nat → ClassId) (b0 : Nat) (t0 : Nat → Nat) (S : xT) (g : xG) (a0 : Nat) (a1 : Nat) (a2 : Nat) (ws : Nat) (wb : Nat) (wy : Nat) (wl : Int) (mg : Nat) (tn : Int) (fb : Nat) (Q9 : Int → Int → Int) (hs_a0 : S a0 = some (9, 0)) (hs_a1 : S a1 = some (4, 0)) (hs_a2 : S a2 = some (10, 0)) (ews : g a0 0 = .ref ws) (hs_ws : S ws = some (13100, 9)) (ewb : g a0 1 = .ref wb) (hs_wb : S wb = some (13200, 9)) (ewy : g a0 2 = .ref wy) (hs_wy : S wy = some (13300, 9)) (hwl : 0 ≤ wl ∧ wl ≤ 9) (ewl : g a0 5 = .int (iI wl)) (emg : g a1 6 = .ref mg) (hs_mg : S mg = some (11604, 10)) (htn : 0 ≤ tn ∧ tn ≤ 420) (etn : g a2 1 = .int (iI tn)) (efb : g a2 0 = .ref fb) (hs_fb : S fb = some (13500, 420)) (hp0 : xSn S) (hp1 : xQm S g mg Q9) (hp2 : tn = 20) : xMu l yX8_drive cX8_drive 4 (some .int) 3 1 4608 63 D kA b0 t0 [(9, 4), (13100, 0), (13200, 0), (9, 3), (13400, 0), (9, 5), (13300, 0)] [.ref a0, .ref a1, .ref a2] S g (fun (r : Option Value) (S1 : xT) (g1 : xG) (dc ds : Nat) => xNw2 S S1 [13400] ∧ ∃ z : Int, r = some (.int (iI z)) ∧ (-2147483648) ≤ z ∧ z ≤ 999999 ∧ (dc ≤ 1 ∧ ds ≤ 4608) ∧ (xSn S1) ∧ (∃ m1 : Int, g1 a0 5 = .int (iI m1) ∧ 0 ≤ m1 ∧ m1 ≤ 9 ∧ xTk (xv g fb) Q9 z wl m1 (xv g wy) (xv g1 wy))) := by
  refine xEnterUI (by decide) (by simp [lg_sl, Value.category]) [(0, .ref a0), (1, .ref a1), (2, .ref a2)] rfl ?_
  intro K E hK hret hS0 _ hini ht
  subst ht
  refine X_aloadn hK (i := 0) 0 kd36_0.1 rfl rfl ?_
  refine X_aloadn hK (i := 2) 2 kd36_0.2.1 rfl rfl ?_
  refine X_callVU hK [.ref a2] [] lk_X8_31 (c3_learn8 _ _ _ _ _ S g a0 a2 ws wb tn fb hs_a0 hs_a2 ews hs_ws ewb hs_wb (by omega) etn efb hs_fb hp0) hs_a0 ⟨by decide, rfl⟩ kd36_0.2.2.1 rfl rfl (by simp [Value.category]) (by decide) (by omega) (by omega) (by decide) (fun r1 S3 g2 dcr1 dsr1 pr1 qr1 hg2 => ?_)
  obtain ⟨wr1, rfl, k4, k5, k6⟩ := pr1
  refine X_st [] rfl ?_
  obtain ⟨z7, b8, n9, ez7, lz7, uz7, eb8, hs_b8, fz7, vz7, tz7⟩ := k4
  have hsq := (tz7 hp2).1
  have hnn : z7 = xTn (xv g fb) := hsq.1
  have hty : xTy z7 (xv g2 ws) (xv g2 wb) (xTs (xv g fb)) (xTb9 (xv g fb)) := fun k q1 q2 => by have h9 := (tz7 hp2).2 k q1 q2; have h8 : xv g2 ws k = (xTs (xv g fb)) k := hsq.2 k q1 q2; exact ⟨h8, (by show _ = xpr (xv g fb) ((xTs (xv g fb)) k); rw [← h8]; exact h9.1), by omega, by omega, (by show 0 ≤ xpr (xv g fb) ((xTs (xv g fb)) k); rw [← h8, ← h9.1]; exact h9.2.2.2.1), (by show xpr (xv g fb) ((xTs (xv g fb)) k) ≤ _; rw [← h8, ← h9.1]; exact h9.2.2.2.2)⟩
  refine X_aloadn hK (i := 0) 0 kd36_0.2.2.2.1 rfl rfl ?_
  refine X_getK hK fl_X8_24_9 (qr1 _ _ hs_a0) ez7 kd36_0.2.2.2.2.1 ?_
  refine X_if_ne hK 19 (by omega) kd36_0.2.2.2.2.2.1 (by decide) (fun c10 => ?_) (fun c10 => ?_)
  · refine X_aloadn hK (i := 0) 0 kd36_0.2.2.2.2.2.2.2.2.2.2.2 rfl rfl ?_
    refine X_aloadn hK (i := 1) 1 kd36_1.1 rfl rfl ?_
    refine X_callV hK [.ref a1] [] lk_X8_35 (c3_findSoonest _ _ _ _ _ S3 g2 a0 a1 z7 ws wb b8 n9 mg Q9 (xTs (xv g fb)) (xTb9 (xv g fb)) (qr1 _ _ hs_a0) (qr1 _ _ hs_a1) (by omega) ez7 ((hg2 a0 9 0 0 hs_a0 (by decide)).trans ews) (qr1 _ _ hs_ws) ((hg2 a0 9 0 1 hs_a0 (by decide)).trans ewb) (qr1 _ _ hs_wb) eb8 hs_b8 ((hg2 a1 4 0 6 hs_a1 (by decide)).trans emg) (qr1 _ _ hs_mg) (by omega) (by omega) (xQm_m hp1 hg2 qr1 (by decide)) hty) (qr1 _ _ hs_a0) ⟨by decide, rfl⟩ kd36_1.2.1 rfl rfl (by simp [Value.category]) (by decide) (by omega) (by omega) (by decide) (fun r11 S13 g12 pr11 qr11 hg12 => ?_)
    obtain ⟨rfl, rfl, k14⟩ := pr11
    refine X_st [] rfl ?_
    refine X_aloadn hK (i := 0) 0 kd36_1.2.2.1 rfl rfl ?_
    refine X_callV hK [] [] lk_X8_39 (c3_firstAtEnd _ _ _ _ _ S3 g12 a0 z7 b8 n9 (qr1 _ _ hs_a0) (by omega) ((hg12 a0 9 0 4 (qr1 _ _ hs_a0) (by decide)).trans ez7) ((hg12 a0 9 0 3 (qr1 _ _ hs_a0) (by decide)).trans eb8) hs_b8 (by omega) (by omega)) (qr1 _ _ hs_a0) ⟨by decide, rfl⟩ kd36_1.2.2.2.1 rfl rfl (by simp [Value.category]) (by decide) (by omega) (by omega) (by decide) (fun r15 S17 g16 pr15 qr15 hg16 => ?_)
    obtain ⟨rfl, rfl, z18, rfl, lz18, uz18, k19⟩ := pr15
    refine X_st [.int (iI z18)] rfl ?_
    have hpp := xp2lt (c := 0) (n := z7) (by omega)
    have hp0 := xp2ge 0
    have hfr : z18 = 1000000 ∨ (0 ≤ z18 ∧ z18 < 900000) := by rcases k19.2.2 with q9 | ⟨l9, q1, q2, q3⟩; exact Or.inl q9; (have q4 : z18 = xv g12 b8 (9 * ((((2 ^ z7.toNat : Nat) : Int)) - 1) + l9) := q3; have h9 := xSv.rng (xQm.F (xQm_m (xQm_m hp1 hg2 qr1 (by decide)) hg12 xLe.rf (by decide)) (show xTy z7 (xv g12 ws) (xv g12 wb) (xTs (xv g fb)) (xTb9 (xv g fb)) from (by rw [(xv_m hg12 (qr1 _ _ hs_ws) (by decide) (by decide)), (xv_m hg12 (qr1 _ _ hs_wb) (by decide) (by decide))]; exact hty))) (xQm.W (xQm_m (xQm_m hp1 hg2 qr1 (by decide)) hg12 xLe.rf (by decide)) (show xTy z7 (xv g12 ws) (xv g12 wb) (xTs (xv g fb)) (xTb9 (xv g fb)) from (by rw [(xv_m hg12 (qr1 _ _ hs_ws) (by decide) (by decide)), (xv_m hg12 (qr1 _ _ hs_wb) (by decide) (by decide))]; exact hty))) (xTy.B (show xTy z7 (xv g12 ws) (xv g12 wb) (xTs (xv g fb)) (xTb9 (xv g fb)) from (by rw [(xv_m hg12 (qr1 _ _ hs_ws) (by decide) (by decide)), (xv_m hg12 (qr1 _ _ hs_wb) (by decide) (by decide))]; exact hty))) (k14 ((((2 ^ z7.toNat : Nat) : Int)) - 1) l9 (by omega) (by omega) q1 q2 (Or.inl (by omega))); rw [← q4] at h9; omega)
    refine X_istoren hK (i := 3) [(3, .int (iI z18)), (0, .ref a0), (1, .ref a1), (2, .ref a2)] kd36_1.2.2.2.2.1 rfl (by decide) rfl ?_
    refine X_iloadn hK (i := 3) 0 kd36_1.2.2.2.2.2.1 rfl rfl ?_
    refine X_ldc hK (n := 1000000) kd36_1.2.2.2.2.2.2.1 m_53_22 (by decide) ?_
    refine X_icmp_ne hK 37 (by omega) (by omega) kd36_1.2.2.2.2.2.2.2.1 (by decide) (fun c20 => ?_) (fun c20 => ?_)
    · refine X_aloadn hK (i := 0) 1 kd36_1.2.2.2.2.2.2.2.2.2.2.1 rfl rfl ?_
      refine X_aloadn hK (i := 1) 2 kd36_1.2.2.2.2.2.2.2.2.2.2.2 rfl rfl ?_
      refine X_iloadn hK (i := 3) 0 kd36_2.1 rfl rfl ?_
      refine X_callV hK [.ref a1, .int (iI z18)] [] lk_X8_44 (c3_dropOthers _ _ _ _ _ S3 g12 a0 a1 z18 z7 ws wb b8 n9 mg Q9 (xTs (xv g fb)) (xTb9 (xv g fb)) (qr1 _ _ hs_a0) (qr1 _ _ hs_a1) (by omega) (by omega) ((hg12 a0 9 0 4 (qr1 _ _ hs_a0) (by decide)).trans ez7) ((hg12 a0 9 0 0 (qr1 _ _ hs_a0) (by decide)).trans ((hg2 a0 9 0 0 hs_a0 (by decide)).trans ews)) (qr1 _ _ hs_ws) ((hg12 a0 9 0 1 (qr1 _ _ hs_a0) (by decide)).trans ((hg2 a0 9 0 1 hs_a0 (by decide)).trans ewb)) (qr1 _ _ hs_wb) ((hg12 a0 9 0 3 (qr1 _ _ hs_a0) (by decide)).trans eb8) hs_b8 ((hg12 a1 4 0 6 (qr1 _ _ hs_a1) (by decide)).trans ((hg2 a1 4 0 6 hs_a1 (by decide)).trans emg)) (qr1 _ _ hs_mg) (by omega) (by omega) (xQm_m (xQm_m hp1 hg2 qr1 (by decide)) hg12 xLe.rf (by decide)) (by rw [(xv_m hg12 (qr1 _ _ hs_ws) (by decide) (by decide)), (xv_m hg12 (qr1 _ _ hs_wb) (by decide) (by decide))]; exact hty) k14) (qr1 _ _ hs_a0) ⟨by decide, rfl⟩ kd36_2.2.1 rfl rfl (by simp [Value.category]) (by decide) (by omega) (by omega) (by decide) (fun r21 S23 g22 pr21 qr21 hg22 => ?_)
      obtain ⟨rfl, rfl, k24⟩ := pr21
      refine X_st [] rfl ?_
      refine X_aloadn hK (i := 0) 1 kd36_2.2.2.1 rfl rfl ?_
      refine X_aloadn hK (i := 1) 2 kd36_2.2.2.2.1 rfl rfl ?_
      refine X_callV hK [.ref a1] [] lk_X8_48 (c3_walk _ _ _ _ _ S3 g22 a0 a1 z7 ws wb b8 n9 mg wy Q9 (xTs (xv g fb)) (xTb9 (xv g fb)) (xv g12 b8) z18 (qr1 _ _ hs_a0) (qr1 _ _ hs_a1) (by omega) ((hg22 a0 9 0 4 (qr1 _ _ hs_a0) (by decide)).trans ((hg12 a0 9 0 4 (qr1 _ _ hs_a0) (by decide)).trans ez7)) ((hg22 a0 9 0 0 (qr1 _ _ hs_a0) (by decide)).trans ((hg12 a0 9 0 0 (qr1 _ _ hs_a0) (by decide)).trans ((hg2 a0 9 0 0 hs_a0 (by decide)).trans ews))) (qr1 _ _ hs_ws) ((hg22 a0 9 0 1 (qr1 _ _ hs_a0) (by decide)).trans ((hg12 a0 9 0 1 (qr1 _ _ hs_a0) (by decide)).trans ((hg2 a0 9 0 1 hs_a0 (by decide)).trans ewb))) (qr1 _ _ hs_wb) ((hg22 a0 9 0 3 (qr1 _ _ hs_a0) (by decide)).trans ((hg12 a0 9 0 3 (qr1 _ _ hs_a0) (by decide)).trans eb8)) hs_b8 ((hg22 a1 4 0 6 (qr1 _ _ hs_a1) (by decide)).trans ((hg12 a1 4 0 6 (qr1 _ _ hs_a1) (by decide)).trans ((hg2 a1 4 0 6 hs_a1 (by decide)).trans emg))) (qr1 _ _ hs_mg) ((hg22 a0 9 0 2 (qr1 _ _ hs_a0) (by decide)).trans ((hg12 a0 9 0 2 (qr1 _ _ hs_a0) (by decide)).trans ((hg2 a0 9 0 2 hs_a0 (by decide)).trans ewy))) (qr1 _ _ hs_wy) (by omega) (by omega) (xQm_m (xQm_m (xQm_m hp1 hg2 qr1 (by decide)) hg12 xLe.rf (by decide)) hg22 xLe.rf (by decide)) (by rw [(Eq.trans (xv_m hg22 (qr1 _ _ hs_ws) (by decide) (by decide)) (xv_m hg12 (qr1 _ _ hs_ws) (by decide) (by decide))), (Eq.trans (xv_m hg22 (qr1 _ _ hs_wb) (by decide) (by decide)) (xv_m hg12 (qr1 _ _ hs_wb) (by decide) (by decide)))]; exact hty) (by omega) (xDr.fin k24 (fun s9 l9 q1 q2 q3 q4 => k14 s9 l9 q1 (by omega) q3 q4 (Or.inl (by omega))) (fun l9 q1 q2 => k19.1 l9 q1 q2)) (by rcases k19.2.2 with q9 | ⟨l9, q1, q2, q3⟩; omega; exact ⟨l9, q1, q2, q3.symm⟩)) (qr1 _ _ hs_a0) ⟨by decide, rfl⟩ kd36_2.2.2.2.2.1 rfl rfl (by simp [Value.category]) (by decide) (by omega) (by omega) (by decide) (fun r25 S27 g26 pr25 qr25 hg26 => ?_)
      obtain ⟨rfl, rfl, k28, k29⟩ := pr25
      refine X_st [] rfl ?_
      refine X_iloadn hK (i := 3) 0 kd36_2.2.2.2.2.2.1 rfl rfl ?_
      exact hret _ _ _ _ _ _ _ kd36_2.2.2.2.2.2.2.1 ⟨(xNw2.tr xNw2.rf wr1 (by decide)), z18, rfl, (by omega), (by omega), (by omega), k6, ⟨z7, k28, by omega, by omega, (Or.inr (Or.inr ⟨by omega, hnn, (by rw [← hnn]; exact k29)⟩))⟩⟩ (by omega) (by omega)
    · refine X_iconst hK kd36_1.2.2.2.2.2.2.2.2.1 ?_
      exact hret _ _ _ _ _ _ _ kd36_1.2.2.2.2.2.2.2.2.2.1 ⟨(xNw2.tr xNw2.rf wr1 (by decide)), (-1), rfl, (by omega), (by omega), (by omega), k6, ⟨wl, ((hg12 a0 9 0 5 (qr1 _ _ hs_a0) (by decide)).trans ((hg2 a0 9 0 5 hs_a0 (by decide)).trans ewl)), by omega, by omega, (Or.inr (Or.inl ⟨by omega, by omega, rfl, fun k9 _ _ => by rw [(Eq.trans (xv_m hg12 (qr1 _ _ hs_wy) (by decide) (by decide)) (xv_m hg2 hs_wy (by decide) (by decide)))], (by rw [← hnn]; exact xTz.none (by omega) (a := (((2 ^ z7.toNat : Nat) : Int)) - 1) (by omega) (xTy.B hty) (fun s9 l9 q1 q2 q3 q4 => k14 s9 l9 q1 (by omega) q3 q4 (Or.inl (by omega))) (fun l9 q1 q2 => by have h9 := k19.1 l9 q1 q2; have h8 : z18 ≤ xv _ _ _ := h9; omega))⟩))⟩⟩ (by omega) (by omega)
  · refine X_aloadn hK (i := 0) 0 kd36_0.2.2.2.2.2.2.1 rfl rfl ?_
    refine X_iconst hK kd36_0.2.2.2.2.2.2.2.1 ?_
    refine X_puti hK fl_X8_28_9 (qr1 _ _ hs_a0) (by decide) sl_9_5 (by omega) (by omega) kd36_0.2.2.2.2.2.2.2.2.1 (fun g30 hg30 => ?_)
    refine X_iconst hK kd36_0.2.2.2.2.2.2.2.2.2.1 ?_
    exact hret _ _ _ _ _ _ _ kd36_0.2.2.2.2.2.2.2.2.2.2.1 ⟨(xNw2.tr xNw2.rf wr1 (by decide)), 0, rfl, (by omega), (by omega), (by omega), k6, ⟨0, (xs_s hg30), by omega, by omega, (Or.inl ⟨by omega, rfl, rfl⟩)⟩⟩ (by omega) (by omega)
