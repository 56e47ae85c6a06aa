theorem m_2_22 : Cond.initialized RX8 ∈ wsL_law := ch_2 _ (List.mem_of_getElem? (i := 22) rfl)
theorem m_7_2 : Cond.fieldLink RX8 11 "PaperBoys$Route" "stops" "[I" ∈ wsL_law := ch_7 _ (List.mem_of_getElem? (i := 2) rfl)
theorem m_7_3 : Cond.fieldLink RX8 15 "PaperBoys$Route" "by" "[I" ∈ wsL_law := ch_7 _ (List.mem_of_getElem? (i := 3) rfl)
theorem m_7_4 : Cond.fieldLink RX8 18 "PaperBoys$Route" "way" "[I" ∈ wsL_law := ch_7 _ (List.mem_of_getElem? (i := 4) rfl)
theorem m_7_5 : Cond.fieldLink RX8 21 "PaperBoys$Route" "soonest" "[I" ∈ wsL_law := ch_7 _ (List.mem_of_getElem? (i := 5) rfl)
theorem m_7_6 : Cond.fieldLink RX8 24 "PaperBoys$Route" "size" "I" ∈ wsL_law := ch_7 _ (List.mem_of_getElem? (i := 6) rfl)
theorem m_7_7 : Cond.fieldLink RX8 28 "PaperBoys$Route" "wayLength" "I" ∈ wsL_law := ch_7 _ (List.mem_of_getElem? (i := 7) rfl)
theorem m_53_22 : Cond.constant RX8 43 (1000000) ∈ wsL_law := ch_53 _ (List.mem_of_getElem? (i := 22) rfl)
theorem m_54_12 : Cond.methodLink RX8 58 yX8_soonestAt ∈ wsL_law := ch_54 _ (List.mem_of_getElem? (i := 12) rfl)
theorem m_54_13 : Cond.instanceMethod yX8_soonestAt ∈ wsL_law := ch_54 _ (List.mem_of_getElem? (i := 13) rfl)
theorem m_54_14 : Cond.selects RX8 yX8_soonestAt yX8_soonestAt ∈ wsL_law := ch_54 _ (List.mem_of_getElem? (i := 14) rfl)
theorem m_54_15 : Cond.code yX8_soonestAt cX8_soonestAt 8 (some .int) ∈ wsL_law := ch_54 _ (List.mem_of_getElem? (i := 15) rfl)
theorem m_54_16 : Cond.fieldLink RX8 62 "PaperBoys$City" "minutes" "[[I" ∈ wsL_law := ch_54 _ (List.mem_of_getElem? (i := 16) rfl)
theorem m_54_17 : Cond.methodLink RX8 68 Lib.Math.min.name ∈ wsL_law := ch_54 _ (List.mem_of_getElem? (i := 17) rfl)
theorem m_55_2 : Cond.methodLink RX8 74 yX8_nextOf ∈ wsL_law := ch_55 _ (List.mem_of_getElem? (i := 2) rfl)
theorem m_55_3 : Cond.instanceMethod yX8_nextOf ∈ wsL_law := ch_55 _ (List.mem_of_getElem? (i := 3) rfl)
theorem m_55_4 : Cond.selects RX8 yX8_nextOf yX8_nextOf ∈ wsL_law := ch_55 _ (List.mem_of_getElem? (i := 4) rfl)
theorem m_55_5 : Cond.code yX8_nextOf cX8_nextOf 7 (some .int) ∈ wsL_law := ch_55 _ (List.mem_of_getElem? (i := 5) rfl)
theorem kd36_0 : (decode cX8_dropOthers 0 = .ok (.iconst 1, 1)) ∧ (decode cX8_dropOthers 1 = .ok (.aload_n 0, 1)) ∧ (decode cX8_dropOthers 2 = .ok (.getfield 24, 3)) ∧ (decode cX8_dropOthers 5 = .ok (.ishl, 1)) ∧ (decode cX8_dropOthers 6 = .ok (.iconst 1, 1)) ∧ (decode cX8_dropOthers 7 = .ok (.isub, 1)) ∧ (decode cX8_dropOthers 8 = .ok (.istore_n 3, 1)) ∧ (decode cX8_dropOthers 9 = .ok (.iload_n 3, 1)) ∧ (decode cX8_dropOthers 10 = .ok (.istore 4, 2)) ∧ (decode cX8_dropOthers 12 = .ok (.iload 4, 2)) ∧ (decode cX8_dropOthers 14 = .ok (.ifCond .le 96, 3)) ∧ (decode cX8_dropOthers 17 = .ok (.iconst 0, 1)) := by decide +kernel
theorem kd36_1 : (decode cX8_dropOthers 18 = .ok (.istore 5, 2)) ∧ (decode cX8_dropOthers 20 = .ok (.iload 5, 2)) ∧ (decode cX8_dropOthers 22 = .ok (.aload_n 0, 1)) ∧ (decode cX8_dropOthers 23 = .ok (.getfield 24, 3)) ∧ (decode cX8_dropOthers 26 = .ok (.if_icmp .ge 78, 3)) ∧ (decode cX8_dropOthers 29 = .ok (.iload 4, 2)) ∧ (decode cX8_dropOthers 31 = .ok (.bipush 9, 2)) ∧ (decode cX8_dropOthers 33 = .ok (.imul, 1)) ∧ (decode cX8_dropOthers 34 = .ok (.iload 5, 2)) ∧ (decode cX8_dropOthers 36 = .ok (.iadd, 1)) ∧ (decode cX8_dropOthers 37 = .ok (.istore 6, 2)) ∧ (decode cX8_dropOthers 39 = .ok (.iload 4, 2)) := by decide +kernel
theorem kd36_2 : (decode cX8_dropOthers 41 = .ok (.iload_n 3, 1)) ∧ (decode cX8_dropOthers 42 = .ok (.if_icmp .ne 22, 3)) ∧ (decode cX8_dropOthers 45 = .ok (.aload_n 0, 1)) ∧ (decode cX8_dropOthers 46 = .ok (.getfield 21, 3)) ∧ (decode cX8_dropOthers 49 = .ok (.iload 6, 2)) ∧ (decode cX8_dropOthers 51 = .ok (.iaload, 1)) ∧ (decode cX8_dropOthers 52 = .ok (.iload_n 2, 1)) ∧ (decode cX8_dropOthers 53 = .ok (.if_icmp .ne 7, 3)) ∧ (decode cX8_dropOthers 56 = .ok (.iconst 1, 1)) ∧ (decode cX8_dropOthers 57 = .ok (.goto 25, 3)) ∧ (decode cX8_dropOthers 60 = .ok (.iconst 0, 1)) ∧ (decode cX8_dropOthers 61 = .ok (.goto 21, 3)) := by decide +kernel
theorem kd36_3 : (decode cX8_dropOthers 64 = .ok (.aload_n 0, 1)) ∧ (decode cX8_dropOthers 65 = .ok (.aload_n 1, 1)) ∧ (decode cX8_dropOthers 66 = .ok (.iload 4, 2)) ∧ (decode cX8_dropOthers 68 = .ok (.iload 5, 2)) ∧ (decode cX8_dropOthers 70 = .ok (.invokevirtual 74, 3)) ∧ (decode cX8_dropOthers 73 = .ok (.iconst (-1), 1)) ∧ (decode cX8_dropOthers 74 = .ok (.if_icmp .eq 7, 3)) ∧ (decode cX8_dropOthers 77 = .ok (.iconst 1, 1)) ∧ (decode cX8_dropOthers 78 = .ok (.goto 4, 3)) ∧ (decode cX8_dropOthers 81 = .ok (.iconst 0, 1)) ∧ (decode cX8_dropOthers 82 = .ok (.istore 7, 2)) ∧ (decode cX8_dropOthers 84 = .ok (.iload 7, 2)) := by decide +kernel
theorem kd36_4 : (decode cX8_dropOthers 86 = .ok (.ifCond .ne 12, 3)) ∧ (decode cX8_dropOthers 89 = .ok (.aload_n 0, 1)) ∧ (decode cX8_dropOthers 90 = .ok (.getfield 21, 3)) ∧ (decode cX8_dropOthers 93 = .ok (.iload 6, 2)) ∧ (decode cX8_dropOthers 95 = .ok (.ldc 43, 2)) ∧ (decode cX8_dropOthers 97 = .ok (.iastore, 1)) ∧ (decode cX8_dropOthers 98 = .ok (.iinc 5 1, 3)) ∧ (decode cX8_dropOthers 101 = .ok (.goto (-81), 3)) ∧ (decode cX8_dropOthers 104 = .ok (.iinc 4 (-1), 3)) ∧ (decode cX8_dropOthers 107 = .ok (.goto (-95), 3)) ∧ (decode cX8_dropOthers 110 = .ok (.return_, 1)) ∧ (decode cX8_findSoonest 0 = .ok (.iconst 1, 1)) := by decide +kernel
theorem kd36_5 : (decode cX8_findSoonest 1 = .ok (.istore_n 2, 1)) ∧ (decode cX8_findSoonest 2 = .ok (.iload_n 2, 1)) ∧ (decode cX8_findSoonest 3 = .ok (.iconst 1, 1)) ∧ (decode cX8_findSoonest 4 = .ok (.aload_n 0, 1)) ∧ (decode cX8_findSoonest 5 = .ok (.getfield 24, 3)) ∧ (decode cX8_findSoonest 8 = .ok (.ishl, 1)) ∧ (decode cX8_findSoonest 9 = .ok (.if_icmp .ge 57, 3)) ∧ (decode cX8_findSoonest 12 = .ok (.iconst 0, 1)) ∧ (decode cX8_findSoonest 13 = .ok (.istore_n 3, 1)) ∧ (decode cX8_findSoonest 14 = .ok (.iload_n 3, 1)) ∧ (decode cX8_findSoonest 15 = .ok (.aload_n 0, 1)) ∧ (decode cX8_findSoonest 16 = .ok (.getfield 24, 3)) := by decide +kernel
theorem kd36_6 : (decode cX8_findSoonest 19 = .ok (.if_icmp .ge 41, 3)) ∧ (decode cX8_findSoonest 22 = .ok (.aload_n 0, 1)) ∧ (decode cX8_findSoonest 23 = .ok (.getfield 21, 3)) ∧ (decode cX8_findSoonest 26 = .ok (.iload_n 2, 1)) ∧ (decode cX8_findSoonest 27 = .ok (.bipush 9, 2)) ∧ (decode cX8_findSoonest 29 = .ok (.imul, 1)) ∧ (decode cX8_findSoonest 30 = .ok (.iload_n 3, 1)) ∧ (decode cX8_findSoonest 31 = .ok (.iadd, 1)) ∧ (decode cX8_findSoonest 32 = .ok (.iload_n 2, 1)) ∧ (decode cX8_findSoonest 33 = .ok (.iload_n 3, 1)) ∧ (decode cX8_findSoonest 34 = .ok (.ishr, 1)) ∧ (decode cX8_findSoonest 35 = .ok (.iconst 1, 1)) := by decide +kernel
theorem kd36_7 : (decode cX8_findSoonest 36 = .ok (.iand, 1)) ∧ (decode cX8_findSoonest 37 = .ok (.iconst 1, 1)) ∧ (decode cX8_findSoonest 38 = .ok (.if_icmp .ne 13, 3)) ∧ (decode cX8_findSoonest 41 = .ok (.aload_n 0, 1)) ∧ (decode cX8_findSoonest 42 = .ok (.aload_n 1, 1)) ∧ (decode cX8_findSoonest 43 = .ok (.iload_n 2, 1)) ∧ (decode cX8_findSoonest 44 = .ok (.iload_n 3, 1)) ∧ (decode cX8_findSoonest 45 = .ok (.invokevirtual 58, 3)) ∧ (decode cX8_findSoonest 48 = .ok (.goto 5, 3)) ∧ (decode cX8_findSoonest 51 = .ok (.ldc 43, 2)) ∧ (decode cX8_findSoonest 53 = .ok (.iastore, 1)) ∧ (decode cX8_findSoonest 54 = .ok (.iinc 3 1, 3)) := by decide +kernel
theorem kd36_8 : (decode cX8_findSoonest 57 = .ok (.goto (-43), 3)) ∧ (decode cX8_findSoonest 60 = .ok (.iinc 2 1, 3)) ∧ (decode cX8_findSoonest 63 = .ok (.goto (-61), 3)) ∧ (decode cX8_findSoonest 66 = .ok (.return_, 1)) ∧ (decode cX8_firstAtEnd 0 = .ok (.iconst 1, 1)) ∧ (decode cX8_firstAtEnd 1 = .ok (.aload_n 0, 1)) ∧ (decode cX8_firstAtEnd 2 = .ok (.getfield 24, 3)) ∧ (decode cX8_firstAtEnd 5 = .ok (.ishl, 1)) ∧ (decode cX8_firstAtEnd 6 = .ok (.iconst 1, 1)) ∧ (decode cX8_firstAtEnd 7 = .ok (.isub, 1)) ∧ (decode cX8_firstAtEnd 8 = .ok (.istore_n 1, 1)) ∧ (decode cX8_firstAtEnd 9 = .ok (.ldc 43, 2)) := by decide +kernel
theorem kd36_9 : (decode cX8_firstAtEnd 11 = .ok (.istore_n 2, 1)) ∧ (decode cX8_firstAtEnd 12 = .ok (.iconst 0, 1)) ∧ (decode cX8_firstAtEnd 13 = .ok (.istore_n 3, 1)) ∧ (decode cX8_firstAtEnd 14 = .ok (.iload_n 3, 1)) ∧ (decode cX8_firstAtEnd 15 = .ok (.aload_n 0, 1)) ∧ (decode cX8_firstAtEnd 16 = .ok (.getfield 24, 3)) ∧ (decode cX8_firstAtEnd 19 = .ok (.if_icmp .ge 25, 3)) ∧ (decode cX8_firstAtEnd 22 = .ok (.iload_n 2, 1)) ∧ (decode cX8_firstAtEnd 23 = .ok (.aload_n 0, 1)) ∧ (decode cX8_firstAtEnd 24 = .ok (.getfield 21, 3)) ∧ (decode cX8_firstAtEnd 27 = .ok (.iload_n 1, 1)) ∧ (decode cX8_firstAtEnd 28 = .ok (.bipush 9, 2)) := by decide +kernel
theorem kd36_10 : (decode cX8_firstAtEnd 30 = .ok (.imul, 1)) ∧ (decode cX8_firstAtEnd 31 = .ok (.iload_n 3, 1)) ∧ (decode cX8_firstAtEnd 32 = .ok (.iadd, 1)) ∧ (decode cX8_firstAtEnd 33 = .ok (.iaload, 1)) ∧ (decode cX8_firstAtEnd 34 = .ok (.invokestatic 68, 3)) ∧ (decode cX8_firstAtEnd 37 = .ok (.istore_n 2, 1)) ∧ (decode cX8_firstAtEnd 38 = .ok (.iinc 3 1, 3)) ∧ (decode cX8_firstAtEnd 41 = .ok (.goto (-27), 3)) ∧ (decode cX8_firstAtEnd 44 = .ok (.iload_n 2, 1)) ∧ (decode cX8_firstAtEnd 45 = .ok (.ireturn, 1)) ∧ (decode cX8_nextOf 0 = .ok (.aload_n 0, 1)) ∧ (decode cX8_nextOf 1 = .ok (.getfield 21, 3)) := by decide +kernel
theorem kd36_11 : (decode cX8_nextOf 4 = .ok (.iload_n 2, 1)) ∧ (decode cX8_nextOf 5 = .ok (.bipush 9, 2)) ∧ (decode cX8_nextOf 7 = .ok (.imul, 1)) ∧ (decode cX8_nextOf 8 = .ok (.iload_n 3, 1)) ∧ (decode cX8_nextOf 9 = .ok (.iadd, 1)) ∧ (decode cX8_nextOf 10 = .ok (.iaload, 1)) ∧ (decode cX8_nextOf 11 = .ok (.istore 4, 2)) ∧ (decode cX8_nextOf 13 = .ok (.iconst 0, 1)) ∧ (decode cX8_nextOf 14 = .ok (.istore 5, 2)) ∧ (decode cX8_nextOf 16 = .ok (.iload 5, 2)) ∧ (decode cX8_nextOf 18 = .ok (.aload_n 0, 1)) ∧ (decode cX8_nextOf 19 = .ok (.getfield 24, 3)) := by decide +kernel
theorem kd36_12 : (decode cX8_nextOf 22 = .ok (.if_icmp .ge 74, 3)) ∧ (decode cX8_nextOf 25 = .ok (.iload 4, 2)) ∧ (decode cX8_nextOf 27 = .ok (.ldc 43, 2)) ∧ (decode cX8_nextOf 29 = .ok (.if_icmp .eq 67, 3)) ∧ (decode cX8_nextOf 32 = .ok (.iload 4, 2)) ∧ (decode cX8_nextOf 34 = .ok (.aload_n 1, 1)) ∧ (decode cX8_nextOf 35 = .ok (.getfield 62, 3)) ∧ (decode cX8_nextOf 38 = .ok (.aload_n 0, 1)) ∧ (decode cX8_nextOf 39 = .ok (.getfield 11, 3)) ∧ (decode cX8_nextOf 42 = .ok (.iload_n 3, 1)) ∧ (decode cX8_nextOf 43 = .ok (.iaload, 1)) ∧ (decode cX8_nextOf 44 = .ok (.aaload, 1)) := by decide +kernel
theorem kd36_13 : (decode cX8_nextOf 45 = .ok (.aload_n 0, 1)) ∧ (decode cX8_nextOf 46 = .ok (.getfield 11, 3)) ∧ (decode cX8_nextOf 49 = .ok (.iload 5, 2)) ∧ (decode cX8_nextOf 51 = .ok (.iaload, 1)) ∧ (decode cX8_nextOf 52 = .ok (.iaload, 1)) ∧ (decode cX8_nextOf 53 = .ok (.iadd, 1)) ∧ (decode cX8_nextOf 54 = .ok (.istore 6, 2)) ∧ (decode cX8_nextOf 56 = .ok (.iload_n 2, 1)) ∧ (decode cX8_nextOf 57 = .ok (.iload 5, 2)) ∧ (decode cX8_nextOf 59 = .ok (.ishr, 1)) ∧ (decode cX8_nextOf 60 = .ok (.iconst 1, 1)) ∧ (decode cX8_nextOf 61 = .ok (.iand, 1)) := by decide +kernel
theorem kd36_14 : (decode cX8_nextOf 62 = .ok (.ifCond .ne 28, 3)) ∧ (decode cX8_nextOf 65 = .ok (.aload_n 0, 1)) ∧ (decode cX8_nextOf 66 = .ok (.getfield 21, 3)) ∧ (decode cX8_nextOf 69 = .ok (.iload_n 2, 1)) ∧ (decode cX8_nextOf 70 = .ok (.iconst 1, 1)) ∧ (decode cX8_nextOf 71 = .ok (.iload 5, 2)) ∧ (decode cX8_nextOf 73 = .ok (.ishl, 1)) ∧ (decode cX8_nextOf 74 = .ok (.ior, 1)) ∧ (decode cX8_nextOf 75 = .ok (.bipush 9, 2)) ∧ (decode cX8_nextOf 77 = .ok (.imul, 1)) ∧ (decode cX8_nextOf 78 = .ok (.iload 5, 2)) ∧ (decode cX8_nextOf 80 = .ok (.iadd, 1)) := by decide +kernel
theorem kd36_15 : (decode cX8_nextOf 81 = .ok (.iaload, 1)) ∧ (decode cX8_nextOf 82 = .ok (.iload 6, 2)) ∧ (decode cX8_nextOf 84 = .ok (.if_icmp .ne 6, 3)) ∧ (decode cX8_nextOf 87 = .ok (.iload 5, 2)) ∧ (decode cX8_nextOf 89 = .ok (.ireturn, 1)) ∧ (decode cX8_nextOf 90 = .ok (.iinc 5 1, 3)) ∧ (decode cX8_nextOf 93 = .ok (.goto (-77), 3)) ∧ (decode cX8_nextOf 96 = .ok (.iconst (-1), 1)) ∧ (decode cX8_nextOf 97 = .ok (.ireturn, 1)) ∧ (decode cX8_soonestAt 0 = .ok (.aload_n 1, 1)) ∧ (decode cX8_soonestAt 1 = .ok (.getfield 62, 3)) ∧ (decode cX8_soonestAt 4 = .ok (.aload_n 0, 1)) := by decide +kernel
theorem kd36_16 : (decode cX8_soonestAt 5 = .ok (.getfield 11, 3)) ∧ (decode cX8_soonestAt 8 = .ok (.iload_n 3, 1)) ∧ (decode cX8_soonestAt 9 = .ok (.iaload, 1)) ∧ (decode cX8_soonestAt 10 = .ok (.aaload, 1)) ∧ (decode cX8_soonestAt 11 = .ok (.astore 4, 2)) ∧ (decode cX8_soonestAt 13 = .ok (.iload_n 2, 1)) ∧ (decode cX8_soonestAt 14 = .ok (.iconst 1, 1)) ∧ (decode cX8_soonestAt 15 = .ok (.iload_n 3, 1)) ∧ (decode cX8_soonestAt 16 = .ok (.ishl, 1)) ∧ (decode cX8_soonestAt 17 = .ok (.ixor, 1)) ∧ (decode cX8_soonestAt 18 = .ok (.istore 5, 2)) ∧ (decode cX8_soonestAt 20 = .ok (.iload 5, 2)) := by decide +kernel
theorem kd36_17 : (decode cX8_soonestAt 22 = .ok (.ifCond .ne 10, 3)) ∧ (decode cX8_soonestAt 25 = .ok (.aload 4, 2)) ∧ (decode cX8_soonestAt 27 = .ok (.iconst 0, 1)) ∧ (decode cX8_soonestAt 28 = .ok (.iaload, 1)) ∧ (decode cX8_soonestAt 29 = .ok (.goto 5, 3)) ∧ (decode cX8_soonestAt 32 = .ok (.ldc 43, 2)) ∧ (decode cX8_soonestAt 34 = .ok (.istore 6, 2)) ∧ (decode cX8_soonestAt 36 = .ok (.iconst 0, 1)) ∧ (decode cX8_soonestAt 37 = .ok (.istore 7, 2)) ∧ (decode cX8_soonestAt 39 = .ok (.iload 7, 2)) ∧ (decode cX8_soonestAt 41 = .ok (.aload_n 0, 1)) ∧ (decode cX8_soonestAt 42 = .ok (.getfield 24, 3)) := by decide +kernel
theorem kd36_18 : (decode cX8_soonestAt 45 = .ok (.if_icmp .ge 45, 3)) ∧ (decode cX8_soonestAt 48 = .ok (.iload 5, 2)) ∧ (decode cX8_soonestAt 50 = .ok (.ifCond .eq 40, 3)) ∧ (decode cX8_soonestAt 53 = .ok (.iload 6, 2)) ∧ (decode cX8_soonestAt 55 = .ok (.aload_n 0, 1)) ∧ (decode cX8_soonestAt 56 = .ok (.getfield 21, 3)) ∧ (decode cX8_soonestAt 59 = .ok (.iload 5, 2)) ∧ (decode cX8_soonestAt 61 = .ok (.bipush 9, 2)) ∧ (decode cX8_soonestAt 63 = .ok (.imul, 1)) ∧ (decode cX8_soonestAt 64 = .ok (.iload 7, 2)) ∧ (decode cX8_soonestAt 66 = .ok (.iadd, 1)) ∧ (decode cX8_soonestAt 67 = .ok (.iaload, 1)) := by decide +kernel
theorem kd36_19 : (decode cX8_soonestAt 68 = .ok (.aload 4, 2)) ∧ (decode cX8_soonestAt 70 = .ok (.aload_n 0, 1)) ∧ (decode cX8_soonestAt 71 = .ok (.getfield 11, 3)) ∧ (decode cX8_soonestAt 74 = .ok (.iload 7, 2)) ∧ (decode cX8_soonestAt 76 = .ok (.iaload, 1)) ∧ (decode cX8_soonestAt 77 = .ok (.iaload, 1)) ∧ (decode cX8_soonestAt 78 = .ok (.iadd, 1)) ∧ (decode cX8_soonestAt 79 = .ok (.invokestatic 68, 3)) ∧ (decode cX8_soonestAt 82 = .ok (.istore 6, 2)) ∧ (decode cX8_soonestAt 84 = .ok (.iinc 7 1, 3)) ∧ (decode cX8_soonestAt 87 = .ok (.goto (-48), 3)) ∧ (decode cX8_soonestAt 90 = .ok (.iload 6, 2)) := by decide +kernel
theorem kd36_20 : (decode cX8_soonestAt 92 = .ok (.aload_n 0, 1)) ∧ (decode cX8_soonestAt 93 = .ok (.getfield 15, 3)) ∧ (decode cX8_soonestAt 96 = .ok (.iload_n 3, 1)) ∧ (decode cX8_soonestAt 97 = .ok (.iaload, 1)) ∧ (decode cX8_soonestAt 98 = .ok (.if_icmp .gt 8, 3)) ∧ (decode cX8_soonestAt 101 = .ok (.iload 6, 2)) ∧ (decode cX8_soonestAt 103 = .ok (.goto 5, 3)) ∧ (decode cX8_soonestAt 106 = .ok (.ldc 43, 2)) ∧ (decode cX8_soonestAt 108 = .ok (.ireturn, 1)) ∧ (decode cX8_walk 0 = .ok (.iconst (-1), 1)) ∧ (decode cX8_walk 1 = .ok (.istore_n 2, 1)) ∧ (decode cX8_walk 2 = .ok (.aload_n 0, 1)) := by decide +kernel
theorem kd36_21 : (decode cX8_walk 3 = .ok (.getfield 24, 3)) ∧ (decode cX8_walk 6 = .ok (.iconst 1, 1)) ∧ (decode cX8_walk 7 = .ok (.isub, 1)) ∧ (decode cX8_walk 8 = .ok (.istore_n 3, 1)) ∧ (decode cX8_walk 9 = .ok (.iload_n 3, 1)) ∧ (decode cX8_walk 10 = .ok (.ifCond .lt 29, 3)) ∧ (decode cX8_walk 13 = .ok (.aload_n 0, 1)) ∧ (decode cX8_walk 14 = .ok (.getfield 21, 3)) ∧ (decode cX8_walk 17 = .ok (.iconst 1, 1)) ∧ (decode cX8_walk 18 = .ok (.iload_n 3, 1)) ∧ (decode cX8_walk 19 = .ok (.ishl, 1)) ∧ (decode cX8_walk 20 = .ok (.bipush 9, 2)) := by decide +kernel
theorem kd36_22 : (decode cX8_walk 22 = .ok (.imul, 1)) ∧ (decode cX8_walk 23 = .ok (.iload_n 3, 1)) ∧ (decode cX8_walk 24 = .ok (.iadd, 1)) ∧ (decode cX8_walk 25 = .ok (.iaload, 1)) ∧ (decode cX8_walk 26 = .ok (.ldc 43, 2)) ∧ (decode cX8_walk 28 = .ok (.if_icmp .eq 5, 3)) ∧ (decode cX8_walk 31 = .ok (.iload_n 3, 1)) ∧ (decode cX8_walk 32 = .ok (.istore_n 2, 1)) ∧ (decode cX8_walk 33 = .ok (.iinc 3 (-1), 3)) ∧ (decode cX8_walk 36 = .ok (.goto (-27), 3)) ∧ (decode cX8_walk 39 = .ok (.iconst 0, 1)) ∧ (decode cX8_walk 40 = .ok (.istore_n 3, 1)) := by decide +kernel
theorem kd36_23 : (decode cX8_walk 41 = .ok (.aload_n 0, 1)) ∧ (decode cX8_walk 42 = .ok (.iconst 0, 1)) ∧ (decode cX8_walk 43 = .ok (.putfield 28, 3)) ∧ (decode cX8_walk 46 = .ok (.iconst 0, 1)) ∧ (decode cX8_walk 47 = .ok (.istore 4, 2)) ∧ (decode cX8_walk 49 = .ok (.iload 4, 2)) ∧ (decode cX8_walk 51 = .ok (.aload_n 0, 1)) ∧ (decode cX8_walk 52 = .ok (.getfield 24, 3)) ∧ (decode cX8_walk 55 = .ok (.if_icmp .ge 51, 3)) ∧ (decode cX8_walk 58 = .ok (.iload_n 2, 1)) ∧ (decode cX8_walk 59 = .ok (.iconst (-1), 1)) ∧ (decode cX8_walk 60 = .ok (.if_icmp .eq 46, 3)) := by decide +kernel
theorem kd36_24 : (decode cX8_walk 63 = .ok (.aload_n 0, 1)) ∧ (decode cX8_walk 64 = .ok (.getfield 18, 3)) ∧ (decode cX8_walk 67 = .ok (.iload 4, 2)) ∧ (decode cX8_walk 69 = .ok (.aload_n 0, 1)) ∧ (decode cX8_walk 70 = .ok (.getfield 11, 3)) ∧ (decode cX8_walk 73 = .ok (.iload_n 2, 1)) ∧ (decode cX8_walk 74 = .ok (.iaload, 1)) ∧ (decode cX8_walk 75 = .ok (.iastore, 1)) ∧ (decode cX8_walk 76 = .ok (.aload_n 0, 1)) ∧ (decode cX8_walk 77 = .ok (.dup, 1)) ∧ (decode cX8_walk 78 = .ok (.getfield 28, 3)) ∧ (decode cX8_walk 81 = .ok (.iconst 1, 1)) := by decide +kernel
theorem kd36_25 : (decode cX8_walk 82 = .ok (.iadd, 1)) ∧ (decode cX8_walk 83 = .ok (.putfield 28, 3)) ∧ (decode cX8_walk 86 = .ok (.iload_n 3, 1)) ∧ (decode cX8_walk 87 = .ok (.iconst 1, 1)) ∧ (decode cX8_walk 88 = .ok (.iload_n 2, 1)) ∧ (decode cX8_walk 89 = .ok (.ishl, 1)) ∧ (decode cX8_walk 90 = .ok (.ior, 1)) ∧ (decode cX8_walk 91 = .ok (.istore_n 3, 1)) ∧ (decode cX8_walk 92 = .ok (.aload_n 0, 1)) ∧ (decode cX8_walk 93 = .ok (.aload_n 1, 1)) ∧ (decode cX8_walk 94 = .ok (.iload_n 3, 1)) ∧ (decode cX8_walk 95 = .ok (.iload_n 2, 1)) := by decide +kernel
theorem kd36_26 : (decode cX8_walk 96 = .ok (.invokevirtual 74, 3)) ∧ (decode cX8_walk 99 = .ok (.istore_n 2, 1)) ∧ (decode cX8_walk 100 = .ok (.iinc 4 1, 3)) ∧ (decode cX8_walk 103 = .ok (.goto (-54), 3)) ∧ (decode cX8_walk 106 = .ok (.return_, 1)) := by decide +kernel
theorem fl_X8_11_9 : xF RX8 11 9 0 (.array .int) true := ⟨by decide, RX8, TX8, 6, tyX8, "PaperBoys$Route", rfl, inlX8, tyX8_ok, nmX8, by decide, rfl, rfl, m_7_2, Or.inl rfl⟩
theorem fl_X8_15_9 : xF RX8 15 9 1 (.array .int) true := ⟨by decide, RX8, TX8, 6, tyX8, "PaperBoys$Route", rfl, inlX8, tyX8_ok, nmX8, by decide, rfl, rfl, m_7_3, Or.inl rfl⟩
theorem fl_X8_18_9 : xF RX8 18 9 2 (.array .int) true := ⟨by decide, RX8, TX8, 6, tyX8, "PaperBoys$Route", rfl, inlX8, tyX8_ok, nmX8, by decide, rfl, rfl, m_7_4, Or.inl rfl⟩
theorem fl_X8_21_9 : xF RX8 21 9 3 (.array .int) false := ⟨by decide, RX8, TX8, 6, tyX8, "PaperBoys$Route", rfl, inlX8, tyX8_ok, nmX8, by decide, rfl, rfl, m_7_5, Or.inl rfl⟩
theorem fl_X8_24_9 : xF RX8 24 9 4 .int false := ⟨by decide, RX8, TX8, 6, tyX8, "PaperBoys$Route", rfl, inlX8, tyX8_ok, nmX8, by decide, rfl, rfl, m_7_6, Or.inl rfl⟩
theorem fl_X8_28_9 : xF RX8 28 9 5 .int false := ⟨by decide, RX8, TX8, 6, tyX8, "PaperBoys$Route", rfl, inlX8, tyX8_ok, nmX8, by decide, rfl, rfl, m_7_7, Or.inl rfl⟩
theorem fl_X8_62_4 : xF RX8 62 4 6 (.array (.array .int)) true := ⟨by decide, RX3, TX3, 7, tyX3, "PaperBoys$City", rfl, inlX3, tyX3_ok, nmX3, by decide, rfl, rfl, m_54_16, Or.inl rfl⟩
theorem lk_X8_58 : xLV RX8 58 yX8_soonestAt cX8_soonestAt 8 (some .int) 3 := ⟨m_54_12, m_54_13, m_54_14, m_2_22, m_54_15, by decide +kernel⟩
theorem lk_X8_74 : xLV RX8 74 yX8_nextOf cX8_nextOf 7 (some .int) 3 := ⟨m_55_2, m_55_3, m_55_4, m_2_22, m_55_5, by decide +kernel⟩
theorem mm_X8_68 : Cond.methodLink RX8 68 Lib.Math.min.name ∈ wsL_law ∧ Cond.static Lib.Math.min.name ∈ wsL_law ∧ Cond.initialized "java/lang/Math" ∈ wsL_law ∧ Cond.code Lib.Math.min.name Lib.Math.min.code 2 (some .int) ∈ wsL_law := ⟨m_54_17, m_15_1, m_13_23, m_15_2⟩
theorem xiorG {a b z : Int} (e : iI a ||| iI b = iI z) (hz : -2147483648 ≤ z ∧ z ≤ 2147483647) (ha : 0 ≤ a ∧ a ≤ 2147483647) (hb : 0 ≤ b ∧ b ≤ 2147483647) : a ≤ z ∧ b ≤ z := by
  have e1 : (iI z).toBitVec = (iI a).toBitVec ||| (iI b).toBitVec := by rw [← e]; rfl
  have e2 : (iI z).toBitVec.toNat = a.toNat ||| b.toNat := by rw [e1, BitVec.toNat_or, iI_nat ha.1 ha.2, iI_nat hb.1 hb.2]
  have l1 : a.toNat ≤ a.toNat ||| b.toNat := Nat.left_le_or
  have l2 : b.toNat ≤ a.toNat ||| b.toNat := Nat.right_le_or
  have lt : a.toNat ||| b.toNat < 2 ^ 31 := Nat.or_lt_two_pow (by omega) (by omega)
  have := iI_natR hz e2 (by omega)
  omega
set_option maxHeartbeats 4000000 in
set_option maxRecDepth 100000 in
theorem c_soonestAt_1 (l : Launch) (D : va_G) (kA : Nat → ClassId) (b0 : Nat) (t0 : Nat → Nat) (S : xT) (g : xG) (a0 : Nat) (a1 : Nat) (x2 : Int) (x3 : Int) (n0 : Int) (w0 nw0 : Nat) (hs_a0 : S a0 = some (9, 0)) (hs_a1 : S a1 = some (4, 0)) (hx2 : 1 ≤ x2 ∧ x2 ≤ 1) (hx3 : 0 ≤ x3 ∧ x3 ≤ 0) (hn0 : 1 ≤ n0 ∧ n0 ≤ 1) (en0 : g a0 4 = .int (iI n0)) (ew0 : g a0 3 = .ref w0) (hs_w0 : S w0 = some (13400, nw0)) (hp0 : 18 ≤ (nw0 : Int)) (hp1 : (nw0 : Int) ≤ 2147483647) : xMt l yX8_soonestAt cX8_soonestAt 8 (some .int) 1 0 0 13 D kA b0 t0 [] [.ref a0, .ref a1, .int (iI x2), .int (iI x3)] S g (fun (r : Option Value) (S1 : xT) (g1 : xG) => S = S1 ∧ g = g1 ∧ ∃ z : Int, r = some (.int (iI z)) ∧ (-2147483648) ≤ z ∧ z ≤ 1000000) := by
  refine xEnterI (by decide) (by simp [lg_sl, Value.category]) [(0, .ref a0), (1, .ref a1), (2, .int (iI x2)), (3, .int (iI x3))] rfl ?_
  intro K E hK hret _ _ _
  refine X_aloadn hK (i := 1) 1 kd36_15.2.2.2.2.2.2.2.2.2.1 rfl rfl ?_
  refine X_getr hK 11604 10 fl_X8_62_4 hs_a1 sl_4_6 kd36_15.2.2.2.2.2.2.2.2.2.2.1 (fun b1 eb1 hs_b1 => ?_)
  refine X_aloadn hK (i := 0) 0 kd36_15.2.2.2.2.2.2.2.2.2.2.2 rfl rfl ?_
  refine X_getr hK 13100 9 fl_X8_11_9 hs_a0 sl_9_0 kd36_16.1 (fun b2 eb2 hs_b2 => ?_)
  refine X_iloadn hK (i := 3) 3 kd36_16.2.1 rfl rfl ?_
  refine X_iald hK hs_b2 (by decide) sl_13100 (by omega) (by omega) kd36_16.2.2.1 (fun z3 ez3 lz3 uz3 => ?_)
  refine X_aald hK 11500 10 hs_b1 (by decide) sl_11604 (by omega) (by omega) kd36_16.2.2.2.1 (fun b4 eb4 hs_b4 => ?_)
  refine X_astore hK (i := 4) [(4, .ref b4), (0, .ref a0), (1, .ref a1), (2, .int (iI x2)), (3, .int (iI x3))] kd36_16.2.2.2.2.1 (by decide) rfl ?_
  refine X_iloadn hK (i := 2) 3 kd36_16.2.2.2.2.2.1 rfl rfl ?_
  refine X_iconst hK kd36_16.2.2.2.2.2.2.1 ?_
  refine X_iloadn hK (i := 3) 4 kd36_16.2.2.2.2.2.2.2.1 rfl rfl ?_
  refine X_ishl hK kd36_16.2.2.2.2.2.2.2.2.1 (fun z5 ez5 lz5 uz5 => ?_)
  have bz5 := xshlB 0 ez5 ⟨lz5, uz5⟩ (by omega) (by decide)
  refine X_ixor hK kd36_16.2.2.2.2.2.2.2.2.2.1 (fun z6 ez6 lz6 uz6 => ?_)
  have bz6 := xixorB 1 ez6 ⟨lz6, uz6⟩ (by omega) (by omega) (by decide)
  refine X_istore hK (i := 5) [(5, .int (iI z6)), (4, .ref b4), (0, .ref a0), (1, .ref a1), (2, .int (iI x2)), (3, .int (iI x3))] kd36_16.2.2.2.2.2.2.2.2.2.2.1 (by decide) rfl ?_
  refine X_iload hK (i := 5) 0 kd36_16.2.2.2.2.2.2.2.2.2.2.2 rfl ?_
  have J10 : ∀ (z9 : Int) (lz9 : 0 ≤ z9) (uz9 : z9 ≤ 1000000), X K E 34 [(5, .int (iI z6)), (4, .ref b4), (0, .ref a0), (1, .ref a1), (2, .int (iI x2)), (3, .int (iI x3))] [.int (iI z9)] S g 0 0 := by
    intro z9 lz9 uz9
    refine X_istore hK (i := 6) [(6, .int (iI z9)), (5, .int (iI z6)), (4, .ref b4), (0, .ref a0), (1, .ref a1), (2, .int (iI x2)), (3, .int (iI x3))] kd36_17.2.2.2.2.2.2.1 (by decide) rfl ?_
    refine X_iconst hK kd36_17.2.2.2.2.2.2.2.1 ?_
    refine X_istore hK (i := 7) [(7, .int (iI 0)), (6, .int (iI z9)), (5, .int (iI z6)), (4, .ref b4), (0, .ref a0), (1, .ref a1), (2, .int (iI x2)), (3, .int (iI x3))] kd36_17.2.2.2.2.2.2.2.2.1 (by decide) rfl ?_
    have P123 : ∀ (nP123 : Nat) (z104 : Int) (_ : 0 ≤ z104) (_ : z104 ≤ 1) (z105 : Int) (_ : (-2147483648) ≤ z105) (_ : z105 ≤ 1000000) (_ : 17 - z104 < (nP123 : Int)), X K E 39 [(7, .int (iI z104)), (6, .int (iI z105)), (5, .int (iI z6)), (4, .ref b4), (0, .ref a0), (1, .ref a1), (2, .int (iI x2)), (3, .int (iI x3))] [] S g 0 0 := by
      intro nP123
      induction nP123 with
      | zero => intro z104 lz104 uz104 z105 lz105 uz105 mP123; exact False.elim (by omega)
      | succ nP123 ihP123 =>
        intro z104 lz104 uz104 z105 lz105 uz105 mP123
        refine X_iload hK (i := 7) 0 kd36_17.2.2.2.2.2.2.2.2.2.1 rfl ?_
        refine X_aloadn hK (i := 0) 4 kd36_17.2.2.2.2.2.2.2.2.2.2.1 rfl rfl ?_
        refine X_getK hK fl_X8_24_9 hs_a0 en0 kd36_17.2.2.2.2.2.2.2.2.2.2.2 ?_
        have J131 : X K E 90 [(7, .int (iI z104)), (6, .int (iI z105)), (5, .int (iI z6)), (4, .ref b4), (0, .ref a0), (1, .ref a1), (2, .int (iI x2)), (3, .int (iI x3))] [] S g 0 0 := by
          refine X_iload hK (i := 6) 1 kd36_19.2.2.2.2.2.2.2.2.2.2.2 rfl ?_
          refine X_aloadn hK (i := 0) 4 kd36_20.1 rfl rfl ?_
          refine X_getr hK 13200 9 fl_X8_15_9 hs_a0 sl_9_1 kd36_20.2.1 (fun b132 eb132 hs_b132 => ?_)
          refine X_iloadn hK (i := 3) 7 kd36_20.2.2.1 rfl rfl ?_
          refine X_iald hK hs_b132 (by decide) sl_13200 (by omega) (by omega) kd36_20.2.2.2.1 (fun z133 ez133 lz133 uz133 => ?_)
          refine X_icmp_gt hK 106 (by omega) (by omega) kd36_20.2.2.2.2.1 (by decide) (fun c134 => ?_) (fun c134 => ?_)
          · refine X_ldc hK (n := 1000000) kd36_20.2.2.2.2.2.2.2.1 m_53_22 (by decide) ?_
            exact hret _ _ _ _ _ _ _ kd36_20.2.2.2.2.2.2.2.2.1 ⟨rfl, rfl, 1000000, rfl, (by omega), (by omega)⟩ (Nat.le_refl _) (Nat.le_refl _)
          · refine X_iload hK (i := 6) 1 kd36_20.2.2.2.2.2.1 rfl ?_
            refine X_goto hK 108 kd36_20.2.2.2.2.2.2.1 (by decide) ?_
            exact hret _ _ _ _ _ _ _ kd36_20.2.2.2.2.2.2.2.2.1 ⟨rfl, rfl, z105, rfl, (by omega), (by omega)⟩ (Nat.le_refl _) (Nat.le_refl _)
        refine X_icmp_ge hK 90 (by omega) (by omega) kd36_18.1 (by decide) (fun c124 => ?_) (fun c124 => ?_)
        · exact J131 
        · refine X_iload hK (i := 5) 2 kd36_18.2.1 rfl ?_
          refine X_if_eq hK 90 (by omega) kd36_18.2.2.1 (by decide) (fun c135 => ?_) (fun c135 => ?_)
          · exact J131 
          · refine X_iload hK (i := 6) 1 kd36_18.2.2.2.1 rfl ?_
            refine X_aloadn hK (i := 0) 4 kd36_18.2.2.2.2.1 rfl rfl ?_
            refine X_getK hK fl_X8_21_9 hs_a0 ew0 kd36_18.2.2.2.2.2.1 ?_
            refine X_iload hK (i := 5) 2 kd36_18.2.2.2.2.2.2.1 rfl ?_
            refine X_bipush hK kd36_18.2.2.2.2.2.2.2.1 (by decide) ?_
            refine X_imul hK kd36_18.2.2.2.2.2.2.2.2.1 ?_
            refine X_iload hK (i := 7) 0 kd36_18.2.2.2.2.2.2.2.2.2.1 rfl ?_
            refine X_iadd hK kd36_18.2.2.2.2.2.2.2.2.2.2.1 ?_
            refine X_iald hK hs_w0 ⟨by decide, by decide, by omega⟩ sl_13400 (by omega) (by omega) kd36_18.2.2.2.2.2.2.2.2.2.2.2 (fun z136 ez136 lz136 uz136 => ?_)
            refine X_aload hK (i := 4) 3 kd36_19.1 rfl ?_
            refine X_aloadn hK (i := 0) 4 kd36_19.2.1 rfl rfl ?_
            refine X_getK hK fl_X8_11_9 hs_a0 eb2 kd36_19.2.2.1 ?_
            refine X_iload hK (i := 7) 0 kd36_19.2.2.2.1 rfl ?_
            refine X_iald hK hs_b2 (by decide) sl_13100 (by omega) (by omega) kd36_19.2.2.2.2.1 (fun z137 ez137 lz137 uz137 => ?_)
            refine X_iald hK hs_b4 (by decide) sl_11500 (by omega) (by omega) kd36_19.2.2.2.2.2.1 (fun z138 ez138 lz138 uz138 => ?_)
            refine X_iadd hK kd36_19.2.2.2.2.2.2.1 ?_
            refine X_norm (fun z139 ez139 lz139 uz139 => ?_)
            refine X_mmin hK mm_X8_68 ⟨by decide, by simp [Value.category]⟩ (by decide) (by omega) (by omega) kd36_19.2.2.2.2.2.2.2.1 (fun z140 ez140 fz140 => ?_)
            have bz140 : (-2147483648) ≤ z140 ∧ z140 ≤ 1000000 := by omega
            refine X_istore hK (i := 6) [(6, .int (iI z140)), (7, .int (iI z104)), (5, .int (iI z6)), (4, .ref b4), (0, .ref a0), (1, .ref a1), (2, .int (iI x2)), (3, .int (iI x3))] kd36_19.2.2.2.2.2.2.2.2.1 (by decide) rfl ?_
            refine X_iinc hK (i := 7) (z := z104) (n := 1) 1 [(7, .int (iI (z104 + 1))), (6, .int (iI z140)), (5, .int (iI z6)), (4, .ref b4), (0, .ref a0), (1, .ref a1), (2, .int (iI x2)), (3, .int (iI x3))] kd36_19.2.2.2.2.2.2.2.2.2.1 rfl (by decide) rfl ?_
            refine X_goto hK 39 kd36_19.2.2.2.2.2.2.2.2.2.2.1 (by decide) ?_
            exact ihP123  (z104 + 1) (by omega) (by omega) z140 (by omega) (by omega) (by omega)
    exact P123 ((17 - 0 : Int).toNat + 1) 0 (by omega) (by omega) z9 (by omega) (by omega) (by omega)
  refine X_if_ne hK 32 (by omega) kd36_17.1 (by decide) (fun c7 => ?_) (fun c7 => ?_)
  · refine X_ldc hK (n := 1000000) kd36_17.2.2.2.2.2.1 m_53_22 (by decide) ?_
    exact J10 1000000 (by omega) (by omega)
  · refine X_aload hK (i := 4) 1 kd36_17.2.1 rfl ?_
    refine X_iconst hK kd36_17.2.2.1 ?_
    refine X_iald hK hs_b4 (by decide) sl_11500 (by omega) (by omega) kd36_17.2.2.2.1 (fun z141 ez141 lz141 uz141 => ?_)
    refine X_goto hK 34 kd36_17.2.2.2.2.1 (by decide) ?_
    exact J10 z141 (by omega) (by omega)

set_option maxHeartbeats 4000000 in
set_option maxRecDepth 100000 in
theorem c_findSoonest_1 (l : Launch) (D : va_G) (kA : Nat → ClassId) (b0 : Nat) (t0 : Nat → Nat) (S : xT) (g : xG) (a0 : Nat) (a1 : Nat) (n0 : Int) (w0 nw0 : Nat) (hs_a0 : S a0 = some (9, 0)) (hs_a1 : S a1 = some (4, 0)) (hn0 : 1 ≤ n0 ∧ n0 ≤ 1) (en0 : g a0 4 = .int (iI n0)) (ew0 : g a0 3 = .ref w0) (hs_w0 : S w0 = some (13400, nw0)) (hp0 : 18 ≤ (nw0 : Int)) (hp1 : (nw0 : Int) ≤ 2147483647) : xMt l yX8_findSoonest cX8_findSoonest 4 none 2 0 0 40 D kA b0 t0 [(13400, 0)] [.ref a0, .ref a1] S g (fun (r : Option Value) (S1 : xT) (g1 : xG) => S = S1 ∧ r = none) := by
  refine xEnterV (by decide) (by simp [lg_sl, Value.category]) [(0, .ref a0), (1, .ref a1)] rfl ?_
  intro K E hK hret _ _ _
  refine X_iconst hK kd36_4.2.2.2.2.2.2.2.2.2.2.2 ?_
  refine X_istoren hK (i := 2) [(2, .int (iI 1)), (0, .ref a0), (1, .ref a1)] kd36_5.1 rfl (by decide) rfl ?_
  have P1230 : ∀ (nP1230 : Nat) (g1026 : xG) (_ : xM [(13400, 0)] S g g1026) (z1025 : Int) (_ : 1 ≤ z1025) (_ : z1025 ≤ 2) (_ : 18 - z1025 < (nP1230 : Int)), X K E 2 [(2, .int (iI z1025)), (0, .ref a0), (1, .ref a1)] [] S g1026 0 0 := by
    intro nP1230
    induction nP1230 with
    | zero => intro g1026 hg1026 z1025 lz1025 uz1025 mP1230; exact False.elim (by omega)
    | succ nP1230 ihP1230 =>
      intro g1026 hg1026 z1025 lz1025 uz1025 mP1230
      refine X_iloadn hK (i := 2) 0 kd36_5.2.1 rfl rfl ?_
      refine X_iconst hK kd36_5.2.2.1 ?_
      refine X_aloadn hK (i := 0) 1 kd36_5.2.2.2.1 rfl rfl ?_
      refine X_getK hK fl_X8_24_9 hs_a0 ((hg1026 a0 9 0 4 hs_a0 (by decide)).trans en0) kd36_5.2.2.2.2.1 ?_
      refine X_ishl hK kd36_5.2.2.2.2.2.1 (fun z1231 ez1231 lz1231 uz1231 => ?_)
      have bz1231 := xshlB 1 ez1231 ⟨lz1231, uz1231⟩ (by omega) (by decide)
      refine X_icmp_ge hK 66 (by omega) (by omega) kd36_5.2.2.2.2.2.2.1 (by decide) (fun c1232 => ?_) (fun c1232 => ?_)
      · exact hret _ _ _ _ _ _ kd36_8.2.2.2.1 ⟨rfl, rfl⟩ (Nat.le_refl _) (Nat.le_refl _)
      · refine X_iconst hK kd36_5.2.2.2.2.2.2.2.1 ?_
        refine X_istoren hK (i := 3) [(3, .int (iI 0)), (2, .int (iI z1025)), (0, .ref a0), (1, .ref a1)] kd36_5.2.2.2.2.2.2.2.2.1 rfl (by decide) rfl ?_
        have P1404 : ∀ (nP1404 : Nat) (g1374 : xG) (_ : xM [(13400, 0)] S g1026 g1374) (z1373 : Int) (_ : 0 ≤ z1373) (_ : z1373 ≤ 1) (_ : 17 - z1373 < (nP1404 : Int)), X K E 14 [(3, .int (iI z1373)), (2, .int (iI z1025)), (0, .ref a0), (1, .ref a1)] [] S g1374 0 0 := by
          intro nP1404
          induction nP1404 with
          | zero => intro g1374 hg1374 z1373 lz1373 uz1373 mP1404; exact False.elim (by omega)
          | succ nP1404 ihP1404 =>
            intro g1374 hg1374 z1373 lz1373 uz1373 mP1404
            refine X_iloadn hK (i := 3) 0 kd36_5.2.2.2.2.2.2.2.2.2.1 rfl rfl ?_
            refine X_aloadn hK (i := 0) 2 kd36_5.2.2.2.2.2.2.2.2.2.2.1 rfl rfl ?_
            refine X_getK hK fl_X8_24_9 hs_a0 ((hg1374 a0 9 0 4 hs_a0 (by decide)).trans ((hg1026 a0 9 0 4 hs_a0 (by decide)).trans en0)) kd36_5.2.2.2.2.2.2.2.2.2.2.2 ?_
            refine X_icmp_ge hK 60 (by omega) (by omega) kd36_6.1 (by decide) (fun c1405 => ?_) (fun c1405 => ?_)
            · refine X_iinc hK (i := 2) (z := z1025) (n := 1) 1 [(2, .int (iI (z1025 + 1))), (3, .int (iI z1373)), (0, .ref a0), (1, .ref a1)] kd36_8.2.1 rfl (by decide) rfl ?_
              refine X_goto hK 2 kd36_8.2.2.1 (by decide) ?_
              refine X_lv [(2, .int (iI (z1025 + 1))), (0, .ref a0), (1, .ref a1)] [0, 2, 3] rfl ?_
              exact ihP1230  g1374 (xM.tr (xM.tr xM.rf xLe.rf hg1026 (by decide)) xLe.rf hg1374 (by decide)) (z1025 + 1) (by omega) (by omega) (by omega)
            · refine X_aloadn hK (i := 0) 2 kd36_6.2.1 rfl rfl ?_
              refine X_getK hK fl_X8_21_9 hs_a0 ((hg1374 a0 9 0 3 hs_a0 (by decide)).trans ((hg1026 a0 9 0 3 hs_a0 (by decide)).trans ew0)) kd36_6.2.2.1 ?_
              refine X_iloadn hK (i := 2) 1 kd36_6.2.2.2.1 rfl rfl ?_
              refine X_bipush hK kd36_6.2.2.2.2.1 (by decide) ?_
              refine X_imul hK kd36_6.2.2.2.2.2.1 ?_
              refine X_iloadn hK (i := 3) 0 kd36_6.2.2.2.2.2.2.1 rfl rfl ?_
              refine X_iadd hK kd36_6.2.2.2.2.2.2.2.1 ?_
              refine X_iloadn hK (i := 2) 1 kd36_6.2.2.2.2.2.2.2.2.1 rfl rfl ?_
              refine X_iloadn hK (i := 3) 0 kd36_6.2.2.2.2.2.2.2.2.2.1 rfl rfl ?_
              refine X_ishr hK kd36_6.2.2.2.2.2.2.2.2.2.2.1 (fun z1420 ez1420 lz1420 uz1420 => ?_)
              refine X_iconst hK kd36_6.2.2.2.2.2.2.2.2.2.2.2 ?_
              refine X_iand hK kd36_7.1 (fun z1421 ez1421 lz1421 uz1421 => ?_)
              have bz1421 := xandB ez1421 ⟨lz1421, uz1421⟩ (by omega)
              refine X_iconst hK kd36_7.2.1 ?_
              have J1428 : ∀ (z1427 : Int) (lz1427 : (-2147483648) ≤ z1427) (uz1427 : z1427 ≤ 1000000), X K E 53 [(3, .int (iI z1373)), (2, .int (iI z1025)), (0, .ref a0), (1, .ref a1)] [.int (iI z1427), .int (iI ((z1025 * 9) + z1373)), .ref w0] S g1374 0 0 := by
                intro z1427 lz1427 uz1427
                refine X_iast hK hs_w0 ⟨by decide, by decide, by decide, by omega⟩ (by decide) sl_13400 (by omega) (by omega) (by omega) (by omega) kd36_7.2.2.2.2.2.2.2.2.2.2.1 (fun g1429 hg1429 => ?_)
                refine X_iinc hK (i := 3) (z := z1373) (n := 1) 0 [(3, .int (iI (z1373 + 1))), (2, .int (iI z1025)), (0, .ref a0), (1, .ref a1)] kd36_7.2.2.2.2.2.2.2.2.2.2.2 rfl (by decide) rfl ?_
                refine X_goto hK 14 kd36_8.1 (by decide) ?_
                exact ihP1404  g1429 (xM_ua (xM.tr xM.rf xLe.rf hg1374 (by decide)) hg1429 hs_w0 (by decide) (by decide)) (z1373 + 1) (by omega) (by omega) (by omega)
              refine X_icmp_ne hK 51 (by omega) (by omega) kd36_7.2.2.1 (by decide) (fun c1422 => ?_) (fun c1422 => ?_)
              · refine X_ldc hK (n := 1000000) kd36_7.2.2.2.2.2.2.2.2.2.1 m_53_22 (by decide) ?_
                exact J1428 1000000 (by omega) (by omega)
              · refine X_aloadn hK (i := 0) 2 kd36_7.2.2.2.1 rfl rfl ?_
                refine X_aloadn hK (i := 1) 3 kd36_7.2.2.2.2.1 rfl rfl ?_
                refine X_iloadn hK (i := 2) 1 kd36_7.2.2.2.2.2.1 rfl rfl ?_
                refine X_iloadn hK (i := 3) 0 kd36_7.2.2.2.2.2.2.1 rfl rfl ?_
                refine X_callV hK [.ref a1, .int (iI z1025), .int (iI z1373)] [.int (iI ((z1025 * 9) + z1373)), .ref w0] lk_X8_58 (c_soonestAt_1 _ _ _ _ _ S g1374 a0 a1 z1025 z1373 n0 w0 nw0 hs_a0 hs_a1 (by omega) (by omega) (by omega) ((hg1374 a0 9 0 4 hs_a0 (by decide)).trans ((hg1026 a0 9 0 4 hs_a0 (by decide)).trans en0)) ((hg1374 a0 9 0 3 hs_a0 (by decide)).trans ((hg1026 a0 9 0 3 hs_a0 (by decide)).trans ew0)) hs_w0 (by omega) (by omega)) hs_a0 ⟨by decide, rfl⟩ kd36_7.2.2.2.2.2.2.2.1 rfl rfl (by simp [Value.category]) (by decide) (by decide) (by decide) (by decide) (fun r1430 S1432 g1431 pr1430 qr1430 hg1431 => ?_)
                obtain ⟨rfl, rfl, z1433, rfl, lz1433, uz1433⟩ := pr1430
                refine X_st [.int (iI z1433), .int (iI ((z1025 * 9) + z1373)), .ref w0] rfl ?_
                refine X_goto hK 53 kd36_7.2.2.2.2.2.2.2.2.1 (by decide) ?_
                exact J1428 z1433 (by omega) (by omega)
        exact P1404 ((17 - 0 : Int).toNat + 1) g1026 xM.rf 0 (by omega) (by omega) (by omega)
  exact P1230 ((18 - 1 : Int).toNat + 1) g xM.rf 1 (by omega) (by omega) (by omega)

set_option maxHeartbeats 4000000 in
set_option maxRecDepth 100000 in
theorem c_firstAtEnd_1 (l : Launch) (D : va_G) (kA : Nat → ClassId) (b0 : Nat) (t0 : Nat → Nat) (S : xT) (g : xG) (a0 : Nat) (n0 : Int) (w0 nw0 : Nat) (hs_a0 : S a0 = some (9, 0)) (hn0 : 1 ≤ n0 ∧ n0 ≤ 1) (en0 : g a0 4 = .int (iI n0)) (ew0 : g a0 3 = .ref w0) (hs_w0 : S w0 = some (13400, nw0)) (hp0 : 18 ≤ (nw0 : Int)) (hp1 : (nw0 : Int) ≤ 2147483647) : xMt l yX8_firstAtEnd cX8_firstAtEnd 4 (some .int) 1 0 0 13 D kA b0 t0 [] [.ref a0] S g (fun (r : Option Value) (S1 : xT) (g1 : xG) => S = S1 ∧ g = g1 ∧ ∃ z : Int, r = some (.int (iI z)) ∧ (-2147483648) ≤ z ∧ z ≤ 1000000) := by
  refine xEnterI (by decide) (by simp [lg_sl, Value.category]) [(0, .ref a0)] rfl ?_
  intro K E hK hret _ _ _
  refine X_iconst hK kd36_8.2.2.2.2.1 ?_
  refine X_aloadn hK (i := 0) 0 kd36_8.2.2.2.2.2.1 rfl rfl ?_
  refine X_getK hK fl_X8_24_9 hs_a0 en0 kd36_8.2.2.2.2.2.2.1 ?_
  refine X_ishl hK kd36_8.2.2.2.2.2.2.2.1 (fun z1 ez1 lz1 uz1 => ?_)
  have bz1 := xshlB 1 ez1 ⟨lz1, uz1⟩ (by omega) (by decide)
  refine X_iconst hK kd36_8.2.2.2.2.2.2.2.2.1 ?_
  refine X_isub hK kd36_8.2.2.2.2.2.2.2.2.2.1 ?_
  refine X_istoren hK (i := 1) [(1, .int (iI (z1 - 1))), (0, .ref a0)] kd36_8.2.2.2.2.2.2.2.2.2.2.1 rfl (by decide) rfl ?_
  refine X_ldc hK (n := 1000000) kd36_8.2.2.2.2.2.2.2.2.2.2.2 m_53_22 (by decide) ?_
  refine X_istoren hK (i := 2) [(2, .int (iI 1000000)), (1, .int (iI (z1 - 1))), (0, .ref a0)] kd36_9.1 rfl (by decide) rfl ?_
  refine X_iconst hK kd36_9.2.1 ?_
  refine X_istoren hK (i := 3) [(3, .int (iI 0)), (2, .int (iI 1000000)), (1, .int (iI (z1 - 1))), (0, .ref a0)] kd36_9.2.2.1 rfl (by decide) rfl ?_
  have P32 : ∀ (nP32 : Nat) (z27 : Int) (_ : 0 ≤ z27) (_ : z27 ≤ 1) (z28 : Int) (_ : (-2147483648) ≤ z28) (_ : z28 ≤ 1000000) (_ : 17 - z27 < (nP32 : Int)), X K E 14 [(3, .int (iI z27)), (2, .int (iI z28)), (1, .int (iI (z1 - 1))), (0, .ref a0)] [] S g 0 0 := by
    intro nP32
    induction nP32 with
    | zero => intro z27 lz27 uz27 z28 lz28 uz28 mP32; exact False.elim (by omega)
    | succ nP32 ihP32 =>
      intro z27 lz27 uz27 z28 lz28 uz28 mP32
      refine X_iloadn hK (i := 3) 0 kd36_9.2.2.2.1 rfl rfl ?_
      refine X_aloadn hK (i := 0) 3 kd36_9.2.2.2.2.1 rfl rfl ?_
      refine X_getK hK fl_X8_24_9 hs_a0 en0 kd36_9.2.2.2.2.2.1 ?_
      refine X_icmp_ge hK 44 (by omega) (by omega) kd36_9.2.2.2.2.2.2.1 (by decide) (fun c33 => ?_) (fun c33 => ?_)
      · refine X_iloadn hK (i := 2) 1 kd36_10.2.2.2.2.2.2.2.2.1 rfl rfl ?_
        exact hret _ _ _ _ _ _ _ kd36_10.2.2.2.2.2.2.2.2.2.1 ⟨rfl, rfl, z28, rfl, (by omega), (by omega)⟩ (Nat.le_refl _) (Nat.le_refl _)
      · refine X_iloadn hK (i := 2) 1 kd36_9.2.2.2.2.2.2.2.1 rfl rfl ?_
        refine X_aloadn hK (i := 0) 3 kd36_9.2.2.2.2.2.2.2.2.1 rfl rfl ?_
        refine X_getK hK fl_X8_21_9 hs_a0 ew0 kd36_9.2.2.2.2.2.2.2.2.2.1 ?_
        refine X_iloadn hK (i := 1) 2 kd36_9.2.2.2.2.2.2.2.2.2.2.1 rfl rfl ?_
        refine X_bipush hK kd36_9.2.2.2.2.2.2.2.2.2.2.2 (by decide) ?_
        refine X_imul hK kd36_10.1 ?_
        refine X_iloadn hK (i := 3) 0 kd36_10.2.1 rfl rfl ?_
        refine X_iadd hK kd36_10.2.2.1 ?_
        refine X_iald hK hs_w0 ⟨by decide, by decide, by omega⟩ sl_13400 (by omega) (by omega) kd36_10.2.2.2.1 (fun z34 ez34 lz34 uz34 => ?_)
        refine X_mmin hK mm_X8_68 ⟨by decide, by simp [Value.category]⟩ (by decide) (by omega) (by omega) kd36_10.2.2.2.2.1 (fun z35 ez35 fz35 => ?_)
        have bz35 : (-2147483648) ≤ z35 ∧ z35 ≤ 1000000 := by omega
        refine X_istoren hK (i := 2) [(2, .int (iI z35)), (3, .int (iI z27)), (1, .int (iI (z1 - 1))), (0, .ref a0)] kd36_10.2.2.2.2.2.1 rfl (by decide) rfl ?_
        refine X_iinc hK (i := 3) (z := z27) (n := 1) 1 [(3, .int (iI (z27 + 1))), (2, .int (iI z35)), (1, .int (iI (z1 - 1))), (0, .ref a0)] kd36_10.2.2.2.2.2.2.1 rfl (by decide) rfl ?_
        refine X_goto hK 14 kd36_10.2.2.2.2.2.2.2.1 (by decide) ?_
        exact ihP32  (z27 + 1) (by omega) (by omega) z35 (by omega) (by omega) (by omega)
  exact P32 ((17 - 0 : Int).toNat + 1) 0 (by omega) (by omega) 1000000 (by omega) (by omega) (by omega)

set_option maxHeartbeats 4000000 in
set_option maxRecDepth 100000 in
theorem c_nextOf_1 (l : Launch) (D : va_G) (kA : Nat → ClassId) (b0 : Nat) (t0 : Nat → Nat) (S : xT) (g : xG) (a0 : Nat) (a1 : Nat) (x2 : Int) (x3 : Int) (n0 : Int) (w0 nw0 : Nat) (hs_a0 : S a0 = some (9, 0)) (hs_a1 : S a1 = some (4, 0)) (hx2 : 1 ≤ x2 ∧ x2 ≤ 1) (hx3 : 0 ≤ x3 ∧ x3 ≤ 0) (hn0 : 1 ≤ n0 ∧ n0 ≤ 1) (en0 : g a0 4 = .int (iI n0)) (ew0 : g a0 3 = .ref w0) (hs_w0 : S w0 = some (13400, nw0)) (hp0 : 18 ≤ (nw0 : Int)) (hp1 : (nw0 : Int) ≤ 2147483647) : xMt l yX8_nextOf cX8_nextOf 7 (some .int) 0 0 0 0 D kA b0 t0 [] [.ref a0, .ref a1, .int (iI x2), .int (iI x3)] S g (fun (r : Option Value) (S1 : xT) (g1 : xG) => S = S1 ∧ g = g1 ∧ ∃ z : Int, r = some (.int (iI z)) ∧ (-1) ≤ z ∧ z ≤ 0) := by
  refine xEnterI (by decide) (by simp [lg_sl, Value.category]) [(0, .ref a0), (1, .ref a1), (2, .int (iI x2)), (3, .int (iI x3))] rfl ?_
  intro K E hK hret _ _ _
  refine X_aloadn hK (i := 0) 0 kd36_10.2.2.2.2.2.2.2.2.2.2.1 rfl rfl ?_
  refine X_getK hK fl_X8_21_9 hs_a0 ew0 kd36_10.2.2.2.2.2.2.2.2.2.2.2 ?_
  refine X_iloadn hK (i := 2) 2 kd36_11.1 rfl rfl ?_
  refine X_bipush hK kd36_11.2.1 (by decide) ?_
  refine X_imul hK kd36_11.2.2.1 ?_
  refine X_iloadn hK (i := 3) 3 kd36_11.2.2.2.1 rfl rfl ?_
  refine X_iadd hK kd36_11.2.2.2.2.1 ?_
  refine X_iald hK hs_w0 ⟨by decide, by decide, by omega⟩ sl_13400 (by omega) (by omega) kd36_11.2.2.2.2.2.1 (fun z1 ez1 lz1 uz1 => ?_)
  refine X_istore hK (i := 4) [(4, .int (iI z1)), (0, .ref a0), (1, .ref a1), (2, .int (iI x2)), (3, .int (iI x3))] kd36_11.2.2.2.2.2.2.1 (by decide) rfl ?_
  refine X_iconst hK kd36_11.2.2.2.2.2.2.2.1 ?_
  refine X_istore hK (i := 5) [(5, .int (iI 0)), (4, .int (iI z1)), (0, .ref a0), (1, .ref a1), (2, .int (iI x2)), (3, .int (iI x3))] kd36_11.2.2.2.2.2.2.2.2.1 (by decide) rfl ?_
  have P104 : ∀ (nP104 : Nat) (z87 : Int) (_ : 0 ≤ z87) (_ : z87 ≤ 1) (_ : 17 - z87 < (nP104 : Int)), X K E 16 [(5, .int (iI z87)), (4, .int (iI z1)), (0, .ref a0), (1, .ref a1), (2, .int (iI x2)), (3, .int (iI x3))] [] S g 0 0 := by
    intro nP104
    induction nP104 with
    | zero => intro z87 lz87 uz87 mP104; exact False.elim (by omega)
    | succ nP104 ihP104 =>
      intro z87 lz87 uz87 mP104
      refine X_iload hK (i := 5) 0 kd36_11.2.2.2.2.2.2.2.2.2.1 rfl ?_
      refine X_aloadn hK (i := 0) 2 kd36_11.2.2.2.2.2.2.2.2.2.2.1 rfl rfl ?_
      refine X_getK hK fl_X8_24_9 hs_a0 en0 kd36_11.2.2.2.2.2.2.2.2.2.2.2 ?_
      refine X_icmp_ge hK 96 (by omega) (by omega) kd36_12.1 (by decide) (fun c105 => ?_) (fun c105 => ?_)
      · refine X_iconst hK kd36_15.2.2.2.2.2.2.2.1 ?_
        exact hret _ _ _ _ _ _ _ kd36_15.2.2.2.2.2.2.2.2.1 ⟨rfl, rfl, (-1), rfl, (by omega), (by omega)⟩ (Nat.le_refl _) (Nat.le_refl _)
      · refine X_iload hK (i := 4) 1 kd36_12.2.1 rfl ?_
        refine X_ldc hK (n := 1000000) kd36_12.2.2.1 m_53_22 (by decide) ?_
        refine X_icmp_eq hK 96 (by omega) (by omega) kd36_12.2.2.2.1 (by decide) (fun c106 => ?_) (fun c106 => ?_)
        · refine X_iconst hK kd36_15.2.2.2.2.2.2.2.1 ?_
          exact hret _ _ _ _ _ _ _ kd36_15.2.2.2.2.2.2.2.2.1 ⟨rfl, rfl, (-1), rfl, (by omega), (by omega)⟩ (Nat.le_refl _) (Nat.le_refl _)
        · refine X_iload hK (i := 4) 1 kd36_12.2.2.2.2.1 rfl ?_
          refine X_aloadn hK (i := 1) 3 kd36_12.2.2.2.2.2.1 rfl rfl ?_
          refine X_getr hK 11604 10 fl_X8_62_4 hs_a1 sl_4_6 kd36_12.2.2.2.2.2.2.1 (fun b107 eb107 hs_b107 => ?_)
          refine X_aloadn hK (i := 0) 2 kd36_12.2.2.2.2.2.2.2.1 rfl rfl ?_
          refine X_getr hK 13100 9 fl_X8_11_9 hs_a0 sl_9_0 kd36_12.2.2.2.2.2.2.2.2.1 (fun b108 eb108 hs_b108 => ?_)
          refine X_iloadn hK (i := 3) 5 kd36_12.2.2.2.2.2.2.2.2.2.1 rfl rfl ?_
          refine X_iald hK hs_b108 (by decide) sl_13100 (by omega) (by omega) kd36_12.2.2.2.2.2.2.2.2.2.2.1 (fun z109 ez109 lz109 uz109 => ?_)
          refine X_aald hK 11500 10 hs_b107 (by decide) sl_11604 (by omega) (by omega) kd36_12.2.2.2.2.2.2.2.2.2.2.2 (fun b110 eb110 hs_b110 => ?_)
          refine X_aloadn hK (i := 0) 2 kd36_13.1 rfl rfl ?_
          refine X_getK hK fl_X8_11_9 hs_a0 eb108 kd36_13.2.1 ?_
          refine X_iload hK (i := 5) 0 kd36_13.2.2.1 rfl ?_
          refine X_iald hK hs_b108 (by decide) sl_13100 (by omega) (by omega) kd36_13.2.2.2.1 (fun z111 ez111 lz111 uz111 => ?_)
          refine X_iald hK hs_b110 (by decide) sl_11500 (by omega) (by omega) kd36_13.2.2.2.2.1 (fun z112 ez112 lz112 uz112 => ?_)
          refine X_iadd hK kd36_13.2.2.2.2.2.1 ?_
          refine X_norm (fun z113 ez113 lz113 uz113 => ?_)
          refine X_istore hK (i := 6) [(6, .int (iI z113)), (5, .int (iI z87)), (4, .int (iI z1)), (0, .ref a0), (1, .ref a1), (2, .int (iI x2)), (3, .int (iI x3))] kd36_13.2.2.2.2.2.2.1 (by decide) rfl ?_
          refine X_iloadn hK (i := 2) 5 kd36_13.2.2.2.2.2.2.2.1 rfl rfl ?_
          refine X_iload hK (i := 5) 1 kd36_13.2.2.2.2.2.2.2.2.1 rfl ?_
          refine X_ishr hK kd36_13.2.2.2.2.2.2.2.2.2.1 (fun z114 ez114 lz114 uz114 => ?_)
          refine X_iconst hK kd36_13.2.2.2.2.2.2.2.2.2.2.1 ?_
          refine X_iand hK kd36_13.2.2.2.2.2.2.2.2.2.2.2 (fun z115 ez115 lz115 uz115 => ?_)
          have bz115 := xandB ez115 ⟨lz115, uz115⟩ (by omega)
          refine X_if_ne hK 90 (by omega) kd36_14.1 (by decide) (fun c116 => ?_) (fun c116 => ?_)
          · refine X_iinc hK (i := 5) (z := z87) (n := 1) 1 [(5, .int (iI (z87 + 1))), (6, .int (iI z113)), (4, .int (iI z1)), (0, .ref a0), (1, .ref a1), (2, .int (iI x2)), (3, .int (iI x3))] kd36_15.2.2.2.2.2.1 rfl (by decide) rfl ?_
            refine X_goto hK 16 kd36_15.2.2.2.2.2.2.1 (by decide) ?_
            refine X_lv [(5, .int (iI (z87 + 1))), (4, .int (iI z1)), (0, .ref a0), (1, .ref a1), (2, .int (iI x2)), (3, .int (iI x3))] [0, 2, 3, 4, 5, 6] rfl ?_
            exact ihP104  (z87 + 1) (by omega) (by omega) (by omega)
          · refine X_aloadn hK (i := 0) 3 kd36_14.2.1 rfl rfl ?_
            refine X_getK hK fl_X8_21_9 hs_a0 ew0 kd36_14.2.2.1 ?_
            refine X_iloadn hK (i := 2) 5 kd36_14.2.2.2.1 rfl rfl ?_
            refine X_iconst hK kd36_14.2.2.2.2.1 ?_
            refine X_iload hK (i := 5) 1 kd36_14.2.2.2.2.2.1 rfl ?_
            refine X_ishl hK kd36_14.2.2.2.2.2.2.1 (fun z117 ez117 lz117 uz117 => ?_)
            have bz117 := xshlB 0 ez117 ⟨lz117, uz117⟩ (by omega) (by decide)
            refine X_ior hK kd36_14.2.2.2.2.2.2.2.1 (fun z118 ez118 lz118 uz118 => ?_)
            have bz118 := xiorB 1 ez118 ⟨lz118, uz118⟩ (by omega) (by omega) (by decide)
            refine X_bipush hK kd36_14.2.2.2.2.2.2.2.2.1 (by decide) ?_
            refine X_imul hK kd36_14.2.2.2.2.2.2.2.2.2.1 ?_
            refine X_iload hK (i := 5) 1 kd36_14.2.2.2.2.2.2.2.2.2.2.1 rfl ?_
            refine X_iadd hK kd36_14.2.2.2.2.2.2.2.2.2.2.2 ?_
            refine X_iald hK hs_w0 ⟨by decide, by decide, by omega⟩ sl_13400 (by omega) (by omega) kd36_15.1 (fun z119 ez119 lz119 uz119 => ?_)
            refine X_iload hK (i := 6) 0 kd36_15.2.1 rfl ?_
            refine X_icmp_ne hK 90 (by omega) (by omega) kd36_15.2.2.1 (by decide) (fun c120 => ?_) (fun c120 => ?_)
            · refine X_iinc hK (i := 5) (z := z87) (n := 1) 1 [(5, .int (iI (z87 + 1))), (6, .int (iI z113)), (4, .int (iI z1)), (0, .ref a0), (1, .ref a1), (2, .int (iI x2)), (3, .int (iI x3))] kd36_15.2.2.2.2.2.1 rfl (by decide) rfl ?_
              refine X_goto hK 16 kd36_15.2.2.2.2.2.2.1 (by decide) ?_
              refine X_lv [(5, .int (iI (z87 + 1))), (4, .int (iI z1)), (0, .ref a0), (1, .ref a1), (2, .int (iI x2)), (3, .int (iI x3))] [0, 2, 3, 4, 5, 6] rfl ?_
              exact ihP104  (z87 + 1) (by omega) (by omega) (by omega)
            · refine X_iload hK (i := 5) 1 kd36_15.2.2.2.1 rfl ?_
              exact hret _ _ _ _ _ _ _ kd36_15.2.2.2.2.1 ⟨rfl, rfl, z87, rfl, (by omega), (by omega)⟩ (Nat.le_refl _) (Nat.le_refl _)
  exact P104 ((17 - 0 : Int).toNat + 1) 0 (by omega) (by omega) (by omega)

set_option maxHeartbeats 4000000 in
set_option maxRecDepth 100000 in
theorem c_dropOthers_1 (l : Launch) (D : va_G) (kA : Nat → ClassId) (b0 : Nat) (t0 : Nat → Nat) (S : xT) (g : xG) (a0 : Nat) (a1 : Nat) (x2 : Int) (n0 : Int) (w0 nw0 : Nat) (hs_a0 : S a0 = some (9, 0)) (hs_a1 : S a1 = some (4, 0)) (hx2 : (-2147483648) ≤ x2 ∧ x2 ≤ 2147483647) (hn0 : 1 ≤ n0 ∧ n0 ≤ 1) (en0 : g a0 4 = .int (iI n0)) (ew0 : g a0 3 = .ref w0) (hs_w0 : S w0 = some (13400, nw0)) (hp0 : 18 ≤ (nw0 : Int)) (hp1 : (nw0 : Int) ≤ 2147483647) : xMt l yX8_dropOthers cX8_dropOthers 8 none 1 0 0 26 D kA b0 t0 [(13400, 0)] [.ref a0, .ref a1, .int (iI x2)] S g (fun (r : Option Value) (S1 : xT) (g1 : xG) => S = S1 ∧ r = none) := by
  refine xEnterV (by decide) (by simp [lg_sl, Value.category]) [(0, .ref a0), (1, .ref a1), (2, .int (iI x2))] rfl ?_
  intro K E hK hret _ _ _
  refine X_iconst hK kd36_0.1 ?_
  refine X_aloadn hK (i := 0) 0 kd36_0.2.1 rfl rfl ?_
  refine X_getK hK fl_X8_24_9 hs_a0 en0 kd36_0.2.2.1 ?_
  refine X_ishl hK kd36_0.2.2.2.1 (fun z1 ez1 lz1 uz1 => ?_)
  have bz1 := xshlB 1 ez1 ⟨lz1, uz1⟩ (by omega) (by decide)
  refine X_iconst hK kd36_0.2.2.2.2.1 ?_
  refine X_isub hK kd36_0.2.2.2.2.2.1 ?_
  refine X_istoren hK (i := 3) [(3, .int (iI (z1 - 1))), (0, .ref a0), (1, .ref a1), (2, .int (iI x2))] kd36_0.2.2.2.2.2.2.1 rfl (by decide) rfl ?_
  refine X_iloadn hK (i := 3) 0 kd36_0.2.2.2.2.2.2.2.1 rfl rfl ?_
  refine X_istore hK (i := 4) [(4, .int (iI (z1 - 1))), (3, .int (iI (z1 - 1))), (0, .ref a0), (1, .ref a1), (2, .int (iI x2))] kd36_0.2.2.2.2.2.2.2.2.1 (by decide) rfl ?_
  have P1541 : ∀ (nP1541 : Nat) (g1234 : xG) (_ : xM [(13400, 0)] S g g1234) (z1233 : Int) (_ : 0 ≤ z1233) (_ : z1233 ≤ 1) (_ : z1233 - (-16) < (nP1541 : Int)), X K E 12 [(4, .int (iI z1233)), (3, .int (iI (z1 - 1))), (0, .ref a0), (1, .ref a1), (2, .int (iI x2))] [] S g1234 0 0 := by
    intro nP1541
    induction nP1541 with
    | zero => intro g1234 hg1234 z1233 lz1233 uz1233 mP1541; exact False.elim (by omega)
    | succ nP1541 ihP1541 =>
      intro g1234 hg1234 z1233 lz1233 uz1233 mP1541
      refine X_iload hK (i := 4) 0 kd36_0.2.2.2.2.2.2.2.2.2.1 rfl ?_
      refine X_if_le hK 110 (by omega) kd36_0.2.2.2.2.2.2.2.2.2.2.1 (by decide) (fun c1542 => ?_) (fun c1542 => ?_)
      · exact hret _ _ _ _ _ _ kd36_4.2.2.2.2.2.2.2.2.2.2.1 ⟨rfl, rfl⟩ (Nat.le_refl _) (Nat.le_refl _)
      · refine X_iconst hK kd36_0.2.2.2.2.2.2.2.2.2.2.2 ?_
        refine X_istore hK (i := 5) [(5, .int (iI 0)), (4, .int (iI z1233)), (3, .int (iI (z1 - 1))), (0, .ref a0), (1, .ref a1), (2, .int (iI x2))] kd36_1.1 (by decide) rfl ?_
        have P1802 : ∀ (nP1802 : Nat) (g1756 : xG) (_ : xM [(13400, 0)] S g1234 g1756) (z1755 : Int) (_ : 0 ≤ z1755) (_ : z1755 ≤ 1) (_ : 17 - z1755 < (nP1802 : Int)), X K E 20 [(5, .int (iI z1755)), (4, .int (iI z1233)), (3, .int (iI (z1 - 1))), (0, .ref a0), (1, .ref a1), (2, .int (iI x2))] [] S g1756 0 0 := by
          intro nP1802
          induction nP1802 with
          | zero => intro g1756 hg1756 z1755 lz1755 uz1755 mP1802; exact False.elim (by omega)
          | succ nP1802 ihP1802 =>
            intro g1756 hg1756 z1755 lz1755 uz1755 mP1802
            refine X_iload hK (i := 5) 0 kd36_1.2.1 rfl ?_
            refine X_aloadn hK (i := 0) 3 kd36_1.2.2.1 rfl rfl ?_
            refine X_getK hK fl_X8_24_9 hs_a0 ((hg1756 a0 9 0 4 hs_a0 (by decide)).trans ((hg1234 a0 9 0 4 hs_a0 (by decide)).trans en0)) kd36_1.2.2.2.1 ?_
            refine X_icmp_ge hK 104 (by omega) (by omega) kd36_1.2.2.2.2.1 (by decide) (fun c1803 => ?_) (fun c1803 => ?_)
            · refine X_iinc hK (i := 4) (z := z1233) (n := (-1)) 1 [(4, .int (iI (z1233 + (-1)))), (5, .int (iI z1755)), (3, .int (iI (z1 - 1))), (0, .ref a0), (1, .ref a1), (2, .int (iI x2))] kd36_4.2.2.2.2.2.2.2.2.1 rfl (by decide) rfl ?_
              refine X_goto hK 12 kd36_4.2.2.2.2.2.2.2.2.2.1 (by decide) ?_
              refine X_lv [(4, .int (iI (z1233 + (-1)))), (3, .int (iI (z1 - 1))), (0, .ref a0), (1, .ref a1), (2, .int (iI x2))] [0, 2, 3, 4, 5] rfl ?_
              exact ihP1541  g1756 (xM.tr (xM.tr xM.rf xLe.rf hg1234 (by decide)) xLe.rf hg1756 (by decide)) (z1233 + (-1)) (by omega) (by omega) (by omega)
            · refine X_iload hK (i := 4) 1 kd36_1.2.2.2.2.2.1 rfl ?_
              refine X_bipush hK kd36_1.2.2.2.2.2.2.1 (by decide) ?_
              refine X_imul hK kd36_1.2.2.2.2.2.2.2.1 ?_
              refine X_iload hK (i := 5) 0 kd36_1.2.2.2.2.2.2.2.2.1 rfl ?_
              refine X_iadd hK kd36_1.2.2.2.2.2.2.2.2.2.1 ?_
              refine X_istore hK (i := 6) [(6, .int (iI ((z1233 * 9) + z1755))), (5, .int (iI z1755)), (4, .int (iI z1233)), (3, .int (iI (z1 - 1))), (0, .ref a0), (1, .ref a1), (2, .int (iI x2))] kd36_1.2.2.2.2.2.2.2.2.2.2.1 (by decide) rfl ?_
              refine X_iload hK (i := 4) 2 kd36_1.2.2.2.2.2.2.2.2.2.2.2 rfl ?_
              refine X_iloadn hK (i := 3) 3 kd36_2.1 rfl rfl ?_
              have J1835 : ∀ (z1834 : Int) (lz1834 : 0 ≤ z1834) (uz1834 : z1834 ≤ 1), X K E 82 [(6, .int (iI ((z1233 * 9) + z1755))), (5, .int (iI z1755)), (4, .int (iI z1233)), (3, .int (iI (z1 - 1))), (0, .ref a0), (1, .ref a1), (2, .int (iI x2))] [.int (iI z1834)] S g1756 0 0 := by
                intro z1834 lz1834 uz1834
                refine X_istore hK (i := 7) [(7, .int (iI z1834)), (6, .int (iI ((z1233 * 9) + z1755))), (5, .int (iI z1755)), (4, .int (iI z1233)), (3, .int (iI (z1 - 1))), (0, .ref a0), (1, .ref a1), (2, .int (iI x2))] kd36_3.2.2.2.2.2.2.2.2.2.2.1 (by decide) rfl ?_
                refine X_iload hK (i := 7) 0 kd36_3.2.2.2.2.2.2.2.2.2.2.2 rfl ?_
                have J1838 : ∀ (g1839 : xG) (hg1839 : xM [(13400, 0)] S g1756 g1839), X K E 98 [(7, .int (iI z1834)), (6, .int (iI ((z1233 * 9) + z1755))), (5, .int (iI z1755)), (4, .int (iI z1233)), (3, .int (iI (z1 - 1))), (0, .ref a0), (1, .ref a1), (2, .int (iI x2))] [] S g1839 0 0 := by
                  intro g1839 hg1839
                  refine X_iinc hK (i := 5) (z := z1755) (n := 1) 2 [(5, .int (iI (z1755 + 1))), (7, .int (iI z1834)), (6, .int (iI ((z1233 * 9) + z1755))), (4, .int (iI z1233)), (3, .int (iI (z1 - 1))), (0, .ref a0), (1, .ref a1), (2, .int (iI x2))] kd36_4.2.2.2.2.2.2.1 rfl (by decide) rfl ?_
                  refine X_goto hK 20 kd36_4.2.2.2.2.2.2.2.1 (by decide) ?_
                  refine X_lv [(5, .int (iI (z1755 + 1))), (4, .int (iI z1233)), (3, .int (iI (z1 - 1))), (0, .ref a0), (1, .ref a1), (2, .int (iI x2))] [0, 3, 4, 5, 6, 7] rfl ?_
                  exact ihP1802  g1839 (xM.tr (xM.tr xM.rf xLe.rf hg1756 (by decide)) xLe.rf hg1839 (by decide)) (z1755 + 1) (by omega) (by omega) (by omega)
                refine X_if_ne hK 98 (by omega) kd36_4.1 (by decide) (fun c1836 => ?_) (fun c1836 => ?_)
                · exact J1838 g1756 xM.rf
                · refine X_aloadn hK (i := 0) 5 kd36_4.2.1 rfl rfl ?_
                  refine X_getK hK fl_X8_21_9 hs_a0 ((hg1756 a0 9 0 3 hs_a0 (by decide)).trans ((hg1234 a0 9 0 3 hs_a0 (by decide)).trans ew0)) kd36_4.2.2.1 ?_
                  refine X_iload hK (i := 6) 1 kd36_4.2.2.2.1 rfl ?_
                  refine X_ldc hK (n := 1000000) kd36_4.2.2.2.2.1 m_53_22 (by decide) ?_
                  refine X_iast hK hs_w0 ⟨by decide, by decide, by decide, by omega⟩ (by decide) sl_13400 (by omega) (by omega) (by omega) (by omega) kd36_4.2.2.2.2.2.1 (fun g1840 hg1840 => ?_)
                  exact J1838 g1840 (xM_ua xM.rf hg1840 hs_w0 (by decide) (by decide))
              refine X_icmp_ne hK 64 (by omega) (by omega) kd36_2.2.1 (by decide) (fun c1826 => ?_) (fun c1826 => ?_)
              · refine X_aloadn hK (i := 0) 4 kd36_3.1 rfl rfl ?_
                refine X_aloadn hK (i := 1) 5 kd36_3.2.1 rfl rfl ?_
                refine X_iload hK (i := 4) 2 kd36_3.2.2.1 rfl ?_
                refine X_iload hK (i := 5) 1 kd36_3.2.2.2.1 rfl ?_
                refine X_callV hK [.ref a1, .int (iI z1233), .int (iI z1755)] [] lk_X8_74 (c_nextOf_1 _ _ _ _ _ S g1756 a0 a1 z1233 z1755 n0 w0 nw0 hs_a0 hs_a1 (by omega) (by omega) (by omega) ((hg1756 a0 9 0 4 hs_a0 (by decide)).trans ((hg1234 a0 9 0 4 hs_a0 (by decide)).trans en0)) ((hg1756 a0 9 0 3 hs_a0 (by decide)).trans ((hg1234 a0 9 0 3 hs_a0 (by decide)).trans ew0)) hs_w0 (by omega) (by omega)) hs_a0 ⟨by decide, rfl⟩ kd36_3.2.2.2.2.1 rfl rfl (by simp [Value.category]) (by decide) (by decide) (by decide) (by decide) (fun r1841 S1843 g1842 pr1841 qr1841 hg1842 => ?_)
                obtain ⟨rfl, rfl, z1844, rfl, lz1844, uz1844⟩ := pr1841
                refine X_st [.int (iI z1844)] rfl ?_
                refine X_iconst hK kd36_3.2.2.2.2.2.1 ?_
                refine X_icmp_eq hK 81 (by omega) (by omega) kd36_3.2.2.2.2.2.2.1 (by decide) (fun c1845 => ?_) (fun c1845 => ?_)
                · refine X_iconst hK kd36_3.2.2.2.2.2.2.2.2.2.1 ?_
                  exact J1835 0 (by omega) (by omega)
                · refine X_iconst hK kd36_3.2.2.2.2.2.2.2.1 ?_
                  refine X_goto hK 82 kd36_3.2.2.2.2.2.2.2.2.1 (by decide) ?_
                  exact J1835 1 (by omega) (by omega)
              · refine X_aloadn hK (i := 0) 4 kd36_2.2.2.1 rfl rfl ?_
                refine X_getK hK fl_X8_21_9 hs_a0 ((hg1756 a0 9 0 3 hs_a0 (by decide)).trans ((hg1234 a0 9 0 3 hs_a0 (by decide)).trans ew0)) kd36_2.2.2.2.1 ?_
                refine X_iload hK (i := 6) 0 kd36_2.2.2.2.2.1 rfl ?_
                refine X_iald hK hs_w0 ⟨by decide, by decide, by omega⟩ sl_13400 (by omega) (by omega) kd36_2.2.2.2.2.2.1 (fun z1846 ez1846 lz1846 uz1846 => ?_)
                refine X_iloadn hK (i := 2) 6 kd36_2.2.2.2.2.2.2.1 rfl rfl ?_
                refine X_icmp_ne hK 60 (by omega) (by omega) kd36_2.2.2.2.2.2.2.2.1 (by decide) (fun c1847 => ?_) (fun c1847 => ?_)
                · refine X_iconst hK kd36_2.2.2.2.2.2.2.2.2.2.2.1 ?_
                  refine X_goto hK 82 kd36_2.2.2.2.2.2.2.2.2.2.2.2 (by decide) ?_
                  exact J1835 0 (by omega) (by omega)
                · refine X_iconst hK kd36_2.2.2.2.2.2.2.2.2.1 ?_
                  refine X_goto hK 82 kd36_2.2.2.2.2.2.2.2.2.2.1 (by decide) ?_
                  exact J1835 1 (by omega) (by omega)
        exact P1802 ((17 - 0 : Int).toNat + 1) g1234 xM.rf 0 (by omega) (by omega) (by omega)
  exact P1541 (((z1 - 1) - (-16) : Int).toNat + 1) g xM.rf (z1 - 1) (by omega) (by omega) (by omega)

set_option maxHeartbeats 4000000 in
set_option maxRecDepth 100000 in
theorem c_walk_1 (l : Launch) (D : va_G) (kA : Nat → ClassId) (b0 : Nat) (t0 : Nat → Nat) (S : xT) (g : xG) (a0 : Nat) (a1 : Nat) (n0 : Int) (w0 nw0 : Nat) (hs_a0 : S a0 = some (9, 0)) (hs_a1 : S a1 = some (4, 0)) (hn0 : 1 ≤ n0 ∧ n0 ≤ 1) (en0 : g a0 4 = .int (iI n0)) (ew0 : g a0 3 = .ref w0) (hs_w0 : S w0 = some (13400, nw0)) (hp0 : 18 ≤ (nw0 : Int)) (hp1 : (nw0 : Int) ≤ 2147483647) : xMt l yX8_walk cX8_walk 5 none 1 0 0 26 D kA b0 t0 [(9, 5), (13300, 0)] [.ref a0, .ref a1] S g (fun (r : Option Value) (S1 : xT) (g1 : xG) => S = S1 ∧ r = none) := by
  refine xEnterV (by decide) (by simp [lg_sl, Value.category]) [(0, .ref a0), (1, .ref a1)] rfl ?_
  intro K E hK hret _ _ _
  refine X_iconst hK kd36_20.2.2.2.2.2.2.2.2.2.1 ?_
  refine X_istoren hK (i := 2) [(2, .int (iI (-1))), (0, .ref a0), (1, .ref a1)] kd36_20.2.2.2.2.2.2.2.2.2.2.1 rfl (by decide) rfl ?_
  refine X_aloadn hK (i := 0) 1 kd36_20.2.2.2.2.2.2.2.2.2.2.2 rfl rfl ?_
  refine X_getK hK fl_X8_24_9 hs_a0 en0 kd36_21.1 ?_
  refine X_iconst hK kd36_21.2.1 ?_
  refine X_isub hK kd36_21.2.2.1 ?_
  refine X_istoren hK (i := 3) [(3, .int (iI (n0 - 1))), (2, .int (iI (-1))), (0, .ref a0), (1, .ref a1)] kd36_21.2.2.2.1 rfl (by decide) rfl ?_
  have P595 : ∀ (nP595 : Nat) (z459 : Int) (_ : (-1) ≤ z459) (_ : z459 ≤ 0) (z460 : Int) (_ : (-1) ≤ z460) (_ : z460 ≤ 0) (_ : z459 - (-17) < (nP595 : Int)), X K E 9 [(3, .int (iI z459)), (2, .int (iI z460)), (0, .ref a0), (1, .ref a1)] [] S g 0 0 := by
    intro nP595
    induction nP595 with
    | zero => intro z459 lz459 uz459 z460 lz460 uz460 mP595; exact False.elim (by omega)
    | succ nP595 ihP595 =>
      intro z459 lz459 uz459 z460 lz460 uz460 mP595
      refine X_iloadn hK (i := 3) 0 kd36_21.2.2.2.2.1 rfl rfl ?_
      refine X_if_lt hK 39 (by omega) kd36_21.2.2.2.2.2.1 (by decide) (fun c596 => ?_) (fun c596 => ?_)
      · refine X_iconst hK kd36_22.2.2.2.2.2.2.2.2.2.2.1 ?_
        refine X_istoren hK (i := 3) [(3, .int (iI 0)), (2, .int (iI z460)), (0, .ref a0), (1, .ref a1)] kd36_22.2.2.2.2.2.2.2.2.2.2.2 rfl (by decide) rfl ?_
        refine X_aloadn hK (i := 0) 2 kd36_23.1 rfl rfl ?_
        refine X_iconst hK kd36_23.2.1 ?_
        refine X_puti hK fl_X8_28_9 hs_a0 (by decide) sl_9_5 (by omega) (by omega) kd36_23.2.2.1 (fun g602 hg602 => ?_)
        refine X_iconst hK kd36_23.2.2.2.1 ?_
        refine X_istore hK (i := 4) [(4, .int (iI 0)), (3, .int (iI 0)), (2, .int (iI z460)), (0, .ref a0), (1, .ref a1)] kd36_23.2.2.2.2.1 (by decide) rfl ?_
        have P710 : ∀ (nP710 : Nat) (g695 : xG) (_ : xM [(9, 5), (13300, 0)] S g602 g695) (z692 : Int) (_ : 0 ≤ z692) (_ : z692 ≤ 1) (z693 : Int) (_ : 0 ≤ z693) (_ : z693 ≤ 1) (z694 : Int) (_ : (-1) ≤ z694) (_ : z694 ≤ 0) (q696 : Int) (_ : 0 ≤ q696) (_ : q696 ≤ 9) (_ : g695 a0 5 = .int (iI q696)) (_ : q696 ≤ z692) (_ : 17 - z692 < (nP710 : Int)), X K E 49 [(4, .int (iI z692)), (3, .int (iI z693)), (2, .int (iI z694)), (0, .ref a0), (1, .ref a1)] [] S g695 0 0 := by
          intro nP710
          induction nP710 with
          | zero => intro g695 hg695 z692 lz692 uz692 z693 lz693 uz693 z694 lz694 uz694 q696 lq696 uq696 eq696 v711 mP710; exact False.elim (by omega)
          | succ nP710 ihP710 =>
            intro g695 hg695 z692 lz692 uz692 z693 lz693 uz693 z694 lz694 uz694 q696 lq696 uq696 eq696 v711 mP710
            refine X_iload hK (i := 4) 0 kd36_23.2.2.2.2.2.1 rfl ?_
            refine X_aloadn hK (i := 0) 3 kd36_23.2.2.2.2.2.2.1 rfl rfl ?_
            refine X_getK hK fl_X8_24_9 hs_a0 ((hg695 a0 9 0 4 hs_a0 (by decide)).trans ((xs_k hg602 (by decide)).trans en0)) kd36_23.2.2.2.2.2.2.2.1 ?_
            refine X_icmp_ge hK 106 (by omega) (by omega) kd36_23.2.2.2.2.2.2.2.2.1 (by decide) (fun c712 => ?_) (fun c712 => ?_)
            · exact hret _ _ _ _ _ _ kd36_26.2.2.2.2 ⟨rfl, rfl⟩ (Nat.le_refl _) (Nat.le_refl _)
            · refine X_iloadn hK (i := 2) 2 kd36_23.2.2.2.2.2.2.2.2.2.1 rfl rfl ?_
              refine X_iconst hK kd36_23.2.2.2.2.2.2.2.2.2.2.1 ?_
              refine X_icmp_eq hK 106 (by omega) (by omega) kd36_23.2.2.2.2.2.2.2.2.2.2.2 (by decide) (fun c713 => ?_) (fun c713 => ?_)
              · exact hret _ _ _ _ _ _ kd36_26.2.2.2.2 ⟨rfl, rfl⟩ (Nat.le_refl _) (Nat.le_refl _)
              · refine X_aloadn hK (i := 0) 3 kd36_24.1 rfl rfl ?_
                refine X_getr hK 13300 9 fl_X8_18_9 hs_a0 sl_9_2 kd36_24.2.1 (fun b714 eb714 hs_b714 => ?_)
                refine X_iload hK (i := 4) 0 kd36_24.2.2.1 rfl ?_
                refine X_aloadn hK (i := 0) 3 kd36_24.2.2.2.1 rfl rfl ?_
                refine X_getr hK 13100 9 fl_X8_11_9 hs_a0 sl_9_0 kd36_24.2.2.2.2.1 (fun b715 eb715 hs_b715 => ?_)
                refine X_iloadn hK (i := 2) 2 kd36_24.2.2.2.2.2.1 rfl rfl ?_
                refine X_iald hK hs_b715 (by decide) sl_13100 (by omega) (by omega) kd36_24.2.2.2.2.2.2.1 (fun z716 ez716 lz716 uz716 => ?_)
                refine X_iast hK hs_b714 (by decide) (by decide) sl_13300 (by omega) (by omega) (by omega) (by omega) kd36_24.2.2.2.2.2.2.2.1 (fun g717 hg717 => ?_)
                refine X_aloadn hK (i := 0) 3 kd36_24.2.2.2.2.2.2.2.2.1 rfl rfl ?_
                refine X_dup hK kd36_24.2.2.2.2.2.2.2.2.2.1 rfl ?_
                refine X_getK hK fl_X8_28_9 hs_a0 ((xs_a hg717 (xne hs_a0 hs_b714 (by decide))).trans eq696) kd36_24.2.2.2.2.2.2.2.2.2.2.1 ?_
                refine X_iconst hK kd36_24.2.2.2.2.2.2.2.2.2.2.2 ?_
                refine X_iadd hK kd36_25.1 ?_
                refine X_puti hK fl_X8_28_9 hs_a0 (by decide) sl_9_5 (by omega) (by omega) kd36_25.2.1 (fun g718 hg718 => ?_)
                refine X_iloadn hK (i := 3) 1 kd36_25.2.2.1 rfl rfl ?_
                refine X_iconst hK kd36_25.2.2.2.1 ?_
                refine X_iloadn hK (i := 2) 2 kd36_25.2.2.2.2.1 rfl rfl ?_
                refine X_ishl hK kd36_25.2.2.2.2.2.1 (fun z719 ez719 lz719 uz719 => ?_)
                have bz719 := xshlB 0 ez719 ⟨lz719, uz719⟩ (by omega) (by decide)
                refine X_ior hK kd36_25.2.2.2.2.2.2.1 (fun z720 ez720 lz720 uz720 => ?_)
                have bz720 := xiorB 1 ez720 ⟨lz720, uz720⟩ (by omega) (by omega) (by decide)
                have gz720 := xiorG ez720 ⟨lz720, uz720⟩ (by omega) (by omega)
                refine X_istoren hK (i := 3) [(3, .int (iI z720)), (4, .int (iI z692)), (2, .int (iI z694)), (0, .ref a0), (1, .ref a1)] kd36_25.2.2.2.2.2.2.2.1 rfl (by decide) rfl ?_
                refine X_aloadn hK (i := 0) 3 kd36_25.2.2.2.2.2.2.2.2.1 rfl rfl ?_
                refine X_aloadn hK (i := 1) 4 kd36_25.2.2.2.2.2.2.2.2.2.1 rfl rfl ?_
                refine X_iloadn hK (i := 3) 0 kd36_25.2.2.2.2.2.2.2.2.2.2.1 rfl rfl ?_
                refine X_iloadn hK (i := 2) 2 kd36_25.2.2.2.2.2.2.2.2.2.2.2 rfl rfl ?_
                refine X_callV hK [.ref a1, .int (iI z720), .int (iI z694)] [] lk_X8_74 (c_nextOf_1 _ _ _ _ _ S g718 a0 a1 z720 z694 n0 w0 nw0 hs_a0 hs_a1 (by omega) (by omega) (by omega) ((xs_k hg718 (by decide)).trans ((xs_a hg717 (xne hs_a0 hs_b714 (by decide))).trans ((hg695 a0 9 0 4 hs_a0 (by decide)).trans ((xs_k hg602 (by decide)).trans en0)))) ((xs_k hg718 (by decide)).trans ((xs_a hg717 (xne hs_a0 hs_b714 (by decide))).trans ((hg695 a0 9 0 3 hs_a0 (by decide)).trans ((xs_k hg602 (by decide)).trans ew0)))) hs_w0 (by omega) (by omega)) hs_a0 ⟨by decide, rfl⟩ kd36_26.1 rfl rfl (by simp [Value.category]) (by decide) (by decide) (by decide) (by decide) (fun r721 S723 g722 pr721 qr721 hg722 => ?_)
                obtain ⟨rfl, rfl, z724, rfl, lz724, uz724⟩ := pr721
                refine X_st [.int (iI z724)] rfl ?_
                refine X_istoren hK (i := 2) [(2, .int (iI z724)), (3, .int (iI z720)), (4, .int (iI z692)), (0, .ref a0), (1, .ref a1)] kd36_26.2.1 rfl (by decide) rfl ?_
                refine X_iinc hK (i := 4) (z := z692) (n := 1) 2 [(4, .int (iI (z692 + 1))), (2, .int (iI z724)), (3, .int (iI z720)), (0, .ref a0), (1, .ref a1)] kd36_26.2.2.1 rfl (by decide) rfl ?_
                refine X_goto hK 49 kd36_26.2.2.2.1 (by decide) ?_
                refine X_lv [(4, .int (iI (z692 + 1))), (3, .int (iI z720)), (2, .int (iI z724)), (0, .ref a0), (1, .ref a1)] [0, 2, 1, 3, 4] rfl ?_
                exact ihP710  g718 (xM_up (xM_ua (xM.tr xM.rf xLe.rf hg695 (by decide)) hg717 hs_b714 (by decide) (by decide)) hg718 hs_a0 (by decide) (by decide)) (z692 + 1) (by omega) (by omega) z720 (by omega) (by omega) z724 (by omega) (by omega) (q696 + 1) (by omega) (by omega) (xs_s hg718) (by omega) (by omega)
        exact P710 ((17 - 0 : Int).toNat + 1) g602 xM.rf 0 (by omega) (by omega) 0 (by omega) (by omega) z460 (by omega) (by omega) 0 (by omega) (by omega) (xs_s hg602) (by omega) (by omega)
      · refine X_aloadn hK (i := 0) 2 kd36_21.2.2.2.2.2.2.1 rfl rfl ?_
        refine X_getK hK fl_X8_21_9 hs_a0 ew0 kd36_21.2.2.2.2.2.2.2.1 ?_
        refine X_iconst hK kd36_21.2.2.2.2.2.2.2.2.1 ?_
        refine X_iloadn hK (i := 3) 0 kd36_21.2.2.2.2.2.2.2.2.2.1 rfl rfl ?_
        refine X_ishl hK kd36_21.2.2.2.2.2.2.2.2.2.2.1 (fun z725 ez725 lz725 uz725 => ?_)
        have bz725 := xshlB 0 ez725 ⟨lz725, uz725⟩ (by omega) (by decide)
        refine X_bipush hK kd36_21.2.2.2.2.2.2.2.2.2.2.2 (by decide) ?_
        refine X_imul hK kd36_22.1 ?_
        refine X_iloadn hK (i := 3) 0 kd36_22.2.1 rfl rfl ?_
        refine X_iadd hK kd36_22.2.2.1 ?_
        refine X_iald hK hs_w0 ⟨by decide, by decide, by omega⟩ sl_13400 (by omega) (by omega) kd36_22.2.2.2.1 (fun z726 ez726 lz726 uz726 => ?_)
        refine X_ldc hK (n := 1000000) kd36_22.2.2.2.2.1 m_53_22 (by decide) ?_
        have J729 : ∀ (z728 : Int) (lz728 : (-1) ≤ z728) (uz728 : z728 ≤ 0), X K E 33 [(3, .int (iI z459)), (2, .int (iI z728)), (0, .ref a0), (1, .ref a1)] [] S g 0 0 := by
          intro z728 lz728 uz728
          refine X_iinc hK (i := 3) (z := z459) (n := (-1)) 0 [(3, .int (iI (z459 + (-1)))), (2, .int (iI z728)), (0, .ref a0), (1, .ref a1)] kd36_22.2.2.2.2.2.2.2.2.1 rfl (by decide) rfl ?_
          refine X_goto hK 9 kd36_22.2.2.2.2.2.2.2.2.2.1 (by decide) ?_
          exact ihP595  (z459 + (-1)) (by omega) (by omega) z728 (by omega) (by omega) (by omega)
        refine X_icmp_eq hK 33 (by omega) (by omega) kd36_22.2.2.2.2.2.1 (by decide) (fun c727 => ?_) (fun c727 => ?_)
        · exact J729 z460 (by omega) (by omega)
        · refine X_iloadn hK (i := 3) 0 kd36_22.2.2.2.2.2.2.1 rfl rfl ?_
          refine X_istoren hK (i := 2) [(2, .int (iI z459)), (3, .int (iI z459)), (0, .ref a0), (1, .ref a1)] kd36_22.2.2.2.2.2.2.2.1 rfl (by decide) rfl ?_
          refine X_lv [(3, .int (iI z459)), (2, .int (iI z459)), (0, .ref a0), (1, .ref a1)] [1, 0, 2, 3] rfl ?_
          exact J729 z459 (by omega) (by omega)
  exact P595 (((n0 - 1) - (-17) : Int).toNat + 1) (n0 - 1) (by omega) (by omega) (-1) (by omega) (by omega) (by omega)

set_option maxHeartbeats 4000000 in
set_option maxRecDepth 100000 in
theorem c_soonestAt_2 (l : Launch) (D : va_G) (kA : Nat → ClassId) (b0 : Nat) (t0 : Nat → Nat) (S : xT) (g : xG) (a0 : Nat) (a1 : Nat) (x2 : Int) (x3 : Int) (n0 : Int) (w0 nw0 : Nat) (hs_a0 : S a0 = some (9, 0)) (hs_a1 : S a1 = some (4, 0)) (hx2 : 1 ≤ x2 ∧ x2 ≤ 3) (hx3 : 0 ≤ x3 ∧ x3 ≤ 1) (hn0 : 2 ≤ n0 ∧ n0 ≤ 2) (en0 : g a0 4 = .int (iI n0)) (ew0 : g a0 3 = .ref w0) (hs_w0 : S w0 = some (13400, nw0)) (hp0 : 36 ≤ (nw0 : Int)) (hp1 : (nw0 : Int) ≤ 2147483647) : xMt l yX8_soonestAt cX8_soonestAt 8 (some .int) 1 0 0 13 D kA b0 t0 [] [.ref a0, .ref a1, .int (iI x2), .int (iI x3)] S g (fun (r : Option Value) (S1 : xT) (g1 : xG) => S = S1 ∧ g = g1 ∧ ∃ z : Int, r = some (.int (iI z)) ∧ (-2147483648) ≤ z ∧ z ≤ 1000000) := by
  refine xEnterI (by decide) (by simp [lg_sl, Value.category]) [(0, .ref a0), (1, .ref a1), (2, .int (iI x2)), (3, .int (iI x3))] rfl ?_
  intro K E hK hret _ _ _
  refine X_aloadn hK (i := 1) 1 kd36_15.2.2.2.2.2.2.2.2.2.1 rfl rfl ?_
  refine X_getr hK 11604 10 fl_X8_62_4 hs_a1 sl_4_6 kd36_15.2.2.2.2.2.2.2.2.2.2.1 (fun b1 eb1 hs_b1 => ?_)
  refine X_aloadn hK (i := 0) 0 kd36_15.2.2.2.2.2.2.2.2.2.2.2 rfl rfl ?_
  refine X_getr hK 13100 9 fl_X8_11_9 hs_a0 sl_9_0 kd36_16.1 (fun b2 eb2 hs_b2 => ?_)
  refine X_iloadn hK (i := 3) 3 kd36_16.2.1 rfl rfl ?_
  refine X_iald hK hs_b2 (by decide) sl_13100 (by omega) (by omega) kd36_16.2.2.1 (fun z3 ez3 lz3 uz3 => ?_)
  refine X_aald hK 11500 10 hs_b1 (by decide) sl_11604 (by omega) (by omega) kd36_16.2.2.2.1 (fun b4 eb4 hs_b4 => ?_)
  refine X_astore hK (i := 4) [(4, .ref b4), (0, .ref a0), (1, .ref a1), (2, .int (iI x2)), (3, .int (iI x3))] kd36_16.2.2.2.2.1 (by decide) rfl ?_
  refine X_iloadn hK (i := 2) 3 kd36_16.2.2.2.2.2.1 rfl rfl ?_
  refine X_iconst hK kd36_16.2.2.2.2.2.2.1 ?_
  refine X_iloadn hK (i := 3) 4 kd36_16.2.2.2.2.2.2.2.1 rfl rfl ?_
  refine X_ishl hK kd36_16.2.2.2.2.2.2.2.2.1 (fun z5 ez5 lz5 uz5 => ?_)
  have bz5 := xshlB 1 ez5 ⟨lz5, uz5⟩ (by omega) (by decide)
  refine X_ixor hK kd36_16.2.2.2.2.2.2.2.2.2.1 (fun z6 ez6 lz6 uz6 => ?_)
  have bz6 := xixorB 2 ez6 ⟨lz6, uz6⟩ (by omega) (by omega) (by decide)
  refine X_istore hK (i := 5) [(5, .int (iI z6)), (4, .ref b4), (0, .ref a0), (1, .ref a1), (2, .int (iI x2)), (3, .int (iI x3))] kd36_16.2.2.2.2.2.2.2.2.2.2.1 (by decide) rfl ?_
  refine X_iload hK (i := 5) 0 kd36_16.2.2.2.2.2.2.2.2.2.2.2 rfl ?_
  have J10 : ∀ (z9 : Int) (lz9 : 0 ≤ z9) (uz9 : z9 ≤ 1000000), X K E 34 [(5, .int (iI z6)), (4, .ref b4), (0, .ref a0), (1, .ref a1), (2, .int (iI x2)), (3, .int (iI x3))] [.int (iI z9)] S g 0 0 := by
    intro z9 lz9 uz9
    refine X_istore hK (i := 6) [(6, .int (iI z9)), (5, .int (iI z6)), (4, .ref b4), (0, .ref a0), (1, .ref a1), (2, .int (iI x2)), (3, .int (iI x3))] kd36_17.2.2.2.2.2.2.1 (by decide) rfl ?_
    refine X_iconst hK kd36_17.2.2.2.2.2.2.2.1 ?_
    refine X_istore hK (i := 7) [(7, .int (iI 0)), (6, .int (iI z9)), (5, .int (iI z6)), (4, .ref b4), (0, .ref a0), (1, .ref a1), (2, .int (iI x2)), (3, .int (iI x3))] kd36_17.2.2.2.2.2.2.2.2.1 (by decide) rfl ?_
    have P123 : ∀ (nP123 : Nat) (z104 : Int) (_ : 0 ≤ z104) (_ : z104 ≤ 2) (z105 : Int) (_ : (-2147483648) ≤ z105) (_ : z105 ≤ 1000000) (_ : 18 - z104 < (nP123 : Int)), X K E 39 [(7, .int (iI z104)), (6, .int (iI z105)), (5, .int (iI z6)), (4, .ref b4), (0, .ref a0), (1, .ref a1), (2, .int (iI x2)), (3, .int (iI x3))] [] S g 0 0 := by
      intro nP123
      induction nP123 with
      | zero => intro z104 lz104 uz104 z105 lz105 uz105 mP123; exact False.elim (by omega)
      | succ nP123 ihP123 =>
        intro z104 lz104 uz104 z105 lz105 uz105 mP123
        refine X_iload hK (i := 7) 0 kd36_17.2.2.2.2.2.2.2.2.2.1 rfl ?_
        refine X_aloadn hK (i := 0) 4 kd36_17.2.2.2.2.2.2.2.2.2.2.1 rfl rfl ?_
        refine X_getK hK fl_X8_24_9 hs_a0 en0 kd36_17.2.2.2.2.2.2.2.2.2.2.2 ?_
        have J131 : X K E 90 [(7, .int (iI z104)), (6, .int (iI z105)), (5, .int (iI z6)), (4, .ref b4), (0, .ref a0), (1, .ref a1), (2, .int (iI x2)), (3, .int (iI x3))] [] S g 0 0 := by
          refine X_iload hK (i := 6) 1 kd36_19.2.2.2.2.2.2.2.2.2.2.2 rfl ?_
          refine X_aloadn hK (i := 0) 4 kd36_20.1 rfl rfl ?_
          refine X_getr hK 13200 9 fl_X8_15_9 hs_a0 sl_9_1 kd36_20.2.1 (fun b132 eb132 hs_b132 => ?_)
          refine X_iloadn hK (i := 3) 7 kd36_20.2.2.1 rfl rfl ?_
          refine X_iald hK hs_b132 (by decide) sl_13200 (by omega) (by omega) kd36_20.2.2.2.1 (fun z133 ez133 lz133 uz133 => ?_)
          refine X_icmp_gt hK 106 (by omega) (by omega) kd36_20.2.2.2.2.1 (by decide) (fun c134 => ?_) (fun c134 => ?_)
          · refine X_ldc hK (n := 1000000) kd36_20.2.2.2.2.2.2.2.1 m_53_22 (by decide) ?_
            exact hret _ _ _ _ _ _ _ kd36_20.2.2.2.2.2.2.2.2.1 ⟨rfl, rfl, 1000000, rfl, (by omega), (by omega)⟩ (Nat.le_refl _) (Nat.le_refl _)
          · refine X_iload hK (i := 6) 1 kd36_20.2.2.2.2.2.1 rfl ?_
            refine X_goto hK 108 kd36_20.2.2.2.2.2.2.1 (by decide) ?_
            exact hret _ _ _ _ _ _ _ kd36_20.2.2.2.2.2.2.2.2.1 ⟨rfl, rfl, z105, rfl, (by omega), (by omega)⟩ (Nat.le_refl _) (Nat.le_refl _)
        refine X_icmp_ge hK 90 (by omega) (by omega) kd36_18.1 (by decide) (fun c124 => ?_) (fun c124 => ?_)
        · exact J131 
        · refine X_iload hK (i := 5) 2 kd36_18.2.1 rfl ?_
          refine X_if_eq hK 90 (by omega) kd36_18.2.2.1 (by decide) (fun c135 => ?_) (fun c135 => ?_)
          · exact J131 
          · refine X_iload hK (i := 6) 1 kd36_18.2.2.2.1 rfl ?_
            refine X_aloadn hK (i := 0) 4 kd36_18.2.2.2.2.1 rfl rfl ?_
            refine X_getK hK fl_X8_21_9 hs_a0 ew0 kd36_18.2.2.2.2.2.1 ?_
            refine X_iload hK (i := 5) 2 kd36_18.2.2.2.2.2.2.1 rfl ?_
            refine X_bipush hK kd36_18.2.2.2.2.2.2.2.1 (by decide) ?_
            refine X_imul hK kd36_18.2.2.2.2.2.2.2.2.1 ?_
            refine X_iload hK (i := 7) 0 kd36_18.2.2.2.2.2.2.2.2.2.1 rfl ?_
            refine X_iadd hK kd36_18.2.2.2.2.2.2.2.2.2.2.1 ?_
            refine X_iald hK hs_w0 ⟨by decide, by decide, by omega⟩ sl_13400 (by omega) (by omega) kd36_18.2.2.2.2.2.2.2.2.2.2.2 (fun z136 ez136 lz136 uz136 => ?_)
            refine X_aload hK (i := 4) 3 kd36_19.1 rfl ?_
            refine X_aloadn hK (i := 0) 4 kd36_19.2.1 rfl rfl ?_
            refine X_getK hK fl_X8_11_9 hs_a0 eb2 kd36_19.2.2.1 ?_
            refine X_iload hK (i := 7) 0 kd36_19.2.2.2.1 rfl ?_
            refine X_iald hK hs_b2 (by decide) sl_13100 (by omega) (by omega) kd36_19.2.2.2.2.1 (fun z137 ez137 lz137 uz137 => ?_)
            refine X_iald hK hs_b4 (by decide) sl_11500 (by omega) (by omega) kd36_19.2.2.2.2.2.1 (fun z138 ez138 lz138 uz138 => ?_)
            refine X_iadd hK kd36_19.2.2.2.2.2.2.1 ?_
            refine X_norm (fun z139 ez139 lz139 uz139 => ?_)
            refine X_mmin hK mm_X8_68 ⟨by decide, by simp [Value.category]⟩ (by decide) (by omega) (by omega) kd36_19.2.2.2.2.2.2.2.1 (fun z140 ez140 fz140 => ?_)
            have bz140 : (-2147483648) ≤ z140 ∧ z140 ≤ 1000000 := by omega
            refine X_istore hK (i := 6) [(6, .int (iI z140)), (7, .int (iI z104)), (5, .int (iI z6)), (4, .ref b4), (0, .ref a0), (1, .ref a1), (2, .int (iI x2)), (3, .int (iI x3))] kd36_19.2.2.2.2.2.2.2.2.1 (by decide) rfl ?_
            refine X_iinc hK (i := 7) (z := z104) (n := 1) 1 [(7, .int (iI (z104 + 1))), (6, .int (iI z140)), (5, .int (iI z6)), (4, .ref b4), (0, .ref a0), (1, .ref a1), (2, .int (iI x2)), (3, .int (iI x3))] kd36_19.2.2.2.2.2.2.2.2.2.1 rfl (by decide) rfl ?_
            refine X_goto hK 39 kd36_19.2.2.2.2.2.2.2.2.2.2.1 (by decide) ?_
            exact ihP123  (z104 + 1) (by omega) (by omega) z140 (by omega) (by omega) (by omega)
    exact P123 ((18 - 0 : Int).toNat + 1) 0 (by omega) (by omega) z9 (by omega) (by omega) (by omega)
  refine X_if_ne hK 32 (by omega) kd36_17.1 (by decide) (fun c7 => ?_) (fun c7 => ?_)
  · refine X_ldc hK (n := 1000000) kd36_17.2.2.2.2.2.1 m_53_22 (by decide) ?_
    exact J10 1000000 (by omega) (by omega)
  · refine X_aload hK (i := 4) 1 kd36_17.2.1 rfl ?_
    refine X_iconst hK kd36_17.2.2.1 ?_
    refine X_iald hK hs_b4 (by decide) sl_11500 (by omega) (by omega) kd36_17.2.2.2.1 (fun z141 ez141 lz141 uz141 => ?_)
    refine X_goto hK 34 kd36_17.2.2.2.2.1 (by decide) ?_
    exact J10 z141 (by omega) (by omega)

set_option maxHeartbeats 4000000 in
set_option maxRecDepth 100000 in
theorem c_findSoonest_2 (l : Launch) (D : va_G) (kA : Nat → ClassId) (b0 : Nat) (t0 : Nat → Nat) (S : xT) (g : xG) (a0 : Nat) (a1 : Nat) (n0 : Int) (w0 nw0 : Nat) (hs_a0 : S a0 = some (9, 0)) (hs_a1 : S a1 = some (4, 0)) (hn0 : 2 ≤ n0 ∧ n0 ≤ 2) (en0 : g a0 4 = .int (iI n0)) (ew0 : g a0 3 = .ref w0) (hs_w0 : S w0 = some (13400, nw0)) (hp0 : 36 ≤ (nw0 : Int)) (hp1 : (nw0 : Int) ≤ 2147483647) : xMt l yX8_findSoonest cX8_findSoonest 4 none 2 0 0 40 D kA b0 t0 [(13400, 0)] [.ref a0, .ref a1] S g (fun (r : Option Value) (S1 : xT) (g1 : xG) => S = S1 ∧ r = none) := by
  refine xEnterV (by decide) (by simp [lg_sl, Value.category]) [(0, .ref a0), (1, .ref a1)] rfl ?_
  intro K E hK hret _ _ _
  refine X_iconst hK kd36_4.2.2.2.2.2.2.2.2.2.2.2 ?_
  refine X_istoren hK (i := 2) [(2, .int (iI 1)), (0, .ref a0), (1, .ref a1)] kd36_5.1 rfl (by decide) rfl ?_
  have P1230 : ∀ (nP1230 : Nat) (g1026 : xG) (_ : xM [(13400, 0)] S g g1026) (z1025 : Int) (_ : 1 ≤ z1025) (_ : z1025 ≤ 4) (_ : 20 - z1025 < (nP1230 : Int)), X K E 2 [(2, .int (iI z1025)), (0, .ref a0), (1, .ref a1)] [] S g1026 0 0 := by
    intro nP1230
    induction nP1230 with
    | zero => intro g1026 hg1026 z1025 lz1025 uz1025 mP1230; exact False.elim (by omega)
    | succ nP1230 ihP1230 =>
      intro g1026 hg1026 z1025 lz1025 uz1025 mP1230
      refine X_iloadn hK (i := 2) 0 kd36_5.2.1 rfl rfl ?_
      refine X_iconst hK kd36_5.2.2.1 ?_
      refine X_aloadn hK (i := 0) 1 kd36_5.2.2.2.1 rfl rfl ?_
      refine X_getK hK fl_X8_24_9 hs_a0 ((hg1026 a0 9 0 4 hs_a0 (by decide)).trans en0) kd36_5.2.2.2.2.1 ?_
      refine X_ishl hK kd36_5.2.2.2.2.2.1 (fun z1231 ez1231 lz1231 uz1231 => ?_)
      have bz1231 := xshlB 2 ez1231 ⟨lz1231, uz1231⟩ (by omega) (by decide)
      refine X_icmp_ge hK 66 (by omega) (by omega) kd36_5.2.2.2.2.2.2.1 (by decide) (fun c1232 => ?_) (fun c1232 => ?_)
      · exact hret _ _ _ _ _ _ kd36_8.2.2.2.1 ⟨rfl, rfl⟩ (Nat.le_refl _) (Nat.le_refl _)
      · refine X_iconst hK kd36_5.2.2.2.2.2.2.2.1 ?_
        refine X_istoren hK (i := 3) [(3, .int (iI 0)), (2, .int (iI z1025)), (0, .ref a0), (1, .ref a1)] kd36_5.2.2.2.2.2.2.2.2.1 rfl (by decide) rfl ?_
        have P1404 : ∀ (nP1404 : Nat) (g1374 : xG) (_ : xM [(13400, 0)] S g1026 g1374) (z1373 : Int) (_ : 0 ≤ z1373) (_ : z1373 ≤ 2) (_ : 18 - z1373 < (nP1404 : Int)), X K E 14 [(3, .int (iI z1373)), (2, .int (iI z1025)), (0, .ref a0), (1, .ref a1)] [] S g1374 0 0 := by
          intro nP1404
          induction nP1404 with
          | zero => intro g1374 hg1374 z1373 lz1373 uz1373 mP1404; exact False.elim (by omega)
          | succ nP1404 ihP1404 =>
            intro g1374 hg1374 z1373 lz1373 uz1373 mP1404
            refine X_iloadn hK (i := 3) 0 kd36_5.2.2.2.2.2.2.2.2.2.1 rfl rfl ?_
            refine X_aloadn hK (i := 0) 2 kd36_5.2.2.2.2.2.2.2.2.2.2.1 rfl rfl ?_
            refine X_getK hK fl_X8_24_9 hs_a0 ((hg1374 a0 9 0 4 hs_a0 (by decide)).trans ((hg1026 a0 9 0 4 hs_a0 (by decide)).trans en0)) kd36_5.2.2.2.2.2.2.2.2.2.2.2 ?_
            refine X_icmp_ge hK 60 (by omega) (by omega) kd36_6.1 (by decide) (fun c1405 => ?_) (fun c1405 => ?_)
            · refine X_iinc hK (i := 2) (z := z1025) (n := 1) 1 [(2, .int (iI (z1025 + 1))), (3, .int (iI z1373)), (0, .ref a0), (1, .ref a1)] kd36_8.2.1 rfl (by decide) rfl ?_
              refine X_goto hK 2 kd36_8.2.2.1 (by decide) ?_
              refine X_lv [(2, .int (iI (z1025 + 1))), (0, .ref a0), (1, .ref a1)] [0, 2, 3] rfl ?_
              exact ihP1230  g1374 (xM.tr (xM.tr xM.rf xLe.rf hg1026 (by decide)) xLe.rf hg1374 (by decide)) (z1025 + 1) (by omega) (by omega) (by omega)
            · refine X_aloadn hK (i := 0) 2 kd36_6.2.1 rfl rfl ?_
              refine X_getK hK fl_X8_21_9 hs_a0 ((hg1374 a0 9 0 3 hs_a0 (by decide)).trans ((hg1026 a0 9 0 3 hs_a0 (by decide)).trans ew0)) kd36_6.2.2.1 ?_
              refine X_iloadn hK (i := 2) 1 kd36_6.2.2.2.1 rfl rfl ?_
              refine X_bipush hK kd36_6.2.2.2.2.1 (by decide) ?_
              refine X_imul hK kd36_6.2.2.2.2.2.1 ?_
              refine X_iloadn hK (i := 3) 0 kd36_6.2.2.2.2.2.2.1 rfl rfl ?_
              refine X_iadd hK kd36_6.2.2.2.2.2.2.2.1 ?_
              refine X_iloadn hK (i := 2) 1 kd36_6.2.2.2.2.2.2.2.2.1 rfl rfl ?_
              refine X_iloadn hK (i := 3) 0 kd36_6.2.2.2.2.2.2.2.2.2.1 rfl rfl ?_
              refine X_ishr hK kd36_6.2.2.2.2.2.2.2.2.2.2.1 (fun z1420 ez1420 lz1420 uz1420 => ?_)
              refine X_iconst hK kd36_6.2.2.2.2.2.2.2.2.2.2.2 ?_
              refine X_iand hK kd36_7.1 (fun z1421 ez1421 lz1421 uz1421 => ?_)
              have bz1421 := xandB ez1421 ⟨lz1421, uz1421⟩ (by omega)
              refine X_iconst hK kd36_7.2.1 ?_
              have J1428 : ∀ (z1427 : Int) (lz1427 : (-2147483648) ≤ z1427) (uz1427 : z1427 ≤ 1000000), X K E 53 [(3, .int (iI z1373)), (2, .int (iI z1025)), (0, .ref a0), (1, .ref a1)] [.int (iI z1427), .int (iI ((z1025 * 9) + z1373)), .ref w0] S g1374 0 0 := by
                intro z1427 lz1427 uz1427
                refine X_iast hK hs_w0 ⟨by decide, by decide, by decide, by omega⟩ (by decide) sl_13400 (by omega) (by omega) (by omega) (by omega) kd36_7.2.2.2.2.2.2.2.2.2.2.1 (fun g1429 hg1429 => ?_)
                refine X_iinc hK (i := 3) (z := z1373) (n := 1) 0 [(3, .int (iI (z1373 + 1))), (2, .int (iI z1025)), (0, .ref a0), (1, .ref a1)] kd36_7.2.2.2.2.2.2.2.2.2.2.2 rfl (by decide) rfl ?_
                refine X_goto hK 14 kd36_8.1 (by decide) ?_
                exact ihP1404  g1429 (xM_ua (xM.tr xM.rf xLe.rf hg1374 (by decide)) hg1429 hs_w0 (by decide) (by decide)) (z1373 + 1) (by omega) (by omega) (by omega)
              refine X_icmp_ne hK 51 (by omega) (by omega) kd36_7.2.2.1 (by decide) (fun c1422 => ?_) (fun c1422 => ?_)
              · refine X_ldc hK (n := 1000000) kd36_7.2.2.2.2.2.2.2.2.2.1 m_53_22 (by decide) ?_
                exact J1428 1000000 (by omega) (by omega)
              · refine X_aloadn hK (i := 0) 2 kd36_7.2.2.2.1 rfl rfl ?_
                refine X_aloadn hK (i := 1) 3 kd36_7.2.2.2.2.1 rfl rfl ?_
                refine X_iloadn hK (i := 2) 1 kd36_7.2.2.2.2.2.1 rfl rfl ?_
                refine X_iloadn hK (i := 3) 0 kd36_7.2.2.2.2.2.2.1 rfl rfl ?_
                refine X_callV hK [.ref a1, .int (iI z1025), .int (iI z1373)] [.int (iI ((z1025 * 9) + z1373)), .ref w0] lk_X8_58 (c_soonestAt_2 _ _ _ _ _ S g1374 a0 a1 z1025 z1373 n0 w0 nw0 hs_a0 hs_a1 (by omega) (by omega) (by omega) ((hg1374 a0 9 0 4 hs_a0 (by decide)).trans ((hg1026 a0 9 0 4 hs_a0 (by decide)).trans en0)) ((hg1374 a0 9 0 3 hs_a0 (by decide)).trans ((hg1026 a0 9 0 3 hs_a0 (by decide)).trans ew0)) hs_w0 (by omega) (by omega)) hs_a0 ⟨by decide, rfl⟩ kd36_7.2.2.2.2.2.2.2.1 rfl rfl (by simp [Value.category]) (by decide) (by decide) (by decide) (by decide) (fun r1430 S1432 g1431 pr1430 qr1430 hg1431 => ?_)
                obtain ⟨rfl, rfl, z1433, rfl, lz1433, uz1433⟩ := pr1430
                refine X_st [.int (iI z1433), .int (iI ((z1025 * 9) + z1373)), .ref w0] rfl ?_
                refine X_goto hK 53 kd36_7.2.2.2.2.2.2.2.2.1 (by decide) ?_
                exact J1428 z1433 (by omega) (by omega)
        exact P1404 ((18 - 0 : Int).toNat + 1) g1026 xM.rf 0 (by omega) (by omega) (by omega)
  exact P1230 ((20 - 1 : Int).toNat + 1) g xM.rf 1 (by omega) (by omega) (by omega)

set_option maxHeartbeats 4000000 in
set_option maxRecDepth 100000 in
theorem c_firstAtEnd_2 (l : Launch) (D : va_G) (kA : Nat → ClassId) (b0 : Nat) (t0 : Nat → Nat) (S : xT) (g : xG) (a0 : Nat) (n0 : Int) (w0 nw0 : Nat) (hs_a0 : S a0 = some (9, 0)) (hn0 : 2 ≤ n0 ∧ n0 ≤ 2) (en0 : g a0 4 = .int (iI n0)) (ew0 : g a0 3 = .ref w0) (hs_w0 : S w0 = some (13400, nw0)) (hp0 : 36 ≤ (nw0 : Int)) (hp1 : (nw0 : Int) ≤ 2147483647) : xMt l yX8_firstAtEnd cX8_firstAtEnd 4 (some .int) 1 0 0 13 D kA b0 t0 [] [.ref a0] S g (fun (r : Option Value) (S1 : xT) (g1 : xG) => S = S1 ∧ g = g1 ∧ ∃ z : Int, r = some (.int (iI z)) ∧ (-2147483648) ≤ z ∧ z ≤ 1000000) := by
  refine xEnterI (by decide) (by simp [lg_sl, Value.category]) [(0, .ref a0)] rfl ?_
  intro K E hK hret _ _ _
  refine X_iconst hK kd36_8.2.2.2.2.1 ?_
  refine X_aloadn hK (i := 0) 0 kd36_8.2.2.2.2.2.1 rfl rfl ?_
  refine X_getK hK fl_X8_24_9 hs_a0 en0 kd36_8.2.2.2.2.2.2.1 ?_
  refine X_ishl hK kd36_8.2.2.2.2.2.2.2.1 (fun z1 ez1 lz1 uz1 => ?_)
  have bz1 := xshlB 2 ez1 ⟨lz1, uz1⟩ (by omega) (by decide)
  refine X_iconst hK kd36_8.2.2.2.2.2.2.2.2.1 ?_
  refine X_isub hK kd36_8.2.2.2.2.2.2.2.2.2.1 ?_
  refine X_istoren hK (i := 1) [(1, .int (iI (z1 - 1))), (0, .ref a0)] kd36_8.2.2.2.2.2.2.2.2.2.2.1 rfl (by decide) rfl ?_
  refine X_ldc hK (n := 1000000) kd36_8.2.2.2.2.2.2.2.2.2.2.2 m_53_22 (by decide) ?_
  refine X_istoren hK (i := 2) [(2, .int (iI 1000000)), (1, .int (iI (z1 - 1))), (0, .ref a0)] kd36_9.1 rfl (by decide) rfl ?_
  refine X_iconst hK kd36_9.2.1 ?_
  refine X_istoren hK (i := 3) [(3, .int (iI 0)), (2, .int (iI 1000000)), (1, .int (iI (z1 - 1))), (0, .ref a0)] kd36_9.2.2.1 rfl (by decide) rfl ?_
  have P32 : ∀ (nP32 : Nat) (z27 : Int) (_ : 0 ≤ z27) (_ : z27 ≤ 2) (z28 : Int) (_ : (-2147483648) ≤ z28) (_ : z28 ≤ 1000000) (_ : 18 - z27 < (nP32 : Int)), X K E 14 [(3, .int (iI z27)), (2, .int (iI z28)), (1, .int (iI (z1 - 1))), (0, .ref a0)] [] S g 0 0 := by
    intro nP32
    induction nP32 with
    | zero => intro z27 lz27 uz27 z28 lz28 uz28 mP32; exact False.elim (by omega)
    | succ nP32 ihP32 =>
      intro z27 lz27 uz27 z28 lz28 uz28 mP32
      refine X_iloadn hK (i := 3) 0 kd36_9.2.2.2.1 rfl rfl ?_
      refine X_aloadn hK (i := 0) 3 kd36_9.2.2.2.2.1 rfl rfl ?_
      refine X_getK hK fl_X8_24_9 hs_a0 en0 kd36_9.2.2.2.2.2.1 ?_
      refine X_icmp_ge hK 44 (by omega) (by omega) kd36_9.2.2.2.2.2.2.1 (by decide) (fun c33 => ?_) (fun c33 => ?_)
      · refine X_iloadn hK (i := 2) 1 kd36_10.2.2.2.2.2.2.2.2.1 rfl rfl ?_
        exact hret _ _ _ _ _ _ _ kd36_10.2.2.2.2.2.2.2.2.2.1 ⟨rfl, rfl, z28, rfl, (by omega), (by omega)⟩ (Nat.le_refl _) (Nat.le_refl _)
      · refine X_iloadn hK (i := 2) 1 kd36_9.2.2.2.2.2.2.2.1 rfl rfl ?_
        refine X_aloadn hK (i := 0) 3 kd36_9.2.2.2.2.2.2.2.2.1 rfl rfl ?_
        refine X_getK hK fl_X8_21_9 hs_a0 ew0 kd36_9.2.2.2.2.2.2.2.2.2.1 ?_
        refine X_iloadn hK (i := 1) 2 kd36_9.2.2.2.2.2.2.2.2.2.2.1 rfl rfl ?_
        refine X_bipush hK kd36_9.2.2.2.2.2.2.2.2.2.2.2 (by decide) ?_
        refine X_imul hK kd36_10.1 ?_
        refine X_iloadn hK (i := 3) 0 kd36_10.2.1 rfl rfl ?_
        refine X_iadd hK kd36_10.2.2.1 ?_
        refine X_iald hK hs_w0 ⟨by decide, by decide, by omega⟩ sl_13400 (by omega) (by omega) kd36_10.2.2.2.1 (fun z34 ez34 lz34 uz34 => ?_)
        refine X_mmin hK mm_X8_68 ⟨by decide, by simp [Value.category]⟩ (by decide) (by omega) (by omega) kd36_10.2.2.2.2.1 (fun z35 ez35 fz35 => ?_)
        have bz35 : (-2147483648) ≤ z35 ∧ z35 ≤ 1000000 := by omega
        refine X_istoren hK (i := 2) [(2, .int (iI z35)), (3, .int (iI z27)), (1, .int (iI (z1 - 1))), (0, .ref a0)] kd36_10.2.2.2.2.2.1 rfl (by decide) rfl ?_
        refine X_iinc hK (i := 3) (z := z27) (n := 1) 1 [(3, .int (iI (z27 + 1))), (2, .int (iI z35)), (1, .int (iI (z1 - 1))), (0, .ref a0)] kd36_10.2.2.2.2.2.2.1 rfl (by decide) rfl ?_
        refine X_goto hK 14 kd36_10.2.2.2.2.2.2.2.1 (by decide) ?_
        exact ihP32  (z27 + 1) (by omega) (by omega) z35 (by omega) (by omega) (by omega)
  exact P32 ((18 - 0 : Int).toNat + 1) 0 (by omega) (by omega) 1000000 (by omega) (by omega) (by omega)

set_option maxHeartbeats 4000000 in
set_option maxRecDepth 100000 in
theorem c_nextOf_2 (l : Launch) (D : va_G) (kA : Nat → ClassId) (b0 : Nat) (t0 : Nat → Nat) (S : xT) (g : xG) (a0 : Nat) (a1 : Nat) (x2 : Int) (x3 : Int) (n0 : Int) (w0 nw0 : Nat) (hs_a0 : S a0 = some (9, 0)) (hs_a1 : S a1 = some (4, 0)) (hx2 : 1 ≤ x2 ∧ x2 ≤ 3) (hx3 : 0 ≤ x3 ∧ x3 ≤ 1) (hn0 : 2 ≤ n0 ∧ n0 ≤ 2) (en0 : g a0 4 = .int (iI n0)) (ew0 : g a0 3 = .ref w0) (hs_w0 : S w0 = some (13400, nw0)) (hp0 : 36 ≤ (nw0 : Int)) (hp1 : (nw0 : Int) ≤ 2147483647) : xMt l yX8_nextOf cX8_nextOf 7 (some .int) 0 0 0 0 D kA b0 t0 [] [.ref a0, .ref a1, .int (iI x2), .int (iI x3)] S g (fun (r : Option Value) (S1 : xT) (g1 : xG) => S = S1 ∧ g = g1 ∧ ∃ z : Int, r = some (.int (iI z)) ∧ (-1) ≤ z ∧ z ≤ 1) := by
  refine xEnterI (by decide) (by simp [lg_sl, Value.category]) [(0, .ref a0), (1, .ref a1), (2, .int (iI x2)), (3, .int (iI x3))] rfl ?_
  intro K E hK hret _ _ _
  refine X_aloadn hK (i := 0) 0 kd36_10.2.2.2.2.2.2.2.2.2.2.1 rfl rfl ?_
  refine X_getK hK fl_X8_21_9 hs_a0 ew0 kd36_10.2.2.2.2.2.2.2.2.2.2.2 ?_
  refine X_iloadn hK (i := 2) 2 kd36_11.1 rfl rfl ?_
  refine X_bipush hK kd36_11.2.1 (by decide) ?_
  refine X_imul hK kd36_11.2.2.1 ?_
  refine X_iloadn hK (i := 3) 3 kd36_11.2.2.2.1 rfl rfl ?_
  refine X_iadd hK kd36_11.2.2.2.2.1 ?_
  refine X_iald hK hs_w0 ⟨by decide, by decide, by omega⟩ sl_13400 (by omega) (by omega) kd36_11.2.2.2.2.2.1 (fun z1 ez1 lz1 uz1 => ?_)
  refine X_istore hK (i := 4) [(4, .int (iI z1)), (0, .ref a0), (1, .ref a1), (2, .int (iI x2)), (3, .int (iI x3))] kd36_11.2.2.2.2.2.2.1 (by decide) rfl ?_
  refine X_iconst hK kd36_11.2.2.2.2.2.2.2.1 ?_
  refine X_istore hK (i := 5) [(5, .int (iI 0)), (4, .int (iI z1)), (0, .ref a0), (1, .ref a1), (2, .int (iI x2)), (3, .int (iI x3))] kd36_11.2.2.2.2.2.2.2.2.1 (by decide) rfl ?_
  have P104 : ∀ (nP104 : Nat) (z87 : Int) (_ : 0 ≤ z87) (_ : z87 ≤ 2) (_ : 18 - z87 < (nP104 : Int)), X K E 16 [(5, .int (iI z87)), (4, .int (iI z1)), (0, .ref a0), (1, .ref a1), (2, .int (iI x2)), (3, .int (iI x3))] [] S g 0 0 := by
    intro nP104
    induction nP104 with
    | zero => intro z87 lz87 uz87 mP104; exact False.elim (by omega)
    | succ nP104 ihP104 =>
      intro z87 lz87 uz87 mP104
      refine X_iload hK (i := 5) 0 kd36_11.2.2.2.2.2.2.2.2.2.1 rfl ?_
      refine X_aloadn hK (i := 0) 2 kd36_11.2.2.2.2.2.2.2.2.2.2.1 rfl rfl ?_
      refine X_getK hK fl_X8_24_9 hs_a0 en0 kd36_11.2.2.2.2.2.2.2.2.2.2.2 ?_
      refine X_icmp_ge hK 96 (by omega) (by omega) kd36_12.1 (by decide) (fun c105 => ?_) (fun c105 => ?_)
      · refine X_iconst hK kd36_15.2.2.2.2.2.2.2.1 ?_
        exact hret _ _ _ _ _ _ _ kd36_15.2.2.2.2.2.2.2.2.1 ⟨rfl, rfl, (-1), rfl, (by omega), (by omega)⟩ (Nat.le_refl _) (Nat.le_refl _)
      · refine X_iload hK (i := 4) 1 kd36_12.2.1 rfl ?_
        refine X_ldc hK (n := 1000000) kd36_12.2.2.1 m_53_22 (by decide) ?_
        refine X_icmp_eq hK 96 (by omega) (by omega) kd36_12.2.2.2.1 (by decide) (fun c106 => ?_) (fun c106 => ?_)
        · refine X_iconst hK kd36_15.2.2.2.2.2.2.2.1 ?_
          exact hret _ _ _ _ _ _ _ kd36_15.2.2.2.2.2.2.2.2.1 ⟨rfl, rfl, (-1), rfl, (by omega), (by omega)⟩ (Nat.le_refl _) (Nat.le_refl _)
        · refine X_iload hK (i := 4) 1 kd36_12.2.2.2.2.1 rfl ?_
          refine X_aloadn hK (i := 1) 3 kd36_12.2.2.2.2.2.1 rfl rfl ?_
          refine X_getr hK 11604 10 fl_X8_62_4 hs_a1 sl_4_6 kd36_12.2.2.2.2.2.2.1 (fun b107 eb107 hs_b107 => ?_)
          refine X_aloadn hK (i := 0) 2 kd36_12.2.2.2.2.2.2.2.1 rfl rfl ?_
          refine X_getr hK 13100 9 fl_X8_11_9 hs_a0 sl_9_0 kd36_12.2.2.2.2.2.2.2.2.1 (fun b108 eb108 hs_b108 => ?_)
          refine X_iloadn hK (i := 3) 5 kd36_12.2.2.2.2.2.2.2.2.2.1 rfl rfl ?_
          refine X_iald hK hs_b108 (by decide) sl_13100 (by omega) (by omega) kd36_12.2.2.2.2.2.2.2.2.2.2.1 (fun z109 ez109 lz109 uz109 => ?_)
          refine X_aald hK 11500 10 hs_b107 (by decide) sl_11604 (by omega) (by omega) kd36_12.2.2.2.2.2.2.2.2.2.2.2 (fun b110 eb110 hs_b110 => ?_)
          refine X_aloadn hK (i := 0) 2 kd36_13.1 rfl rfl ?_
          refine X_getK hK fl_X8_11_9 hs_a0 eb108 kd36_13.2.1 ?_
          refine X_iload hK (i := 5) 0 kd36_13.2.2.1 rfl ?_
          refine X_iald hK hs_b108 (by decide) sl_13100 (by omega) (by omega) kd36_13.2.2.2.1 (fun z111 ez111 lz111 uz111 => ?_)
          refine X_iald hK hs_b110 (by decide) sl_11500 (by omega) (by omega) kd36_13.2.2.2.2.1 (fun z112 ez112 lz112 uz112 => ?_)
          refine X_iadd hK kd36_13.2.2.2.2.2.1 ?_
          refine X_norm (fun z113 ez113 lz113 uz113 => ?_)
          refine X_istore hK (i := 6) [(6, .int (iI z113)), (5, .int (iI z87)), (4, .int (iI z1)), (0, .ref a0), (1, .ref a1), (2, .int (iI x2)), (3, .int (iI x3))] kd36_13.2.2.2.2.2.2.1 (by decide) rfl ?_
          refine X_iloadn hK (i := 2) 5 kd36_13.2.2.2.2.2.2.2.1 rfl rfl ?_
          refine X_iload hK (i := 5) 1 kd36_13.2.2.2.2.2.2.2.2.1 rfl ?_
          refine X_ishr hK kd36_13.2.2.2.2.2.2.2.2.2.1 (fun z114 ez114 lz114 uz114 => ?_)
          refine X_iconst hK kd36_13.2.2.2.2.2.2.2.2.2.2.1 ?_
          refine X_iand hK kd36_13.2.2.2.2.2.2.2.2.2.2.2 (fun z115 ez115 lz115 uz115 => ?_)
          have bz115 := xandB ez115 ⟨lz115, uz115⟩ (by omega)
          refine X_if_ne hK 90 (by omega) kd36_14.1 (by decide) (fun c116 => ?_) (fun c116 => ?_)
          · refine X_iinc hK (i := 5) (z := z87) (n := 1) 1 [(5, .int (iI (z87 + 1))), (6, .int (iI z113)), (4, .int (iI z1)), (0, .ref a0), (1, .ref a1), (2, .int (iI x2)), (3, .int (iI x3))] kd36_15.2.2.2.2.2.1 rfl (by decide) rfl ?_
            refine X_goto hK 16 kd36_15.2.2.2.2.2.2.1 (by decide) ?_
            refine X_lv [(5, .int (iI (z87 + 1))), (4, .int (iI z1)), (0, .ref a0), (1, .ref a1), (2, .int (iI x2)), (3, .int (iI x3))] [0, 2, 3, 4, 5, 6] rfl ?_
            exact ihP104  (z87 + 1) (by omega) (by omega) (by omega)
          · refine X_aloadn hK (i := 0) 3 kd36_14.2.1 rfl rfl ?_
            refine X_getK hK fl_X8_21_9 hs_a0 ew0 kd36_14.2.2.1 ?_
            refine X_iloadn hK (i := 2) 5 kd36_14.2.2.2.1 rfl rfl ?_
            refine X_iconst hK kd36_14.2.2.2.2.1 ?_
            refine X_iload hK (i := 5) 1 kd36_14.2.2.2.2.2.1 rfl ?_
            refine X_ishl hK kd36_14.2.2.2.2.2.2.1 (fun z117 ez117 lz117 uz117 => ?_)
            have bz117 := xshlB 1 ez117 ⟨lz117, uz117⟩ (by omega) (by decide)
            refine X_ior hK kd36_14.2.2.2.2.2.2.2.1 (fun z118 ez118 lz118 uz118 => ?_)
            have bz118 := xiorB 2 ez118 ⟨lz118, uz118⟩ (by omega) (by omega) (by decide)
            refine X_bipush hK kd36_14.2.2.2.2.2.2.2.2.1 (by decide) ?_
            refine X_imul hK kd36_14.2.2.2.2.2.2.2.2.2.1 ?_
            refine X_iload hK (i := 5) 1 kd36_14.2.2.2.2.2.2.2.2.2.2.1 rfl ?_
            refine X_iadd hK kd36_14.2.2.2.2.2.2.2.2.2.2.2 ?_
            refine X_iald hK hs_w0 ⟨by decide, by decide, by omega⟩ sl_13400 (by omega) (by omega) kd36_15.1 (fun z119 ez119 lz119 uz119 => ?_)
            refine X_iload hK (i := 6) 0 kd36_15.2.1 rfl ?_
            refine X_icmp_ne hK 90 (by omega) (by omega) kd36_15.2.2.1 (by decide) (fun c120 => ?_) (fun c120 => ?_)
            · refine X_iinc hK (i := 5) (z := z87) (n := 1) 1 [(5, .int (iI (z87 + 1))), (6, .int (iI z113)), (4, .int (iI z1)), (0, .ref a0), (1, .ref a1), (2, .int (iI x2)), (3, .int (iI x3))] kd36_15.2.2.2.2.2.1 rfl (by decide) rfl ?_
              refine X_goto hK 16 kd36_15.2.2.2.2.2.2.1 (by decide) ?_
              refine X_lv [(5, .int (iI (z87 + 1))), (4, .int (iI z1)), (0, .ref a0), (1, .ref a1), (2, .int (iI x2)), (3, .int (iI x3))] [0, 2, 3, 4, 5, 6] rfl ?_
              exact ihP104  (z87 + 1) (by omega) (by omega) (by omega)
            · refine X_iload hK (i := 5) 1 kd36_15.2.2.2.1 rfl ?_
              exact hret _ _ _ _ _ _ _ kd36_15.2.2.2.2.1 ⟨rfl, rfl, z87, rfl, (by omega), (by omega)⟩ (Nat.le_refl _) (Nat.le_refl _)
  exact P104 ((18 - 0 : Int).toNat + 1) 0 (by omega) (by omega) (by omega)

set_option maxHeartbeats 4000000 in
set_option maxRecDepth 100000 in
theorem c_dropOthers_2 (l : Launch) (D : va_G) (kA : Nat → ClassId) (b0 : Nat) (t0 : Nat → Nat) (S : xT) (g : xG) (a0 : Nat) (a1 : Nat) (x2 : Int) (n0 : Int) (w0 nw0 : Nat) (hs_a0 : S a0 = some (9, 0)) (hs_a1 : S a1 = some (4, 0)) (hx2 : (-2147483648) ≤ x2 ∧ x2 ≤ 2147483647) (hn0 : 2 ≤ n0 ∧ n0 ≤ 2) (en0 : g a0 4 = .int (iI n0)) (ew0 : g a0 3 = .ref w0) (hs_w0 : S w0 = some (13400, nw0)) (hp0 : 36 ≤ (nw0 : Int)) (hp1 : (nw0 : Int) ≤ 2147483647) : xMt l yX8_dropOthers cX8_dropOthers 8 none 1 0 0 26 D kA b0 t0 [(13400, 0)] [.ref a0, .ref a1, .int (iI x2)] S g (fun (r : Option Value) (S1 : xT) (g1 : xG) => S = S1 ∧ r = none) := by
  refine xEnterV (by decide) (by simp [lg_sl, Value.category]) [(0, .ref a0), (1, .ref a1), (2, .int (iI x2))] rfl ?_
  intro K E hK hret _ _ _
  refine X_iconst hK kd36_0.1 ?_
  refine X_aloadn hK (i := 0) 0 kd36_0.2.1 rfl rfl ?_
  refine X_getK hK fl_X8_24_9 hs_a0 en0 kd36_0.2.2.1 ?_
  refine X_ishl hK kd36_0.2.2.2.1 (fun z1 ez1 lz1 uz1 => ?_)
  have bz1 := xshlB 2 ez1 ⟨lz1, uz1⟩ (by omega) (by decide)
  refine X_iconst hK kd36_0.2.2.2.2.1 ?_
  refine X_isub hK kd36_0.2.2.2.2.2.1 ?_
  refine X_istoren hK (i := 3) [(3, .int (iI (z1 - 1))), (0, .ref a0), (1, .ref a1), (2, .int (iI x2))] kd36_0.2.2.2.2.2.2.1 rfl (by decide) rfl ?_
  refine X_iloadn hK (i := 3) 0 kd36_0.2.2.2.2.2.2.2.1 rfl rfl ?_
  refine X_istore hK (i := 4) [(4, .int (iI (z1 - 1))), (3, .int (iI (z1 - 1))), (0, .ref a0), (1, .ref a1), (2, .int (iI x2))] kd36_0.2.2.2.2.2.2.2.2.1 (by decide) rfl ?_
  have P1541 : ∀ (nP1541 : Nat) (g1234 : xG) (_ : xM [(13400, 0)] S g g1234) (z1233 : Int) (_ : 0 ≤ z1233) (_ : z1233 ≤ 3) (_ : z1233 - (-16) < (nP1541 : Int)), X K E 12 [(4, .int (iI z1233)), (3, .int (iI (z1 - 1))), (0, .ref a0), (1, .ref a1), (2, .int (iI x2))] [] S g1234 0 0 := by
    intro nP1541
    induction nP1541 with
    | zero => intro g1234 hg1234 z1233 lz1233 uz1233 mP1541; exact False.elim (by omega)
    | succ nP1541 ihP1541 =>
      intro g1234 hg1234 z1233 lz1233 uz1233 mP1541
      refine X_iload hK (i := 4) 0 kd36_0.2.2.2.2.2.2.2.2.2.1 rfl ?_
      refine X_if_le hK 110 (by omega) kd36_0.2.2.2.2.2.2.2.2.2.2.1 (by decide) (fun c1542 => ?_) (fun c1542 => ?_)
      · exact hret _ _ _ _ _ _ kd36_4.2.2.2.2.2.2.2.2.2.2.1 ⟨rfl, rfl⟩ (Nat.le_refl _) (Nat.le_refl _)
      · refine X_iconst hK kd36_0.2.2.2.2.2.2.2.2.2.2.2 ?_
        refine X_istore hK (i := 5) [(5, .int (iI 0)), (4, .int (iI z1233)), (3, .int (iI (z1 - 1))), (0, .ref a0), (1, .ref a1), (2, .int (iI x2))] kd36_1.1 (by decide) rfl ?_
        have P1802 : ∀ (nP1802 : Nat) (g1756 : xG) (_ : xM [(13400, 0)] S g1234 g1756) (z1755 : Int) (_ : 0 ≤ z1755) (_ : z1755 ≤ 2) (_ : 18 - z1755 < (nP1802 : Int)), X K E 20 [(5, .int (iI z1755)), (4, .int (iI z1233)), (3, .int (iI (z1 - 1))), (0, .ref a0), (1, .ref a1), (2, .int (iI x2))] [] S g1756 0 0 := by
          intro nP1802
          induction nP1802 with
          | zero => intro g1756 hg1756 z1755 lz1755 uz1755 mP1802; exact False.elim (by omega)
          | succ nP1802 ihP1802 =>
            intro g1756 hg1756 z1755 lz1755 uz1755 mP1802
            refine X_iload hK (i := 5) 0 kd36_1.2.1 rfl ?_
            refine X_aloadn hK (i := 0) 3 kd36_1.2.2.1 rfl rfl ?_
            refine X_getK hK fl_X8_24_9 hs_a0 ((hg1756 a0 9 0 4 hs_a0 (by decide)).trans ((hg1234 a0 9 0 4 hs_a0 (by decide)).trans en0)) kd36_1.2.2.2.1 ?_
            refine X_icmp_ge hK 104 (by omega) (by omega) kd36_1.2.2.2.2.1 (by decide) (fun c1803 => ?_) (fun c1803 => ?_)
            · refine X_iinc hK (i := 4) (z := z1233) (n := (-1)) 1 [(4, .int (iI (z1233 + (-1)))), (5, .int (iI z1755)), (3, .int (iI (z1 - 1))), (0, .ref a0), (1, .ref a1), (2, .int (iI x2))] kd36_4.2.2.2.2.2.2.2.2.1 rfl (by decide) rfl ?_
              refine X_goto hK 12 kd36_4.2.2.2.2.2.2.2.2.2.1 (by decide) ?_
              refine X_lv [(4, .int (iI (z1233 + (-1)))), (3, .int (iI (z1 - 1))), (0, .ref a0), (1, .ref a1), (2, .int (iI x2))] [0, 2, 3, 4, 5] rfl ?_
              exact ihP1541  g1756 (xM.tr (xM.tr xM.rf xLe.rf hg1234 (by decide)) xLe.rf hg1756 (by decide)) (z1233 + (-1)) (by omega) (by omega) (by omega)
            · refine X_iload hK (i := 4) 1 kd36_1.2.2.2.2.2.1 rfl ?_
              refine X_bipush hK kd36_1.2.2.2.2.2.2.1 (by decide) ?_
              refine X_imul hK kd36_1.2.2.2.2.2.2.2.1 ?_
              refine X_iload hK (i := 5) 0 kd36_1.2.2.2.2.2.2.2.2.1 rfl ?_
              refine X_iadd hK kd36_1.2.2.2.2.2.2.2.2.2.1 ?_
              refine X_istore hK (i := 6) [(6, .int (iI ((z1233 * 9) + z1755))), (5, .int (iI z1755)), (4, .int (iI z1233)), (3, .int (iI (z1 - 1))), (0, .ref a0), (1, .ref a1), (2, .int (iI x2))] kd36_1.2.2.2.2.2.2.2.2.2.2.1 (by decide) rfl ?_
              refine X_iload hK (i := 4) 2 kd36_1.2.2.2.2.2.2.2.2.2.2.2 rfl ?_
              refine X_iloadn hK (i := 3) 3 kd36_2.1 rfl rfl ?_
              have J1835 : ∀ (z1834 : Int) (lz1834 : 0 ≤ z1834) (uz1834 : z1834 ≤ 1), X K E 82 [(6, .int (iI ((z1233 * 9) + z1755))), (5, .int (iI z1755)), (4, .int (iI z1233)), (3, .int (iI (z1 - 1))), (0, .ref a0), (1, .ref a1), (2, .int (iI x2))] [.int (iI z1834)] S g1756 0 0 := by
                intro z1834 lz1834 uz1834
                refine X_istore hK (i := 7) [(7, .int (iI z1834)), (6, .int (iI ((z1233 * 9) + z1755))), (5, .int (iI z1755)), (4, .int (iI z1233)), (3, .int (iI (z1 - 1))), (0, .ref a0), (1, .ref a1), (2, .int (iI x2))] kd36_3.2.2.2.2.2.2.2.2.2.2.1 (by decide) rfl ?_
                refine X_iload hK (i := 7) 0 kd36_3.2.2.2.2.2.2.2.2.2.2.2 rfl ?_
                have J1838 : ∀ (g1839 : xG) (hg1839 : xM [(13400, 0)] S g1756 g1839), X K E 98 [(7, .int (iI z1834)), (6, .int (iI ((z1233 * 9) + z1755))), (5, .int (iI z1755)), (4, .int (iI z1233)), (3, .int (iI (z1 - 1))), (0, .ref a0), (1, .ref a1), (2, .int (iI x2))] [] S g1839 0 0 := by
                  intro g1839 hg1839
                  refine X_iinc hK (i := 5) (z := z1755) (n := 1) 2 [(5, .int (iI (z1755 + 1))), (7, .int (iI z1834)), (6, .int (iI ((z1233 * 9) + z1755))), (4, .int (iI z1233)), (3, .int (iI (z1 - 1))), (0, .ref a0), (1, .ref a1), (2, .int (iI x2))] kd36_4.2.2.2.2.2.2.1 rfl (by decide) rfl ?_
                  refine X_goto hK 20 kd36_4.2.2.2.2.2.2.2.1 (by decide) ?_
                  refine X_lv [(5, .int (iI (z1755 + 1))), (4, .int (iI z1233)), (3, .int (iI (z1 - 1))), (0, .ref a0), (1, .ref a1), (2, .int (iI x2))] [0, 3, 4, 5, 6, 7] rfl ?_
                  exact ihP1802  g1839 (xM.tr (xM.tr xM.rf xLe.rf hg1756 (by decide)) xLe.rf hg1839 (by decide)) (z1755 + 1) (by omega) (by omega) (by omega)
                refine X_if_ne hK 98 (by omega) kd36_4.1 (by decide) (fun c1836 => ?_) (fun c1836 => ?_)
                · exact J1838 g1756 xM.rf
                · refine X_aloadn hK (i := 0) 5 kd36_4.2.1 rfl rfl ?_
                  refine X_getK hK fl_X8_21_9 hs_a0 ((hg1756 a0 9 0 3 hs_a0 (by decide)).trans ((hg1234 a0 9 0 3 hs_a0 (by decide)).trans ew0)) kd36_4.2.2.1 ?_
                  refine X_iload hK (i := 6) 1 kd36_4.2.2.2.1 rfl ?_
                  refine X_ldc hK (n := 1000000) kd36_4.2.2.2.2.1 m_53_22 (by decide) ?_
                  refine X_iast hK hs_w0 ⟨by decide, by decide, by decide, by omega⟩ (by decide) sl_13400 (by omega) (by omega) (by omega) (by omega) kd36_4.2.2.2.2.2.1 (fun g1840 hg1840 => ?_)
                  exact J1838 g1840 (xM_ua xM.rf hg1840 hs_w0 (by decide) (by decide))
              refine X_icmp_ne hK 64 (by omega) (by omega) kd36_2.2.1 (by decide) (fun c1826 => ?_) (fun c1826 => ?_)
              · refine X_aloadn hK (i := 0) 4 kd36_3.1 rfl rfl ?_
                refine X_aloadn hK (i := 1) 5 kd36_3.2.1 rfl rfl ?_
                refine X_iload hK (i := 4) 2 kd36_3.2.2.1 rfl ?_
                refine X_iload hK (i := 5) 1 kd36_3.2.2.2.1 rfl ?_
                refine X_callV hK [.ref a1, .int (iI z1233), .int (iI z1755)] [] lk_X8_74 (c_nextOf_2 _ _ _ _ _ S g1756 a0 a1 z1233 z1755 n0 w0 nw0 hs_a0 hs_a1 (by omega) (by omega) (by omega) ((hg1756 a0 9 0 4 hs_a0 (by decide)).trans ((hg1234 a0 9 0 4 hs_a0 (by decide)).trans en0)) ((hg1756 a0 9 0 3 hs_a0 (by decide)).trans ((hg1234 a0 9 0 3 hs_a0 (by decide)).trans ew0)) hs_w0 (by omega) (by omega)) hs_a0 ⟨by decide, rfl⟩ kd36_3.2.2.2.2.1 rfl rfl (by simp [Value.category]) (by decide) (by decide) (by decide) (by decide) (fun r1841 S1843 g1842 pr1841 qr1841 hg1842 => ?_)
                obtain ⟨rfl, rfl, z1844, rfl, lz1844, uz1844⟩ := pr1841
                refine X_st [.int (iI z1844)] rfl ?_
                refine X_iconst hK kd36_3.2.2.2.2.2.1 ?_
                refine X_icmp_eq hK 81 (by omega) (by omega) kd36_3.2.2.2.2.2.2.1 (by decide) (fun c1845 => ?_) (fun c1845 => ?_)
                · refine X_iconst hK kd36_3.2.2.2.2.2.2.2.2.2.1 ?_
                  exact J1835 0 (by omega) (by omega)
                · refine X_iconst hK kd36_3.2.2.2.2.2.2.2.1 ?_
                  refine X_goto hK 82 kd36_3.2.2.2.2.2.2.2.2.1 (by decide) ?_
                  exact J1835 1 (by omega) (by omega)
              · refine X_aloadn hK (i := 0) 4 kd36_2.2.2.1 rfl rfl ?_
                refine X_getK hK fl_X8_21_9 hs_a0 ((hg1756 a0 9 0 3 hs_a0 (by decide)).trans ((hg1234 a0 9 0 3 hs_a0 (by decide)).trans ew0)) kd36_2.2.2.2.1 ?_
                refine X_iload hK (i := 6) 0 kd36_2.2.2.2.2.1 rfl ?_
                refine X_iald hK hs_w0 ⟨by decide, by decide, by omega⟩ sl_13400 (by omega) (by omega) kd36_2.2.2.2.2.2.1 (fun z1846 ez1846 lz1846 uz1846 => ?_)
                refine X_iloadn hK (i := 2) 6 kd36_2.2.2.2.2.2.2.1 rfl rfl ?_
                refine X_icmp_ne hK 60 (by omega) (by omega) kd36_2.2.2.2.2.2.2.2.1 (by decide) (fun c1847 => ?_) (fun c1847 => ?_)
                · refine X_iconst hK kd36_2.2.2.2.2.2.2.2.2.2.2.1 ?_
                  refine X_goto hK 82 kd36_2.2.2.2.2.2.2.2.2.2.2.2 (by decide) ?_
                  exact J1835 0 (by omega) (by omega)
                · refine X_iconst hK kd36_2.2.2.2.2.2.2.2.2.1 ?_
                  refine X_goto hK 82 kd36_2.2.2.2.2.2.2.2.2.2.1 (by decide) ?_
                  exact J1835 1 (by omega) (by omega)
        exact P1802 ((18 - 0 : Int).toNat + 1) g1234 xM.rf 0 (by omega) (by omega) (by omega)
  exact P1541 (((z1 - 1) - (-16) : Int).toNat + 1) g xM.rf (z1 - 1) (by omega) (by omega) (by omega)

set_option maxHeartbeats 4000000 in
set_option maxRecDepth 100000 in
theorem c_walk_2 (l : Launch) (D : va_G) (kA : Nat → ClassId) (b0 : Nat) (t0 : Nat → Nat) (S : xT) (g : xG) (a0 : Nat) (a1 : Nat) (n0 : Int) (w0 nw0 : Nat) (hs_a0 : S a0 = some (9, 0)) (hs_a1 : S a1 = some (4, 0)) (hn0 : 2 ≤ n0 ∧ n0 ≤ 2) (en0 : g a0 4 = .int (iI n0)) (ew0 : g a0 3 = .ref w0) (hs_w0 : S w0 = some (13400, nw0)) (hp0 : 36 ≤ (nw0 : Int)) (hp1 : (nw0 : Int) ≤ 2147483647) : xMt l yX8_walk cX8_walk 5 none 1 0 0 26 D kA b0 t0 [(9, 5), (13300, 0)] [.ref a0, .ref a1] S g (fun (r : Option Value) (S1 : xT) (g1 : xG) => S = S1 ∧ r = none) := by
  refine xEnterV (by decide) (by simp [lg_sl, Value.category]) [(0, .ref a0), (1, .ref a1)] rfl ?_
  intro K E hK hret _ _ _
  refine X_iconst hK kd36_20.2.2.2.2.2.2.2.2.2.1 ?_
  refine X_istoren hK (i := 2) [(2, .int (iI (-1))), (0, .ref a0), (1, .ref a1)] kd36_20.2.2.2.2.2.2.2.2.2.2.1 rfl (by decide) rfl ?_
  refine X_aloadn hK (i := 0) 1 kd36_20.2.2.2.2.2.2.2.2.2.2.2 rfl rfl ?_
  refine X_getK hK fl_X8_24_9 hs_a0 en0 kd36_21.1 ?_
  refine X_iconst hK kd36_21.2.1 ?_
  refine X_isub hK kd36_21.2.2.1 ?_
  refine X_istoren hK (i := 3) [(3, .int (iI (n0 - 1))), (2, .int (iI (-1))), (0, .ref a0), (1, .ref a1)] kd36_21.2.2.2.1 rfl (by decide) rfl ?_
  have P595 : ∀ (nP595 : Nat) (z459 : Int) (_ : (-1) ≤ z459) (_ : z459 ≤ 1) (z460 : Int) (_ : (-1) ≤ z460) (_ : z460 ≤ 1) (_ : z459 - (-17) < (nP595 : Int)), X K E 9 [(3, .int (iI z459)), (2, .int (iI z460)), (0, .ref a0), (1, .ref a1)] [] S g 0 0 := by
    intro nP595
    induction nP595 with
    | zero => intro z459 lz459 uz459 z460 lz460 uz460 mP595; exact False.elim (by omega)
    | succ nP595 ihP595 =>
      intro z459 lz459 uz459 z460 lz460 uz460 mP595
      refine X_iloadn hK (i := 3) 0 kd36_21.2.2.2.2.1 rfl rfl ?_
      refine X_if_lt hK 39 (by omega) kd36_21.2.2.2.2.2.1 (by decide) (fun c596 => ?_) (fun c596 => ?_)
      · refine X_iconst hK kd36_22.2.2.2.2.2.2.2.2.2.2.1 ?_
        refine X_istoren hK (i := 3) [(3, .int (iI 0)), (2, .int (iI z460)), (0, .ref a0), (1, .ref a1)] kd36_22.2.2.2.2.2.2.2.2.2.2.2 rfl (by decide) rfl ?_
        refine X_aloadn hK (i := 0) 2 kd36_23.1 rfl rfl ?_
        refine X_iconst hK kd36_23.2.1 ?_
        refine X_puti hK fl_X8_28_9 hs_a0 (by decide) sl_9_5 (by omega) (by omega) kd36_23.2.2.1 (fun g602 hg602 => ?_)
        refine X_iconst hK kd36_23.2.2.2.1 ?_
        refine X_istore hK (i := 4) [(4, .int (iI 0)), (3, .int (iI 0)), (2, .int (iI z460)), (0, .ref a0), (1, .ref a1)] kd36_23.2.2.2.2.1 (by decide) rfl ?_
        have P710 : ∀ (nP710 : Nat) (g695 : xG) (_ : xM [(9, 5), (13300, 0)] S g602 g695) (z692 : Int) (_ : 0 ≤ z692) (_ : z692 ≤ 2) (z693 : Int) (_ : 0 ≤ z693) (_ : z693 ≤ 3) (z694 : Int) (_ : (-1) ≤ z694) (_ : z694 ≤ 1) (q696 : Int) (_ : 0 ≤ q696) (_ : q696 ≤ 9) (_ : g695 a0 5 = .int (iI q696)) (_ : q696 ≤ z692) (_ : 18 - z692 < (nP710 : Int)), X K E 49 [(4, .int (iI z692)), (3, .int (iI z693)), (2, .int (iI z694)), (0, .ref a0), (1, .ref a1)] [] S g695 0 0 := by
          intro nP710
          induction nP710 with
          | zero => intro g695 hg695 z692 lz692 uz692 z693 lz693 uz693 z694 lz694 uz694 q696 lq696 uq696 eq696 v711 mP710; exact False.elim (by omega)
          | succ nP710 ihP710 =>
            intro g695 hg695 z692 lz692 uz692 z693 lz693 uz693 z694 lz694 uz694 q696 lq696 uq696 eq696 v711 mP710
            refine X_iload hK (i := 4) 0 kd36_23.2.2.2.2.2.1 rfl ?_
            refine X_aloadn hK (i := 0) 3 kd36_23.2.2.2.2.2.2.1 rfl rfl ?_
            refine X_getK hK fl_X8_24_9 hs_a0 ((hg695 a0 9 0 4 hs_a0 (by decide)).trans ((xs_k hg602 (by decide)).trans en0)) kd36_23.2.2.2.2.2.2.2.1 ?_
            refine X_icmp_ge hK 106 (by omega) (by omega) kd36_23.2.2.2.2.2.2.2.2.1 (by decide) (fun c712 => ?_) (fun c712 => ?_)
            · exact hret _ _ _ _ _ _ kd36_26.2.2.2.2 ⟨rfl, rfl⟩ (Nat.le_refl _) (Nat.le_refl _)
            · refine X_iloadn hK (i := 2) 2 kd36_23.2.2.2.2.2.2.2.2.2.1 rfl rfl ?_
              refine X_iconst hK kd36_23.2.2.2.2.2.2.2.2.2.2.1 ?_
              refine X_icmp_eq hK 106 (by omega) (by omega) kd36_23.2.2.2.2.2.2.2.2.2.2.2 (by decide) (fun c713 => ?_) (fun c713 => ?_)
              · exact hret _ _ _ _ _ _ kd36_26.2.2.2.2 ⟨rfl, rfl⟩ (Nat.le_refl _) (Nat.le_refl _)
              · refine X_aloadn hK (i := 0) 3 kd36_24.1 rfl rfl ?_
                refine X_getr hK 13300 9 fl_X8_18_9 hs_a0 sl_9_2 kd36_24.2.1 (fun b714 eb714 hs_b714 => ?_)
                refine X_iload hK (i := 4) 0 kd36_24.2.2.1 rfl ?_
                refine X_aloadn hK (i := 0) 3 kd36_24.2.2.2.1 rfl rfl ?_
                refine X_getr hK 13100 9 fl_X8_11_9 hs_a0 sl_9_0 kd36_24.2.2.2.2.1 (fun b715 eb715 hs_b715 => ?_)
                refine X_iloadn hK (i := 2) 2 kd36_24.2.2.2.2.2.1 rfl rfl ?_
                refine X_iald hK hs_b715 (by decide) sl_13100 (by omega) (by omega) kd36_24.2.2.2.2.2.2.1 (fun z716 ez716 lz716 uz716 => ?_)
                refine X_iast hK hs_b714 (by decide) (by decide) sl_13300 (by omega) (by omega) (by omega) (by omega) kd36_24.2.2.2.2.2.2.2.1 (fun g717 hg717 => ?_)
                refine X_aloadn hK (i := 0) 3 kd36_24.2.2.2.2.2.2.2.2.1 rfl rfl ?_
                refine X_dup hK kd36_24.2.2.2.2.2.2.2.2.2.1 rfl ?_
                refine X_getK hK fl_X8_28_9 hs_a0 ((xs_a hg717 (xne hs_a0 hs_b714 (by decide))).trans eq696) kd36_24.2.2.2.2.2.2.2.2.2.2.1 ?_
                refine X_iconst hK kd36_24.2.2.2.2.2.2.2.2.2.2.2 ?_
                refine X_iadd hK kd36_25.1 ?_
                refine X_puti hK fl_X8_28_9 hs_a0 (by decide) sl_9_5 (by omega) (by omega) kd36_25.2.1 (fun g718 hg718 => ?_)
                refine X_iloadn hK (i := 3) 1 kd36_25.2.2.1 rfl rfl ?_
                refine X_iconst hK kd36_25.2.2.2.1 ?_
                refine X_iloadn hK (i := 2) 2 kd36_25.2.2.2.2.1 rfl rfl ?_
                refine X_ishl hK kd36_25.2.2.2.2.2.1 (fun z719 ez719 lz719 uz719 => ?_)
                have bz719 := xshlB 1 ez719 ⟨lz719, uz719⟩ (by omega) (by decide)
                refine X_ior hK kd36_25.2.2.2.2.2.2.1 (fun z720 ez720 lz720 uz720 => ?_)
                have bz720 := xiorB 2 ez720 ⟨lz720, uz720⟩ (by omega) (by omega) (by decide)
                have gz720 := xiorG ez720 ⟨lz720, uz720⟩ (by omega) (by omega)
                refine X_istoren hK (i := 3) [(3, .int (iI z720)), (4, .int (iI z692)), (2, .int (iI z694)), (0, .ref a0), (1, .ref a1)] kd36_25.2.2.2.2.2.2.2.1 rfl (by decide) rfl ?_
                refine X_aloadn hK (i := 0) 3 kd36_25.2.2.2.2.2.2.2.2.1 rfl rfl ?_
                refine X_aloadn hK (i := 1) 4 kd36_25.2.2.2.2.2.2.2.2.2.1 rfl rfl ?_
                refine X_iloadn hK (i := 3) 0 kd36_25.2.2.2.2.2.2.2.2.2.2.1 rfl rfl ?_
                refine X_iloadn hK (i := 2) 2 kd36_25.2.2.2.2.2.2.2.2.2.2.2 rfl rfl ?_
                refine X_callV hK [.ref a1, .int (iI z720), .int (iI z694)] [] lk_X8_74 (c_nextOf_2 _ _ _ _ _ S g718 a0 a1 z720 z694 n0 w0 nw0 hs_a0 hs_a1 (by omega) (by omega) (by omega) ((xs_k hg718 (by decide)).trans ((xs_a hg717 (xne hs_a0 hs_b714 (by decide))).trans ((hg695 a0 9 0 4 hs_a0 (by decide)).trans ((xs_k hg602 (by decide)).trans en0)))) ((xs_k hg718 (by decide)).trans ((xs_a hg717 (xne hs_a0 hs_b714 (by decide))).trans ((hg695 a0 9 0 3 hs_a0 (by decide)).trans ((xs_k hg602 (by decide)).trans ew0)))) hs_w0 (by omega) (by omega)) hs_a0 ⟨by decide, rfl⟩ kd36_26.1 rfl rfl (by simp [Value.category]) (by decide) (by decide) (by decide) (by decide) (fun r721 S723 g722 pr721 qr721 hg722 => ?_)
                obtain ⟨rfl, rfl, z724, rfl, lz724, uz724⟩ := pr721
                refine X_st [.int (iI z724)] rfl ?_
                refine X_istoren hK (i := 2) [(2, .int (iI z724)), (3, .int (iI z720)), (4, .int (iI z692)), (0, .ref a0), (1, .ref a1)] kd36_26.2.1 rfl (by decide) rfl ?_
                refine X_iinc hK (i := 4) (z := z692) (n := 1) 2 [(4, .int (iI (z692 + 1))), (2, .int (iI z724)), (3, .int (iI z720)), (0, .ref a0), (1, .ref a1)] kd36_26.2.2.1 rfl (by decide) rfl ?_
                refine X_goto hK 49 kd36_26.2.2.2.1 (by decide) ?_
                refine X_lv [(4, .int (iI (z692 + 1))), (3, .int (iI z720)), (2, .int (iI z724)), (0, .ref a0), (1, .ref a1)] [0, 2, 1, 3, 4] rfl ?_
                exact ihP710  g718 (xM_up (xM_ua (xM.tr xM.rf xLe.rf hg695 (by decide)) hg717 hs_b714 (by decide) (by decide)) hg718 hs_a0 (by decide) (by decide)) (z692 + 1) (by omega) (by omega) z720 (by omega) (by omega) z724 (by omega) (by omega) (q696 + 1) (by omega) (by omega) (xs_s hg718) (by omega) (by omega)
        exact P710 ((18 - 0 : Int).toNat + 1) g602 xM.rf 0 (by omega) (by omega) 0 (by omega) (by omega) z460 (by omega) (by omega) 0 (by omega) (by omega) (xs_s hg602) (by omega) (by omega)
      · refine X_aloadn hK (i := 0) 2 kd36_21.2.2.2.2.2.2.1 rfl rfl ?_
        refine X_getK hK fl_X8_21_9 hs_a0 ew0 kd36_21.2.2.2.2.2.2.2.1 ?_
        refine X_iconst hK kd36_21.2.2.2.2.2.2.2.2.1 ?_
        refine X_iloadn hK (i := 3) 0 kd36_21.2.2.2.2.2.2.2.2.2.1 rfl rfl ?_
        refine X_ishl hK kd36_21.2.2.2.2.2.2.2.2.2.2.1 (fun z725 ez725 lz725 uz725 => ?_)
        have bz725 := xshlB 1 ez725 ⟨lz725, uz725⟩ (by omega) (by decide)
        refine X_bipush hK kd36_21.2.2.2.2.2.2.2.2.2.2.2 (by decide) ?_
        refine X_imul hK kd36_22.1 ?_
        refine X_iloadn hK (i := 3) 0 kd36_22.2.1 rfl rfl ?_
        refine X_iadd hK kd36_22.2.2.1 ?_
        refine X_iald hK hs_w0 ⟨by decide, by decide, by omega⟩ sl_13400 (by omega) (by omega) kd36_22.2.2.2.1 (fun z726 ez726 lz726 uz726 => ?_)
        refine X_ldc hK (n := 1000000) kd36_22.2.2.2.2.1 m_53_22 (by decide) ?_
        have J729 : ∀ (z728 : Int) (lz728 : (-1) ≤ z728) (uz728 : z728 ≤ 1), X K E 33 [(3, .int (iI z459)), (2, .int (iI z728)), (0, .ref a0), (1, .ref a1)] [] S g 0 0 := by
          intro z728 lz728 uz728
          refine X_iinc hK (i := 3) (z := z459) (n := (-1)) 0 [(3, .int (iI (z459 + (-1)))), (2, .int (iI z728)), (0, .ref a0), (1, .ref a1)] kd36_22.2.2.2.2.2.2.2.2.1 rfl (by decide) rfl ?_
          refine X_goto hK 9 kd36_22.2.2.2.2.2.2.2.2.2.1 (by decide) ?_
          exact ihP595  (z459 + (-1)) (by omega) (by omega) z728 (by omega) (by omega) (by omega)
        refine X_icmp_eq hK 33 (by omega) (by omega) kd36_22.2.2.2.2.2.1 (by decide) (fun c727 => ?_) (fun c727 => ?_)
        · exact J729 z460 (by omega) (by omega)
        · refine X_iloadn hK (i := 3) 0 kd36_22.2.2.2.2.2.2.1 rfl rfl ?_
          refine X_istoren hK (i := 2) [(2, .int (iI z459)), (3, .int (iI z459)), (0, .ref a0), (1, .ref a1)] kd36_22.2.2.2.2.2.2.2.1 rfl (by decide) rfl ?_
          refine X_lv [(3, .int (iI z459)), (2, .int (iI z459)), (0, .ref a0), (1, .ref a1)] [1, 0, 2, 3] rfl ?_
          exact J729 z459 (by omega) (by omega)
  exact P595 (((n0 - 1) - (-17) : Int).toNat + 1) (n0 - 1) (by omega) (by omega) (-1) (by omega) (by omega) (by omega)

set_option maxHeartbeats 4000000 in
set_option maxRecDepth 100000 in
theorem c_soonestAt_3 (l : Launch) (D : va_G) (kA : Nat → ClassId) (b0 : Nat) (t0 : Nat → Nat) (S : xT) (g : xG) (a0 : Nat) (a1 : Nat) (x2 : Int) (x3 : Int) (n0 : Int) (w0 nw0 : Nat) (hs_a0 : S a0 = some (9, 0)) (hs_a1 : S a1 = some (4, 0)) (hx2 : 1 ≤ x2 ∧ x2 ≤ 7) (hx3 : 0 ≤ x3 ∧ x3 ≤ 2) (hn0 : 3 ≤ n0 ∧ n0 ≤ 3) (en0 : g a0 4 = .int (iI n0)) (ew0 : g a0 3 = .ref w0) (hs_w0 : S w0 = some (13400, nw0)) (hp0 : 72 ≤ (nw0 : Int)) (hp1 : (nw0 : Int) ≤ 2147483647) : xMt l yX8_soonestAt cX8_soonestAt 8 (some .int) 1 0 0 13 D kA b0 t0 [] [.ref a0, .ref a1, .int (iI x2), .int (iI x3)] S g (fun (r : Option Value) (S1 : xT) (g1 : xG) => S = S1 ∧ g = g1 ∧ ∃ z : Int, r = some (.int (iI z)) ∧ (-2147483648) ≤ z ∧ z ≤ 1000000) := by
  refine xEnterI (by decide) (by simp [lg_sl, Value.category]) [(0, .ref a0), (1, .ref a1), (2, .int (iI x2)), (3, .int (iI x3))] rfl ?_
  intro K E hK hret _ _ _
  refine X_aloadn hK (i := 1) 1 kd36_15.2.2.2.2.2.2.2.2.2.1 rfl rfl ?_
  refine X_getr hK 11604 10 fl_X8_62_4 hs_a1 sl_4_6 kd36_15.2.2.2.2.2.2.2.2.2.2.1 (fun b1 eb1 hs_b1 => ?_)
  refine X_aloadn hK (i := 0) 0 kd36_15.2.2.2.2.2.2.2.2.2.2.2 rfl rfl ?_
  refine X_getr hK 13100 9 fl_X8_11_9 hs_a0 sl_9_0 kd36_16.1 (fun b2 eb2 hs_b2 => ?_)
  refine X_iloadn hK (i := 3) 3 kd36_16.2.1 rfl rfl ?_
  refine X_iald hK hs_b2 (by decide) sl_13100 (by omega) (by omega) kd36_16.2.2.1 (fun z3 ez3 lz3 uz3 => ?_)
  refine X_aald hK 11500 10 hs_b1 (by decide) sl_11604 (by omega) (by omega) kd36_16.2.2.2.1 (fun b4 eb4 hs_b4 => ?_)
  refine X_astore hK (i := 4) [(4, .ref b4), (0, .ref a0), (1, .ref a1), (2, .int (iI x2)), (3, .int (iI x3))] kd36_16.2.2.2.2.1 (by decide) rfl ?_
  refine X_iloadn hK (i := 2) 3 kd36_16.2.2.2.2.2.1 rfl rfl ?_
  refine X_iconst hK kd36_16.2.2.2.2.2.2.1 ?_
  refine X_iloadn hK (i := 3) 4 kd36_16.2.2.2.2.2.2.2.1 rfl rfl ?_
  refine X_ishl hK kd36_16.2.2.2.2.2.2.2.2.1 (fun z5 ez5 lz5 uz5 => ?_)
  have bz5 := xshlB 2 ez5 ⟨lz5, uz5⟩ (by omega) (by decide)
  refine X_ixor hK kd36_16.2.2.2.2.2.2.2.2.2.1 (fun z6 ez6 lz6 uz6 => ?_)
  have bz6 := xixorB 3 ez6 ⟨lz6, uz6⟩ (by omega) (by omega) (by decide)
  refine X_istore hK (i := 5) [(5, .int (iI z6)), (4, .ref b4), (0, .ref a0), (1, .ref a1), (2, .int (iI x2)), (3, .int (iI x3))] kd36_16.2.2.2.2.2.2.2.2.2.2.1 (by decide) rfl ?_
  refine X_iload hK (i := 5) 0 kd36_16.2.2.2.2.2.2.2.2.2.2.2 rfl ?_
  have J10 : ∀ (z9 : Int) (lz9 : 0 ≤ z9) (uz9 : z9 ≤ 1000000), X K E 34 [(5, .int (iI z6)), (4, .ref b4), (0, .ref a0), (1, .ref a1), (2, .int (iI x2)), (3, .int (iI x3))] [.int (iI z9)] S g 0 0 := by
    intro z9 lz9 uz9
    refine X_istore hK (i := 6) [(6, .int (iI z9)), (5, .int (iI z6)), (4, .ref b4), (0, .ref a0), (1, .ref a1), (2, .int (iI x2)), (3, .int (iI x3))] kd36_17.2.2.2.2.2.2.1 (by decide) rfl ?_
    refine X_iconst hK kd36_17.2.2.2.2.2.2.2.1 ?_
    refine X_istore hK (i := 7) [(7, .int (iI 0)), (6, .int (iI z9)), (5, .int (iI z6)), (4, .ref b4), (0, .ref a0), (1, .ref a1), (2, .int (iI x2)), (3, .int (iI x3))] kd36_17.2.2.2.2.2.2.2.2.1 (by decide) rfl ?_
    have P123 : ∀ (nP123 : Nat) (z104 : Int) (_ : 0 ≤ z104) (_ : z104 ≤ 3) (z105 : Int) (_ : (-2147483648) ≤ z105) (_ : z105 ≤ 1000000) (_ : 19 - z104 < (nP123 : Int)), X K E 39 [(7, .int (iI z104)), (6, .int (iI z105)), (5, .int (iI z6)), (4, .ref b4), (0, .ref a0), (1, .ref a1), (2, .int (iI x2)), (3, .int (iI x3))] [] S g 0 0 := by
      intro nP123
      induction nP123 with
      | zero => intro z104 lz104 uz104 z105 lz105 uz105 mP123; exact False.elim (by omega)
      | succ nP123 ihP123 =>
        intro z104 lz104 uz104 z105 lz105 uz105 mP123
        refine X_iload hK (i := 7) 0 kd36_17.2.2.2.2.2.2.2.2.2.1 rfl ?_
        refine X_aloadn hK (i := 0) 4 kd36_17.2.2.2.2.2.2.2.2.2.2.1 rfl rfl ?_
        refine X_getK hK fl_X8_24_9 hs_a0 en0 kd36_17.2.2.2.2.2.2.2.2.2.2.2 ?_
        have J131 : X K E 90 [(7, .int (iI z104)), (6, .int (iI z105)), (5, .int (iI z6)), (4, .ref b4), (0, .ref a0), (1, .ref a1), (2, .int (iI x2)), (3, .int (iI x3))] [] S g 0 0 := by
          refine X_iload hK (i := 6) 1 kd36_19.2.2.2.2.2.2.2.2.2.2.2 rfl ?_
          refine X_aloadn hK (i := 0) 4 kd36_20.1 rfl rfl ?_
          refine X_getr hK 13200 9 fl_X8_15_9 hs_a0 sl_9_1 kd36_20.2.1 (fun b132 eb132 hs_b132 => ?_)
          refine X_iloadn hK (i := 3) 7 kd36_20.2.2.1 rfl rfl ?_
          refine X_iald hK hs_b132 (by decide) sl_13200 (by omega) (by omega) kd36_20.2.2.2.1 (fun z133 ez133 lz133 uz133 => ?_)
          refine X_icmp_gt hK 106 (by omega) (by omega) kd36_20.2.2.2.2.1 (by decide) (fun c134 => ?_) (fun c134 => ?_)
          · refine X_ldc hK (n := 1000000) kd36_20.2.2.2.2.2.2.2.1 m_53_22 (by decide) ?_
            exact hret _ _ _ _ _ _ _ kd36_20.2.2.2.2.2.2.2.2.1 ⟨rfl, rfl, 1000000, rfl, (by omega), (by omega)⟩ (Nat.le_refl _) (Nat.le_refl _)
          · refine X_iload hK (i := 6) 1 kd36_20.2.2.2.2.2.1 rfl ?_
            refine X_goto hK 108 kd36_20.2.2.2.2.2.2.1 (by decide) ?_
            exact hret _ _ _ _ _ _ _ kd36_20.2.2.2.2.2.2.2.2.1 ⟨rfl, rfl, z105, rfl, (by omega), (by omega)⟩ (Nat.le_refl _) (Nat.le_refl _)
        refine X_icmp_ge hK 90 (by omega) (by omega) kd36_18.1 (by decide) (fun c124 => ?_) (fun c124 => ?_)
        · exact J131 
        · refine X_iload hK (i := 5) 2 kd36_18.2.1 rfl ?_
          refine X_if_eq hK 90 (by omega) kd36_18.2.2.1 (by decide) (fun c135 => ?_) (fun c135 => ?_)
          · exact J131 
          · refine X_iload hK (i := 6) 1 kd36_18.2.2.2.1 rfl ?_
            refine X_aloadn hK (i := 0) 4 kd36_18.2.2.2.2.1 rfl rfl ?_
            refine X_getK hK fl_X8_21_9 hs_a0 ew0 kd36_18.2.2.2.2.2.1 ?_
            refine X_iload hK (i := 5) 2 kd36_18.2.2.2.2.2.2.1 rfl ?_
            refine X_bipush hK kd36_18.2.2.2.2.2.2.2.1 (by decide) ?_
            refine X_imul hK kd36_18.2.2.2.2.2.2.2.2.1 ?_
            refine X_iload hK (i := 7) 0 kd36_18.2.2.2.2.2.2.2.2.2.1 rfl ?_
            refine X_iadd hK kd36_18.2.2.2.2.2.2.2.2.2.2.1 ?_
            refine X_iald hK hs_w0 ⟨by decide, by decide, by omega⟩ sl_13400 (by omega) (by omega) kd36_18.2.2.2.2.2.2.2.2.2.2.2 (fun z136 ez136 lz136 uz136 => ?_)
            refine X_aload hK (i := 4) 3 kd36_19.1 rfl ?_
            refine X_aloadn hK (i := 0) 4 kd36_19.2.1 rfl rfl ?_
            refine X_getK hK fl_X8_11_9 hs_a0 eb2 kd36_19.2.2.1 ?_
            refine X_iload hK (i := 7) 0 kd36_19.2.2.2.1 rfl ?_
            refine X_iald hK hs_b2 (by decide) sl_13100 (by omega) (by omega) kd36_19.2.2.2.2.1 (fun z137 ez137 lz137 uz137 => ?_)
            refine X_iald hK hs_b4 (by decide) sl_11500 (by omega) (by omega) kd36_19.2.2.2.2.2.1 (fun z138 ez138 lz138 uz138 => ?_)
            refine X_iadd hK kd36_19.2.2.2.2.2.2.1 ?_
            refine X_norm (fun z139 ez139 lz139 uz139 => ?_)
            refine X_mmin hK mm_X8_68 ⟨by decide, by simp [Value.category]⟩ (by decide) (by omega) (by omega) kd36_19.2.2.2.2.2.2.2.1 (fun z140 ez140 fz140 => ?_)
            have bz140 : (-2147483648) ≤ z140 ∧ z140 ≤ 1000000 := by omega
            refine X_istore hK (i := 6) [(6, .int (iI z140)), (7, .int (iI z104)), (5, .int (iI z6)), (4, .ref b4), (0, .ref a0), (1, .ref a1), (2, .int (iI x2)), (3, .int (iI x3))] kd36_19.2.2.2.2.2.2.2.2.1 (by decide) rfl ?_
            refine X_iinc hK (i := 7) (z := z104) (n := 1) 1 [(7, .int (iI (z104 + 1))), (6, .int (iI z140)), (5, .int (iI z6)), (4, .ref b4), (0, .ref a0), (1, .ref a1), (2, .int (iI x2)), (3, .int (iI x3))] kd36_19.2.2.2.2.2.2.2.2.2.1 rfl (by decide) rfl ?_
            refine X_goto hK 39 kd36_19.2.2.2.2.2.2.2.2.2.2.1 (by decide) ?_
            exact ihP123  (z104 + 1) (by omega) (by omega) z140 (by omega) (by omega) (by omega)
    exact P123 ((19 - 0 : Int).toNat + 1) 0 (by omega) (by omega) z9 (by omega) (by omega) (by omega)
  refine X_if_ne hK 32 (by omega) kd36_17.1 (by decide) (fun c7 => ?_) (fun c7 => ?_)
  · refine X_ldc hK (n := 1000000) kd36_17.2.2.2.2.2.1 m_53_22 (by decide) ?_
    exact J10 1000000 (by omega) (by omega)
  · refine X_aload hK (i := 4) 1 kd36_17.2.1 rfl ?_
    refine X_iconst hK kd36_17.2.2.1 ?_
    refine X_iald hK hs_b4 (by decide) sl_11500 (by omega) (by omega) kd36_17.2.2.2.1 (fun z141 ez141 lz141 uz141 => ?_)
    refine X_goto hK 34 kd36_17.2.2.2.2.1 (by decide) ?_
    exact J10 z141 (by omega) (by omega)

set_option maxHeartbeats 4000000 in
set_option maxRecDepth 100000 in
theorem c_findSoonest_3 (l : Launch) (D : va_G) (kA : Nat → ClassId) (b0 : Nat) (t0 : Nat → Nat) (S : xT) (g : xG) (a0 : Nat) (a1 : Nat) (n0 : Int) (w0 nw0 : Nat) (hs_a0 : S a0 = some (9, 0)) (hs_a1 : S a1 = some (4, 0)) (hn0 : 3 ≤ n0 ∧ n0 ≤ 3) (en0 : g a0 4 = .int (iI n0)) (ew0 : g a0 3 = .ref w0) (hs_w0 : S w0 = some (13400, nw0)) (hp0 : 72 ≤ (nw0 : Int)) (hp1 : (nw0 : Int) ≤ 2147483647) : xMt l yX8_findSoonest cX8_findSoonest 4 none 2 0 0 40 D kA b0 t0 [(13400, 0)] [.ref a0, .ref a1] S g (fun (r : Option Value) (S1 : xT) (g1 : xG) => S = S1 ∧ r = none) := by
  refine xEnterV (by decide) (by simp [lg_sl, Value.category]) [(0, .ref a0), (1, .ref a1)] rfl ?_
  intro K E hK hret _ _ _
  refine X_iconst hK kd36_4.2.2.2.2.2.2.2.2.2.2.2 ?_
  refine X_istoren hK (i := 2) [(2, .int (iI 1)), (0, .ref a0), (1, .ref a1)] kd36_5.1 rfl (by decide) rfl ?_
  have P1230 : ∀ (nP1230 : Nat) (g1026 : xG) (_ : xM [(13400, 0)] S g g1026) (z1025 : Int) (_ : 1 ≤ z1025) (_ : z1025 ≤ 8) (_ : 24 - z1025 < (nP1230 : Int)), X K E 2 [(2, .int (iI z1025)), (0, .ref a0), (1, .ref a1)] [] S g1026 0 0 := by
    intro nP1230
    induction nP1230 with
    | zero => intro g1026 hg1026 z1025 lz1025 uz1025 mP1230; exact False.elim (by omega)
    | succ nP1230 ihP1230 =>
      intro g1026 hg1026 z1025 lz1025 uz1025 mP1230
      refine X_iloadn hK (i := 2) 0 kd36_5.2.1 rfl rfl ?_
      refine X_iconst hK kd36_5.2.2.1 ?_
      refine X_aloadn hK (i := 0) 1 kd36_5.2.2.2.1 rfl rfl ?_
      refine X_getK hK fl_X8_24_9 hs_a0 ((hg1026 a0 9 0 4 hs_a0 (by decide)).trans en0) kd36_5.2.2.2.2.1 ?_
      refine X_ishl hK kd36_5.2.2.2.2.2.1 (fun z1231 ez1231 lz1231 uz1231 => ?_)
      have bz1231 := xshlB 3 ez1231 ⟨lz1231, uz1231⟩ (by omega) (by decide)
      refine X_icmp_ge hK 66 (by omega) (by omega) kd36_5.2.2.2.2.2.2.1 (by decide) (fun c1232 => ?_) (fun c1232 => ?_)
      · exact hret _ _ _ _ _ _ kd36_8.2.2.2.1 ⟨rfl, rfl⟩ (Nat.le_refl _) (Nat.le_refl _)
      · refine X_iconst hK kd36_5.2.2.2.2.2.2.2.1 ?_
        refine X_istoren hK (i := 3) [(3, .int (iI 0)), (2, .int (iI z1025)), (0, .ref a0), (1, .ref a1)] kd36_5.2.2.2.2.2.2.2.2.1 rfl (by decide) rfl ?_
        have P1404 : ∀ (nP1404 : Nat) (g1374 : xG) (_ : xM [(13400, 0)] S g1026 g1374) (z1373 : Int) (_ : 0 ≤ z1373) (_ : z1373 ≤ 3) (_ : 19 - z1373 < (nP1404 : Int)), X K E 14 [(3, .int (iI z1373)), (2, .int (iI z1025)), (0, .ref a0), (1, .ref a1)] [] S g1374 0 0 := by
          intro nP1404
          induction nP1404 with
          | zero => intro g1374 hg1374 z1373 lz1373 uz1373 mP1404; exact False.elim (by omega)
          | succ nP1404 ihP1404 =>
            intro g1374 hg1374 z1373 lz1373 uz1373 mP1404
            refine X_iloadn hK (i := 3) 0 kd36_5.2.2.2.2.2.2.2.2.2.1 rfl rfl ?_
            refine X_aloadn hK (i := 0) 2 kd36_5.2.2.2.2.2.2.2.2.2.2.1 rfl rfl ?_
            refine X_getK hK fl_X8_24_9 hs_a0 ((hg1374 a0 9 0 4 hs_a0 (by decide)).trans ((hg1026 a0 9 0 4 hs_a0 (by decide)).trans en0)) kd36_5.2.2.2.2.2.2.2.2.2.2.2 ?_
            refine X_icmp_ge hK 60 (by omega) (by omega) kd36_6.1 (by decide) (fun c1405 => ?_) (fun c1405 => ?_)
            · refine X_iinc hK (i := 2) (z := z1025) (n := 1) 1 [(2, .int (iI (z1025 + 1))), (3, .int (iI z1373)), (0, .ref a0), (1, .ref a1)] kd36_8.2.1 rfl (by decide) rfl ?_
              refine X_goto hK 2 kd36_8.2.2.1 (by decide) ?_
              refine X_lv [(2, .int (iI (z1025 + 1))), (0, .ref a0), (1, .ref a1)] [0, 2, 3] rfl ?_
              exact ihP1230  g1374 (xM.tr (xM.tr xM.rf xLe.rf hg1026 (by decide)) xLe.rf hg1374 (by decide)) (z1025 + 1) (by omega) (by omega) (by omega)
            · refine X_aloadn hK (i := 0) 2 kd36_6.2.1 rfl rfl ?_
              refine X_getK hK fl_X8_21_9 hs_a0 ((hg1374 a0 9 0 3 hs_a0 (by decide)).trans ((hg1026 a0 9 0 3 hs_a0 (by decide)).trans ew0)) kd36_6.2.2.1 ?_
              refine X_iloadn hK (i := 2) 1 kd36_6.2.2.2.1 rfl rfl ?_
              refine X_bipush hK kd36_6.2.2.2.2.1 (by decide) ?_
              refine X_imul hK kd36_6.2.2.2.2.2.1 ?_
              refine X_iloadn hK (i := 3) 0 kd36_6.2.2.2.2.2.2.1 rfl rfl ?_
              refine X_iadd hK kd36_6.2.2.2.2.2.2.2.1 ?_
              refine X_iloadn hK (i := 2) 1 kd36_6.2.2.2.2.2.2.2.2.1 rfl rfl ?_
              refine X_iloadn hK (i := 3) 0 kd36_6.2.2.2.2.2.2.2.2.2.1 rfl rfl ?_
              refine X_ishr hK kd36_6.2.2.2.2.2.2.2.2.2.2.1 (fun z1420 ez1420 lz1420 uz1420 => ?_)
              refine X_iconst hK kd36_6.2.2.2.2.2.2.2.2.2.2.2 ?_
              refine X_iand hK kd36_7.1 (fun z1421 ez1421 lz1421 uz1421 => ?_)
              have bz1421 := xandB ez1421 ⟨lz1421, uz1421⟩ (by omega)
              refine X_iconst hK kd36_7.2.1 ?_
              have J1428 : ∀ (z1427 : Int) (lz1427 : (-2147483648) ≤ z1427) (uz1427 : z1427 ≤ 1000000), X K E 53 [(3, .int (iI z1373)), (2, .int (iI z1025)), (0, .ref a0), (1, .ref a1)] [.int (iI z1427), .int (iI ((z1025 * 9) + z1373)), .ref w0] S g1374 0 0 := by
                intro z1427 lz1427 uz1427
                refine X_iast hK hs_w0 ⟨by decide, by decide, by decide, by omega⟩ (by decide) sl_13400 (by omega) (by omega) (by omega) (by omega) kd36_7.2.2.2.2.2.2.2.2.2.2.1 (fun g1429 hg1429 => ?_)
                refine X_iinc hK (i := 3) (z := z1373) (n := 1) 0 [(3, .int (iI (z1373 + 1))), (2, .int (iI z1025)), (0, .ref a0), (1, .ref a1)] kd36_7.2.2.2.2.2.2.2.2.2.2.2 rfl (by decide) rfl ?_
                refine X_goto hK 14 kd36_8.1 (by decide) ?_
                exact ihP1404  g1429 (xM_ua (xM.tr xM.rf xLe.rf hg1374 (by decide)) hg1429 hs_w0 (by decide) (by decide)) (z1373 + 1) (by omega) (by omega) (by omega)
              refine X_icmp_ne hK 51 (by omega) (by omega) kd36_7.2.2.1 (by decide) (fun c1422 => ?_) (fun c1422 => ?_)
              · refine X_ldc hK (n := 1000000) kd36_7.2.2.2.2.2.2.2.2.2.1 m_53_22 (by decide) ?_
                exact J1428 1000000 (by omega) (by omega)
              · refine X_aloadn hK (i := 0) 2 kd36_7.2.2.2.1 rfl rfl ?_
                refine X_aloadn hK (i := 1) 3 kd36_7.2.2.2.2.1 rfl rfl ?_
                refine X_iloadn hK (i := 2) 1 kd36_7.2.2.2.2.2.1 rfl rfl ?_
                refine X_iloadn hK (i := 3) 0 kd36_7.2.2.2.2.2.2.1 rfl rfl ?_
                refine X_callV hK [.ref a1, .int (iI z1025), .int (iI z1373)] [.int (iI ((z1025 * 9) + z1373)), .ref w0] lk_X8_58 (c_soonestAt_3 _ _ _ _ _ S g1374 a0 a1 z1025 z1373 n0 w0 nw0 hs_a0 hs_a1 (by omega) (by omega) (by omega) ((hg1374 a0 9 0 4 hs_a0 (by decide)).trans ((hg1026 a0 9 0 4 hs_a0 (by decide)).trans en0)) ((hg1374 a0 9 0 3 hs_a0 (by decide)).trans ((hg1026 a0 9 0 3 hs_a0 (by decide)).trans ew0)) hs_w0 (by omega) (by omega)) hs_a0 ⟨by decide, rfl⟩ kd36_7.2.2.2.2.2.2.2.1 rfl rfl (by simp [Value.category]) (by decide) (by decide) (by decide) (by decide) (fun r1430 S1432 g1431 pr1430 qr1430 hg1431 => ?_)
                obtain ⟨rfl, rfl, z1433, rfl, lz1433, uz1433⟩ := pr1430
                refine X_st [.int (iI z1433), .int (iI ((z1025 * 9) + z1373)), .ref w0] rfl ?_
                refine X_goto hK 53 kd36_7.2.2.2.2.2.2.2.2.1 (by decide) ?_
                exact J1428 z1433 (by omega) (by omega)
        exact P1404 ((19 - 0 : Int).toNat + 1) g1026 xM.rf 0 (by omega) (by omega) (by omega)
  exact P1230 ((24 - 1 : Int).toNat + 1) g xM.rf 1 (by omega) (by omega) (by omega)

set_option maxHeartbeats 4000000 in
set_option maxRecDepth 100000 in
theorem c_firstAtEnd_3 (l : Launch) (D : va_G) (kA : Nat → ClassId) (b0 : Nat) (t0 : Nat → Nat) (S : xT) (g : xG) (a0 : Nat) (n0 : Int) (w0 nw0 : Nat) (hs_a0 : S a0 = some (9, 0)) (hn0 : 3 ≤ n0 ∧ n0 ≤ 3) (en0 : g a0 4 = .int (iI n0)) (ew0 : g a0 3 = .ref w0) (hs_w0 : S w0 = some (13400, nw0)) (hp0 : 72 ≤ (nw0 : Int)) (hp1 : (nw0 : Int) ≤ 2147483647) : xMt l yX8_firstAtEnd cX8_firstAtEnd 4 (some .int) 1 0 0 13 D kA b0 t0 [] [.ref a0] S g (fun (r : Option Value) (S1 : xT) (g1 : xG) => S = S1 ∧ g = g1 ∧ ∃ z : Int, r = some (.int (iI z)) ∧ (-2147483648) ≤ z ∧ z ≤ 1000000) := by
  refine xEnterI (by decide) (by simp [lg_sl, Value.category]) [(0, .ref a0)] rfl ?_
  intro K E hK hret _ _ _
  refine X_iconst hK kd36_8.2.2.2.2.1 ?_
  refine X_aloadn hK (i := 0) 0 kd36_8.2.2.2.2.2.1 rfl rfl ?_
  refine X_getK hK fl_X8_24_9 hs_a0 en0 kd36_8.2.2.2.2.2.2.1 ?_
  refine X_ishl hK kd36_8.2.2.2.2.2.2.2.1 (fun z1 ez1 lz1 uz1 => ?_)
  have bz1 := xshlB 3 ez1 ⟨lz1, uz1⟩ (by omega) (by decide)
  refine X_iconst hK kd36_8.2.2.2.2.2.2.2.2.1 ?_
  refine X_isub hK kd36_8.2.2.2.2.2.2.2.2.2.1 ?_
  refine X_istoren hK (i := 1) [(1, .int (iI (z1 - 1))), (0, .ref a0)] kd36_8.2.2.2.2.2.2.2.2.2.2.1 rfl (by decide) rfl ?_
  refine X_ldc hK (n := 1000000) kd36_8.2.2.2.2.2.2.2.2.2.2.2 m_53_22 (by decide) ?_
  refine X_istoren hK (i := 2) [(2, .int (iI 1000000)), (1, .int (iI (z1 - 1))), (0, .ref a0)] kd36_9.1 rfl (by decide) rfl ?_
  refine X_iconst hK kd36_9.2.1 ?_
  refine X_istoren hK (i := 3) [(3, .int (iI 0)), (2, .int (iI 1000000)), (1, .int (iI (z1 - 1))), (0, .ref a0)] kd36_9.2.2.1 rfl (by decide) rfl ?_
  have P32 : ∀ (nP32 : Nat) (z27 : Int) (_ : 0 ≤ z27) (_ : z27 ≤ 3) (z28 : Int) (_ : (-2147483648) ≤ z28) (_ : z28 ≤ 1000000) (_ : 19 - z27 < (nP32 : Int)), X K E 14 [(3, .int (iI z27)), (2, .int (iI z28)), (1, .int (iI (z1 - 1))), (0, .ref a0)] [] S g 0 0 := by
    intro nP32
    induction nP32 with
    | zero => intro z27 lz27 uz27 z28 lz28 uz28 mP32; exact False.elim (by omega)
    | succ nP32 ihP32 =>
      intro z27 lz27 uz27 z28 lz28 uz28 mP32
      refine X_iloadn hK (i := 3) 0 kd36_9.2.2.2.1 rfl rfl ?_
      refine X_aloadn hK (i := 0) 3 kd36_9.2.2.2.2.1 rfl rfl ?_
      refine X_getK hK fl_X8_24_9 hs_a0 en0 kd36_9.2.2.2.2.2.1 ?_
      refine X_icmp_ge hK 44 (by omega) (by omega) kd36_9.2.2.2.2.2.2.1 (by decide) (fun c33 => ?_) (fun c33 => ?_)
      · refine X_iloadn hK (i := 2) 1 kd36_10.2.2.2.2.2.2.2.2.1 rfl rfl ?_
        exact hret _ _ _ _ _ _ _ kd36_10.2.2.2.2.2.2.2.2.2.1 ⟨rfl, rfl, z28, rfl, (by omega), (by omega)⟩ (Nat.le_refl _) (Nat.le_refl _)
      · refine X_iloadn hK (i := 2) 1 kd36_9.2.2.2.2.2.2.2.1 rfl rfl ?_
        refine X_aloadn hK (i := 0) 3 kd36_9.2.2.2.2.2.2.2.2.1 rfl rfl ?_
        refine X_getK hK fl_X8_21_9 hs_a0 ew0 kd36_9.2.2.2.2.2.2.2.2.2.1 ?_
        refine X_iloadn hK (i := 1) 2 kd36_9.2.2.2.2.2.2.2.2.2.2.1 rfl rfl ?_
        refine X_bipush hK kd36_9.2.2.2.2.2.2.2.2.2.2.2 (by decide) ?_
        refine X_imul hK kd36_10.1 ?_
        refine X_iloadn hK (i := 3) 0 kd36_10.2.1 rfl rfl ?_
        refine X_iadd hK kd36_10.2.2.1 ?_
        refine X_iald hK hs_w0 ⟨by decide, by decide, by omega⟩ sl_13400 (by omega) (by omega) kd36_10.2.2.2.1 (fun z34 ez34 lz34 uz34 => ?_)
        refine X_mmin hK mm_X8_68 ⟨by decide, by simp [Value.category]⟩ (by decide) (by omega) (by omega) kd36_10.2.2.2.2.1 (fun z35 ez35 fz35 => ?_)
        have bz35 : (-2147483648) ≤ z35 ∧ z35 ≤ 1000000 := by omega
        refine X_istoren hK (i := 2) [(2, .int (iI z35)), (3, .int (iI z27)), (1, .int (iI (z1 - 1))), (0, .ref a0)] kd36_10.2.2.2.2.2.1 rfl (by decide) rfl ?_
        refine X_iinc hK (i := 3) (z := z27) (n := 1) 1 [(3, .int (iI (z27 + 1))), (2, .int (iI z35)), (1, .int (iI (z1 - 1))), (0, .ref a0)] kd36_10.2.2.2.2.2.2.1 rfl (by decide) rfl ?_
        refine X_goto hK 14 kd36_10.2.2.2.2.2.2.2.1 (by decide) ?_
        exact ihP32  (z27 + 1) (by omega) (by omega) z35 (by omega) (by omega) (by omega)
  exact P32 ((19 - 0 : Int).toNat + 1) 0 (by omega) (by omega) 1000000 (by omega) (by omega) (by omega)

set_option maxHeartbeats 4000000 in
set_option maxRecDepth 100000 in
theorem c_nextOf_3 (l : Launch) (D : va_G) (kA : Nat → ClassId) (b0 : Nat) (t0 : Nat → Nat) (S : xT) (g : xG) (a0 : Nat) (a1 : Nat) (x2 : Int) (x3 : Int) (n0 : Int) (w0 nw0 : Nat) (hs_a0 : S a0 = some (9, 0)) (hs_a1 : S a1 = some (4, 0)) (hx2 : 1 ≤ x2 ∧ x2 ≤ 7) (hx3 : 0 ≤ x3 ∧ x3 ≤ 2) (hn0 : 3 ≤ n0 ∧ n0 ≤ 3) (en0 : g a0 4 = .int (iI n0)) (ew0 : g a0 3 = .ref w0) (hs_w0 : S w0 = some (13400, nw0)) (hp0 : 72 ≤ (nw0 : Int)) (hp1 : (nw0 : Int) ≤ 2147483647) : xMt l yX8_nextOf cX8_nextOf 7 (some .int) 0 0 0 0 D kA b0 t0 [] [.ref a0, .ref a1, .int (iI x2), .int (iI x3)] S g (fun (r : Option Value) (S1 : xT) (g1 : xG) => S = S1 ∧ g = g1 ∧ ∃ z : Int, r = some (.int (iI z)) ∧ (-1) ≤ z ∧ z ≤ 2) := by
  refine xEnterI (by decide) (by simp [lg_sl, Value.category]) [(0, .ref a0), (1, .ref a1), (2, .int (iI x2)), (3, .int (iI x3))] rfl ?_
  intro K E hK hret _ _ _
  refine X_aloadn hK (i := 0) 0 kd36_10.2.2.2.2.2.2.2.2.2.2.1 rfl rfl ?_
  refine X_getK hK fl_X8_21_9 hs_a0 ew0 kd36_10.2.2.2.2.2.2.2.2.2.2.2 ?_
  refine X_iloadn hK (i := 2) 2 kd36_11.1 rfl rfl ?_
  refine X_bipush hK kd36_11.2.1 (by decide) ?_
  refine X_imul hK kd36_11.2.2.1 ?_
  refine X_iloadn hK (i := 3) 3 kd36_11.2.2.2.1 rfl rfl ?_
  refine X_iadd hK kd36_11.2.2.2.2.1 ?_
  refine X_iald hK hs_w0 ⟨by decide, by decide, by omega⟩ sl_13400 (by omega) (by omega) kd36_11.2.2.2.2.2.1 (fun z1 ez1 lz1 uz1 => ?_)
  refine X_istore hK (i := 4) [(4, .int (iI z1)), (0, .ref a0), (1, .ref a1), (2, .int (iI x2)), (3, .int (iI x3))] kd36_11.2.2.2.2.2.2.1 (by decide) rfl ?_
  refine X_iconst hK kd36_11.2.2.2.2.2.2.2.1 ?_
  refine X_istore hK (i := 5) [(5, .int (iI 0)), (4, .int (iI z1)), (0, .ref a0), (1, .ref a1), (2, .int (iI x2)), (3, .int (iI x3))] kd36_11.2.2.2.2.2.2.2.2.1 (by decide) rfl ?_
  have P104 : ∀ (nP104 : Nat) (z87 : Int) (_ : 0 ≤ z87) (_ : z87 ≤ 3) (_ : 19 - z87 < (nP104 : Int)), X K E 16 [(5, .int (iI z87)), (4, .int (iI z1)), (0, .ref a0), (1, .ref a1), (2, .int (iI x2)), (3, .int (iI x3))] [] S g 0 0 := by
    intro nP104
    induction nP104 with
    | zero => intro z87 lz87 uz87 mP104; exact False.elim (by omega)
    | succ nP104 ihP104 =>
      intro z87 lz87 uz87 mP104
      refine X_iload hK (i := 5) 0 kd36_11.2.2.2.2.2.2.2.2.2.1 rfl ?_
      refine X_aloadn hK (i := 0) 2 kd36_11.2.2.2.2.2.2.2.2.2.2.1 rfl rfl ?_
      refine X_getK hK fl_X8_24_9 hs_a0 en0 kd36_11.2.2.2.2.2.2.2.2.2.2.2 ?_
      refine X_icmp_ge hK 96 (by omega) (by omega) kd36_12.1 (by decide) (fun c105 => ?_) (fun c105 => ?_)
      · refine X_iconst hK kd36_15.2.2.2.2.2.2.2.1 ?_
        exact hret _ _ _ _ _ _ _ kd36_15.2.2.2.2.2.2.2.2.1 ⟨rfl, rfl, (-1), rfl, (by omega), (by omega)⟩ (Nat.le_refl _) (Nat.le_refl _)
      · refine X_iload hK (i := 4) 1 kd36_12.2.1 rfl ?_
        refine X_ldc hK (n := 1000000) kd36_12.2.2.1 m_53_22 (by decide) ?_
        refine X_icmp_eq hK 96 (by omega) (by omega) kd36_12.2.2.2.1 (by decide) (fun c106 => ?_) (fun c106 => ?_)
        · refine X_iconst hK kd36_15.2.2.2.2.2.2.2.1 ?_
          exact hret _ _ _ _ _ _ _ kd36_15.2.2.2.2.2.2.2.2.1 ⟨rfl, rfl, (-1), rfl, (by omega), (by omega)⟩ (Nat.le_refl _) (Nat.le_refl _)
        · refine X_iload hK (i := 4) 1 kd36_12.2.2.2.2.1 rfl ?_
          refine X_aloadn hK (i := 1) 3 kd36_12.2.2.2.2.2.1 rfl rfl ?_
          refine X_getr hK 11604 10 fl_X8_62_4 hs_a1 sl_4_6 kd36_12.2.2.2.2.2.2.1 (fun b107 eb107 hs_b107 => ?_)
          refine X_aloadn hK (i := 0) 2 kd36_12.2.2.2.2.2.2.2.1 rfl rfl ?_
          refine X_getr hK 13100 9 fl_X8_11_9 hs_a0 sl_9_0 kd36_12.2.2.2.2.2.2.2.2.1 (fun b108 eb108 hs_b108 => ?_)
          refine X_iloadn hK (i := 3) 5 kd36_12.2.2.2.2.2.2.2.2.2.1 rfl rfl ?_
          refine X_iald hK hs_b108 (by decide) sl_13100 (by omega) (by omega) kd36_12.2.2.2.2.2.2.2.2.2.2.1 (fun z109 ez109 lz109 uz109 => ?_)
          refine X_aald hK 11500 10 hs_b107 (by decide) sl_11604 (by omega) (by omega) kd36_12.2.2.2.2.2.2.2.2.2.2.2 (fun b110 eb110 hs_b110 => ?_)
          refine X_aloadn hK (i := 0) 2 kd36_13.1 rfl rfl ?_
          refine X_getK hK fl_X8_11_9 hs_a0 eb108 kd36_13.2.1 ?_
          refine X_iload hK (i := 5) 0 kd36_13.2.2.1 rfl ?_
          refine X_iald hK hs_b108 (by decide) sl_13100 (by omega) (by omega) kd36_13.2.2.2.1 (fun z111 ez111 lz111 uz111 => ?_)
          refine X_iald hK hs_b110 (by decide) sl_11500 (by omega) (by omega) kd36_13.2.2.2.2.1 (fun z112 ez112 lz112 uz112 => ?_)
          refine X_iadd hK kd36_13.2.2.2.2.2.1 ?_
          refine X_norm (fun z113 ez113 lz113 uz113 => ?_)
          refine X_istore hK (i := 6) [(6, .int (iI z113)), (5, .int (iI z87)), (4, .int (iI z1)), (0, .ref a0), (1, .ref a1), (2, .int (iI x2)), (3, .int (iI x3))] kd36_13.2.2.2.2.2.2.1 (by decide) rfl ?_
          refine X_iloadn hK (i := 2) 5 kd36_13.2.2.2.2.2.2.2.1 rfl rfl ?_
          refine X_iload hK (i := 5) 1 kd36_13.2.2.2.2.2.2.2.2.1 rfl ?_
          refine X_ishr hK kd36_13.2.2.2.2.2.2.2.2.2.1 (fun z114 ez114 lz114 uz114 => ?_)
          refine X_iconst hK kd36_13.2.2.2.2.2.2.2.2.2.2.1 ?_
          refine X_iand hK kd36_13.2.2.2.2.2.2.2.2.2.2.2 (fun z115 ez115 lz115 uz115 => ?_)
          have bz115 := xandB ez115 ⟨lz115, uz115⟩ (by omega)
          refine X_if_ne hK 90 (by omega) kd36_14.1 (by decide) (fun c116 => ?_) (fun c116 => ?_)
          · refine X_iinc hK (i := 5) (z := z87) (n := 1) 1 [(5, .int (iI (z87 + 1))), (6, .int (iI z113)), (4, .int (iI z1)), (0, .ref a0), (1, .ref a1), (2, .int (iI x2)), (3, .int (iI x3))] kd36_15.2.2.2.2.2.1 rfl (by decide) rfl ?_
            refine X_goto hK 16 kd36_15.2.2.2.2.2.2.1 (by decide) ?_
            refine X_lv [(5, .int (iI (z87 + 1))), (4, .int (iI z1)), (0, .ref a0), (1, .ref a1), (2, .int (iI x2)), (3, .int (iI x3))] [0, 2, 3, 4, 5, 6] rfl ?_
            exact ihP104  (z87 + 1) (by omega) (by omega) (by omega)
          · refine X_aloadn hK (i := 0) 3 kd36_14.2.1 rfl rfl ?_
            refine X_getK hK fl_X8_21_9 hs_a0 ew0 kd36_14.2.2.1 ?_
            refine X_iloadn hK (i := 2) 5 kd36_14.2.2.2.1 rfl rfl ?_
            refine X_iconst hK kd36_14.2.2.2.2.1 ?_
            refine X_iload hK (i := 5) 1 kd36_14.2.2.2.2.2.1 rfl ?_
            refine X_ishl hK kd36_14.2.2.2.2.2.2.1 (fun z117 ez117 lz117 uz117 => ?_)
            have bz117 := xshlB 2 ez117 ⟨lz117, uz117⟩ (by omega) (by decide)
            refine X_ior hK kd36_14.2.2.2.2.2.2.2.1 (fun z118 ez118 lz118 uz118 => ?_)
            have bz118 := xiorB 3 ez118 ⟨lz118, uz118⟩ (by omega) (by omega) (by decide)
            refine X_bipush hK kd36_14.2.2.2.2.2.2.2.2.1 (by decide) ?_
            refine X_imul hK kd36_14.2.2.2.2.2.2.2.2.2.1 ?_
            refine X_iload hK (i := 5) 1 kd36_14.2.2.2.2.2.2.2.2.2.2.1 rfl ?_
            refine X_iadd hK kd36_14.2.2.2.2.2.2.2.2.2.2.2 ?_
            refine X_iald hK hs_w0 ⟨by decide, by decide, by omega⟩ sl_13400 (by omega) (by omega) kd36_15.1 (fun z119 ez119 lz119 uz119 => ?_)
            refine X_iload hK (i := 6) 0 kd36_15.2.1 rfl ?_
            refine X_icmp_ne hK 90 (by omega) (by omega) kd36_15.2.2.1 (by decide) (fun c120 => ?_) (fun c120 => ?_)
            · refine X_iinc hK (i := 5) (z := z87) (n := 1) 1 [(5, .int (iI (z87 + 1))), (6, .int (iI z113)), (4, .int (iI z1)), (0, .ref a0), (1, .ref a1), (2, .int (iI x2)), (3, .int (iI x3))] kd36_15.2.2.2.2.2.1 rfl (by decide) rfl ?_
              refine X_goto hK 16 kd36_15.2.2.2.2.2.2.1 (by decide) ?_
              refine X_lv [(5, .int (iI (z87 + 1))), (4, .int (iI z1)), (0, .ref a0), (1, .ref a1), (2, .int (iI x2)), (3, .int (iI x3))] [0, 2, 3, 4, 5, 6] rfl ?_
              exact ihP104  (z87 + 1) (by omega) (by omega) (by omega)
            · refine X_iload hK (i := 5) 1 kd36_15.2.2.2.1 rfl ?_
              exact hret _ _ _ _ _ _ _ kd36_15.2.2.2.2.1 ⟨rfl, rfl, z87, rfl, (by omega), (by omega)⟩ (Nat.le_refl _) (Nat.le_refl _)
  exact P104 ((19 - 0 : Int).toNat + 1) 0 (by omega) (by omega) (by omega)

set_option maxHeartbeats 4000000 in
set_option maxRecDepth 100000 in
theorem c_dropOthers_3 (l : Launch) (D : va_G) (kA : Nat → ClassId) (b0 : Nat) (t0 : Nat → Nat) (S : xT) (g : xG) (a0 : Nat) (a1 : Nat) (x2 : Int) (n0 : Int) (w0 nw0 : Nat) (hs_a0 : S a0 = some (9, 0)) (hs_a1 : S a1 = some (4, 0)) (hx2 : (-2147483648) ≤ x2 ∧ x2 ≤ 2147483647) (hn0 : 3 ≤ n0 ∧ n0 ≤ 3) (en0 : g a0 4 = .int (iI n0)) (ew0 : g a0 3 = .ref w0) (hs_w0 : S w0 = some (13400, nw0)) (hp0 : 72 ≤ (nw0 : Int)) (hp1 : (nw0 : Int) ≤ 2147483647) : xMt l yX8_dropOthers cX8_dropOthers 8 none 1 0 0 26 D kA b0 t0 [(13400, 0)] [.ref a0, .ref a1, .int (iI x2)] S g (fun (r : Option Value) (S1 : xT) (g1 : xG) => S = S1 ∧ r = none) := by
  refine xEnterV (by decide) (by simp [lg_sl, Value.category]) [(0, .ref a0), (1, .ref a1), (2, .int (iI x2))] rfl ?_
  intro K E hK hret _ _ _
  refine X_iconst hK kd36_0.1 ?_
  refine X_aloadn hK (i := 0) 0 kd36_0.2.1 rfl rfl ?_
  refine X_getK hK fl_X8_24_9 hs_a0 en0 kd36_0.2.2.1 ?_
  refine X_ishl hK kd36_0.2.2.2.1 (fun z1 ez1 lz1 uz1 => ?_)
  have bz1 := xshlB 3 ez1 ⟨lz1, uz1⟩ (by omega) (by decide)
  refine X_iconst hK kd36_0.2.2.2.2.1 ?_
  refine X_isub hK kd36_0.2.2.2.2.2.1 ?_
  refine X_istoren hK (i := 3) [(3, .int (iI (z1 - 1))), (0, .ref a0), (1, .ref a1), (2, .int (iI x2))] kd36_0.2.2.2.2.2.2.1 rfl (by decide) rfl ?_
  refine X_iloadn hK (i := 3) 0 kd36_0.2.2.2.2.2.2.2.1 rfl rfl ?_
  refine X_istore hK (i := 4) [(4, .int (iI (z1 - 1))), (3, .int (iI (z1 - 1))), (0, .ref a0), (1, .ref a1), (2, .int (iI x2))] kd36_0.2.2.2.2.2.2.2.2.1 (by decide) rfl ?_
  have P1541 : ∀ (nP1541 : Nat) (g1234 : xG) (_ : xM [(13400, 0)] S g g1234) (z1233 : Int) (_ : 0 ≤ z1233) (_ : z1233 ≤ 7) (_ : z1233 - (-16) < (nP1541 : Int)), X K E 12 [(4, .int (iI z1233)), (3, .int (iI (z1 - 1))), (0, .ref a0), (1, .ref a1), (2, .int (iI x2))] [] S g1234 0 0 := by
    intro nP1541
    induction nP1541 with
    | zero => intro g1234 hg1234 z1233 lz1233 uz1233 mP1541; exact False.elim (by omega)
    | succ nP1541 ihP1541 =>
      intro g1234 hg1234 z1233 lz1233 uz1233 mP1541
      refine X_iload hK (i := 4) 0 kd36_0.2.2.2.2.2.2.2.2.2.1 rfl ?_
      refine X_if_le hK 110 (by omega) kd36_0.2.2.2.2.2.2.2.2.2.2.1 (by decide) (fun c1542 => ?_) (fun c1542 => ?_)
      · exact hret _ _ _ _ _ _ kd36_4.2.2.2.2.2.2.2.2.2.2.1 ⟨rfl, rfl⟩ (Nat.le_refl _) (Nat.le_refl _)
      · refine X_iconst hK kd36_0.2.2.2.2.2.2.2.2.2.2.2 ?_
        refine X_istore hK (i := 5) [(5, .int (iI 0)), (4, .int (iI z1233)), (3, .int (iI (z1 - 1))), (0, .ref a0), (1, .ref a1), (2, .int (iI x2))] kd36_1.1 (by decide) rfl ?_
        have P1802 : ∀ (nP1802 : Nat) (g1756 : xG) (_ : xM [(13400, 0)] S g1234 g1756) (z1755 : Int) (_ : 0 ≤ z1755) (_ : z1755 ≤ 3) (_ : 19 - z1755 < (nP1802 : Int)), X K E 20 [(5, .int (iI z1755)), (4, .int (iI z1233)), (3, .int (iI (z1 - 1))), (0, .ref a0), (1, .ref a1), (2, .int (iI x2))] [] S g1756 0 0 := by
          intro nP1802
          induction nP1802 with
          | zero => intro g1756 hg1756 z1755 lz1755 uz1755 mP1802; exact False.elim (by omega)
          | succ nP1802 ihP1802 =>
            intro g1756 hg1756 z1755 lz1755 uz1755 mP1802
            refine X_iload hK (i := 5) 0 kd36_1.2.1 rfl ?_
            refine X_aloadn hK (i := 0) 3 kd36_1.2.2.1 rfl rfl ?_
            refine X_getK hK fl_X8_24_9 hs_a0 ((hg1756 a0 9 0 4 hs_a0 (by decide)).trans ((hg1234 a0 9 0 4 hs_a0 (by decide)).trans en0)) kd36_1.2.2.2.1 ?_
            refine X_icmp_ge hK 104 (by omega) (by omega) kd36_1.2.2.2.2.1 (by decide) (fun c1803 => ?_) (fun c1803 => ?_)
            · refine X_iinc hK (i := 4) (z := z1233) (n := (-1)) 1 [(4, .int (iI (z1233 + (-1)))), (5, .int (iI z1755)), (3, .int (iI (z1 - 1))), (0, .ref a0), (1, .ref a1), (2, .int (iI x2))] kd36_4.2.2.2.2.2.2.2.2.1 rfl (by decide) rfl ?_
              refine X_goto hK 12 kd36_4.2.2.2.2.2.2.2.2.2.1 (by decide) ?_
              refine X_lv [(4, .int (iI (z1233 + (-1)))), (3, .int (iI (z1 - 1))), (0, .ref a0), (1, .ref a1), (2, .int (iI x2))] [0, 2, 3, 4, 5] rfl ?_
              exact ihP1541  g1756 (xM.tr (xM.tr xM.rf xLe.rf hg1234 (by decide)) xLe.rf hg1756 (by decide)) (z1233 + (-1)) (by omega) (by omega) (by omega)
            · refine X_iload hK (i := 4) 1 kd36_1.2.2.2.2.2.1 rfl ?_
              refine X_bipush hK kd36_1.2.2.2.2.2.2.1 (by decide) ?_
              refine X_imul hK kd36_1.2.2.2.2.2.2.2.1 ?_
              refine X_iload hK (i := 5) 0 kd36_1.2.2.2.2.2.2.2.2.1 rfl ?_
              refine X_iadd hK kd36_1.2.2.2.2.2.2.2.2.2.1 ?_
              refine X_istore hK (i := 6) [(6, .int (iI ((z1233 * 9) + z1755))), (5, .int (iI z1755)), (4, .int (iI z1233)), (3, .int (iI (z1 - 1))), (0, .ref a0), (1, .ref a1), (2, .int (iI x2))] kd36_1.2.2.2.2.2.2.2.2.2.2.1 (by decide) rfl ?_
              refine X_iload hK (i := 4) 2 kd36_1.2.2.2.2.2.2.2.2.2.2.2 rfl ?_
              refine X_iloadn hK (i := 3) 3 kd36_2.1 rfl rfl ?_
              have J1835 : ∀ (z1834 : Int) (lz1834 : 0 ≤ z1834) (uz1834 : z1834 ≤ 1), X K E 82 [(6, .int (iI ((z1233 * 9) + z1755))), (5, .int (iI z1755)), (4, .int (iI z1233)), (3, .int (iI (z1 - 1))), (0, .ref a0), (1, .ref a1), (2, .int (iI x2))] [.int (iI z1834)] S g1756 0 0 := by
                intro z1834 lz1834 uz1834
                refine X_istore hK (i := 7) [(7, .int (iI z1834)), (6, .int (iI ((z1233 * 9) + z1755))), (5, .int (iI z1755)), (4, .int (iI z1233)), (3, .int (iI (z1 - 1))), (0, .ref a0), (1, .ref a1), (2, .int (iI x2))] kd36_3.2.2.2.2.2.2.2.2.2.2.1 (by decide) rfl ?_
                refine X_iload hK (i := 7) 0 kd36_3.2.2.2.2.2.2.2.2.2.2.2 rfl ?_
                have J1838 : ∀ (g1839 : xG) (hg1839 : xM [(13400, 0)] S g1756 g1839), X K E 98 [(7, .int (iI z1834)), (6, .int (iI ((z1233 * 9) + z1755))), (5, .int (iI z1755)), (4, .int (iI z1233)), (3, .int (iI (z1 - 1))), (0, .ref a0), (1, .ref a1), (2, .int (iI x2))] [] S g1839 0 0 := by
                  intro g1839 hg1839
                  refine X_iinc hK (i := 5) (z := z1755) (n := 1) 2 [(5, .int (iI (z1755 + 1))), (7, .int (iI z1834)), (6, .int (iI ((z1233 * 9) + z1755))), (4, .int (iI z1233)), (3, .int (iI (z1 - 1))), (0, .ref a0), (1, .ref a1), (2, .int (iI x2))] kd36_4.2.2.2.2.2.2.1 rfl (by decide) rfl ?_
                  refine X_goto hK 20 kd36_4.2.2.2.2.2.2.2.1 (by decide) ?_
                  refine X_lv [(5, .int (iI (z1755 + 1))), (4, .int (iI z1233)), (3, .int (iI (z1 - 1))), (0, .ref a0), (1, .ref a1), (2, .int (iI x2))] [0, 3, 4, 5, 6, 7] rfl ?_
                  exact ihP1802  g1839 (xM.tr (xM.tr xM.rf xLe.rf hg1756 (by decide)) xLe.rf hg1839 (by decide)) (z1755 + 1) (by omega) (by omega) (by omega)
                refine X_if_ne hK 98 (by omega) kd36_4.1 (by decide) (fun c1836 => ?_) (fun c1836 => ?_)
                · exact J1838 g1756 xM.rf
                · refine X_aloadn hK (i := 0) 5 kd36_4.2.1 rfl rfl ?_
                  refine X_getK hK fl_X8_21_9 hs_a0 ((hg1756 a0 9 0 3 hs_a0 (by decide)).trans ((hg1234 a0 9 0 3 hs_a0 (by decide)).trans ew0)) kd36_4.2.2.1 ?_
                  refine X_iload hK (i := 6) 1 kd36_4.2.2.2.1 rfl ?_
                  refine X_ldc hK (n := 1000000) kd36_4.2.2.2.2.1 m_53_22 (by decide) ?_
                  refine X_iast hK hs_w0 ⟨by decide, by decide, by decide, by omega⟩ (by decide) sl_13400 (by omega) (by omega) (by omega) (by omega) kd36_4.2.2.2.2.2.1 (fun g1840 hg1840 => ?_)
                  exact J1838 g1840 (xM_ua xM.rf hg1840 hs_w0 (by decide) (by decide))
              refine X_icmp_ne hK 64 (by omega) (by omega) kd36_2.2.1 (by decide) (fun c1826 => ?_) (fun c1826 => ?_)
              · refine X_aloadn hK (i := 0) 4 kd36_3.1 rfl rfl ?_
                refine X_aloadn hK (i := 1) 5 kd36_3.2.1 rfl rfl ?_
                refine X_iload hK (i := 4) 2 kd36_3.2.2.1 rfl ?_
                refine X_iload hK (i := 5) 1 kd36_3.2.2.2.1 rfl ?_
                refine X_callV hK [.ref a1, .int (iI z1233), .int (iI z1755)] [] lk_X8_74 (c_nextOf_3 _ _ _ _ _ S g1756 a0 a1 z1233 z1755 n0 w0 nw0 hs_a0 hs_a1 (by omega) (by omega) (by omega) ((hg1756 a0 9 0 4 hs_a0 (by decide)).trans ((hg1234 a0 9 0 4 hs_a0 (by decide)).trans en0)) ((hg1756 a0 9 0 3 hs_a0 (by decide)).trans ((hg1234 a0 9 0 3 hs_a0 (by decide)).trans ew0)) hs_w0 (by omega) (by omega)) hs_a0 ⟨by decide, rfl⟩ kd36_3.2.2.2.2.1 rfl rfl (by simp [Value.category]) (by decide) (by decide) (by decide) (by decide) (fun r1841 S1843 g1842 pr1841 qr1841 hg1842 => ?_)
                obtain ⟨rfl, rfl, z1844, rfl, lz1844, uz1844⟩ := pr1841
                refine X_st [.int (iI z1844)] rfl ?_
                refine X_iconst hK kd36_3.2.2.2.2.2.1 ?_
                refine X_icmp_eq hK 81 (by omega) (by omega) kd36_3.2.2.2.2.2.2.1 (by decide) (fun c1845 => ?_) (fun c1845 => ?_)
                · refine X_iconst hK kd36_3.2.2.2.2.2.2.2.2.2.1 ?_
                  exact J1835 0 (by omega) (by omega)
                · refine X_iconst hK kd36_3.2.2.2.2.2.2.2.1 ?_
                  refine X_goto hK 82 kd36_3.2.2.2.2.2.2.2.2.1 (by decide) ?_
                  exact J1835 1 (by omega) (by omega)
              · refine X_aloadn hK (i := 0) 4 kd36_2.2.2.1 rfl rfl ?_
                refine X_getK hK fl_X8_21_9 hs_a0 ((hg1756 a0 9 0 3 hs_a0 (by decide)).trans ((hg1234 a0 9 0 3 hs_a0 (by decide)).trans ew0)) kd36_2.2.2.2.1 ?_
                refine X_iload hK (i := 6) 0 kd36_2.2.2.2.2.1 rfl ?_
                refine X_iald hK hs_w0 ⟨by decide, by decide, by omega⟩ sl_13400 (by omega) (by omega) kd36_2.2.2.2.2.2.1 (fun z1846 ez1846 lz1846 uz1846 => ?_)
                refine X_iloadn hK (i := 2) 6 kd36_2.2.2.2.2.2.2.1 rfl rfl ?_
                refine X_icmp_ne hK 60 (by omega) (by omega) kd36_2.2.2.2.2.2.2.2.1 (by decide) (fun c1847 => ?_) (fun c1847 => ?_)
                · refine X_iconst hK kd36_2.2.2.2.2.2.2.2.2.2.2.1 ?_
                  refine X_goto hK 82 kd36_2.2.2.2.2.2.2.2.2.2.2.2 (by decide) ?_
                  exact J1835 0 (by omega) (by omega)
                · refine X_iconst hK kd36_2.2.2.2.2.2.2.2.2.1 ?_
                  refine X_goto hK 82 kd36_2.2.2.2.2.2.2.2.2.2.1 (by decide) ?_
                  exact J1835 1 (by omega) (by omega)
        exact P1802 ((19 - 0 : Int).toNat + 1) g1234 xM.rf 0 (by omega) (by omega) (by omega)
  exact P1541 (((z1 - 1) - (-16) : Int).toNat + 1) g xM.rf (z1 - 1) (by omega) (by omega) (by omega)

set_option maxHeartbeats 4000000 in
set_option maxRecDepth 100000 in
theorem c_walk_3 (l : Launch) (D : va_G) (kA : Nat → ClassId) (b0 : Nat) (t0 : Nat → Nat) (S : xT) (g : xG) (a0 : Nat) (a1 : Nat) (n0 : Int) (w0 nw0 : Nat) (hs_a0 : S a0 = some (9, 0)) (hs_a1 : S a1 = some (4, 0)) (hn0 : 3 ≤ n0 ∧ n0 ≤ 3) (en0 : g a0 4 = .int (iI n0)) (ew0 : g a0 3 = .ref w0) (hs_w0 : S w0 = some (13400, nw0)) (hp0 : 72 ≤ (nw0 : Int)) (hp1 : (nw0 : Int) ≤ 2147483647) : xMt l yX8_walk cX8_walk 5 none 1 0 0 26 D kA b0 t0 [(9, 5), (13300, 0)] [.ref a0, .ref a1] S g (fun (r : Option Value) (S1 : xT) (g1 : xG) => S = S1 ∧ r = none) := by
  refine xEnterV (by decide) (by simp [lg_sl, Value.category]) [(0, .ref a0), (1, .ref a1)] rfl ?_
  intro K E hK hret _ _ _
  refine X_iconst hK kd36_20.2.2.2.2.2.2.2.2.2.1 ?_
  refine X_istoren hK (i := 2) [(2, .int (iI (-1))), (0, .ref a0), (1, .ref a1)] kd36_20.2.2.2.2.2.2.2.2.2.2.1 rfl (by decide) rfl ?_
  refine X_aloadn hK (i := 0) 1 kd36_20.2.2.2.2.2.2.2.2.2.2.2 rfl rfl ?_
  refine X_getK hK fl_X8_24_9 hs_a0 en0 kd36_21.1 ?_
  refine X_iconst hK kd36_21.2.1 ?_
  refine X_isub hK kd36_21.2.2.1 ?_
  refine X_istoren hK (i := 3) [(3, .int (iI (n0 - 1))), (2, .int (iI (-1))), (0, .ref a0), (1, .ref a1)] kd36_21.2.2.2.1 rfl (by decide) rfl ?_
  have P595 : ∀ (nP595 : Nat) (z459 : Int) (_ : (-1) ≤ z459) (_ : z459 ≤ 2) (z460 : Int) (_ : (-1) ≤ z460) (_ : z460 ≤ 2) (_ : z459 - (-17) < (nP595 : Int)), X K E 9 [(3, .int (iI z459)), (2, .int (iI z460)), (0, .ref a0), (1, .ref a1)] [] S g 0 0 := by
    intro nP595
    induction nP595 with
    | zero => intro z459 lz459 uz459 z460 lz460 uz460 mP595; exact False.elim (by omega)
    | succ nP595 ihP595 =>
      intro z459 lz459 uz459 z460 lz460 uz460 mP595
      refine X_iloadn hK (i := 3) 0 kd36_21.2.2.2.2.1 rfl rfl ?_
      refine X_if_lt hK 39 (by omega) kd36_21.2.2.2.2.2.1 (by decide) (fun c596 => ?_) (fun c596 => ?_)
      · refine X_iconst hK kd36_22.2.2.2.2.2.2.2.2.2.2.1 ?_
        refine X_istoren hK (i := 3) [(3, .int (iI 0)), (2, .int (iI z460)), (0, .ref a0), (1, .ref a1)] kd36_22.2.2.2.2.2.2.2.2.2.2.2 rfl (by decide) rfl ?_
        refine X_aloadn hK (i := 0) 2 kd36_23.1 rfl rfl ?_
        refine X_iconst hK kd36_23.2.1 ?_
        refine X_puti hK fl_X8_28_9 hs_a0 (by decide) sl_9_5 (by omega) (by omega) kd36_23.2.2.1 (fun g602 hg602 => ?_)
        refine X_iconst hK kd36_23.2.2.2.1 ?_
        refine X_istore hK (i := 4) [(4, .int (iI 0)), (3, .int (iI 0)), (2, .int (iI z460)), (0, .ref a0), (1, .ref a1)] kd36_23.2.2.2.2.1 (by decide) rfl ?_
        have P710 : ∀ (nP710 : Nat) (g695 : xG) (_ : xM [(9, 5), (13300, 0)] S g602 g695) (z692 : Int) (_ : 0 ≤ z692) (_ : z692 ≤ 3) (z693 : Int) (_ : 0 ≤ z693) (_ : z693 ≤ 7) (z694 : Int) (_ : (-1) ≤ z694) (_ : z694 ≤ 2) (q696 : Int) (_ : 0 ≤ q696) (_ : q696 ≤ 9) (_ : g695 a0 5 = .int (iI q696)) (_ : q696 ≤ z692) (_ : 19 - z692 < (nP710 : Int)), X K E 49 [(4, .int (iI z692)), (3, .int (iI z693)), (2, .int (iI z694)), (0, .ref a0), (1, .ref a1)] [] S g695 0 0 := by
          intro nP710
          induction nP710 with
          | zero => intro g695 hg695 z692 lz692 uz692 z693 lz693 uz693 z694 lz694 uz694 q696 lq696 uq696 eq696 v711 mP710; exact False.elim (by omega)
          | succ nP710 ihP710 =>
            intro g695 hg695 z692 lz692 uz692 z693 lz693 uz693 z694 lz694 uz694 q696 lq696 uq696 eq696 v711 mP710
            refine X_iload hK (i := 4) 0 kd36_23.2.2.2.2.2.1 rfl ?_
            refine X_aloadn hK (i := 0) 3 kd36_23.2.2.2.2.2.2.1 rfl rfl ?_
            refine X_getK hK fl_X8_24_9 hs_a0 ((hg695 a0 9 0 4 hs_a0 (by decide)).trans ((xs_k hg602 (by decide)).trans en0)) kd36_23.2.2.2.2.2.2.2.1 ?_
            refine X_icmp_ge hK 106 (by omega) (by omega) kd36_23.2.2.2.2.2.2.2.2.1 (by decide) (fun c712 => ?_) (fun c712 => ?_)
            · exact hret _ _ _ _ _ _ kd36_26.2.2.2.2 ⟨rfl, rfl⟩ (Nat.le_refl _) (Nat.le_refl _)
            · refine X_iloadn hK (i := 2) 2 kd36_23.2.2.2.2.2.2.2.2.2.1 rfl rfl ?_
              refine X_iconst hK kd36_23.2.2.2.2.2.2.2.2.2.2.1 ?_
              refine X_icmp_eq hK 106 (by omega) (by omega) kd36_23.2.2.2.2.2.2.2.2.2.2.2 (by decide) (fun c713 => ?_) (fun c713 => ?_)
              · exact hret _ _ _ _ _ _ kd36_26.2.2.2.2 ⟨rfl, rfl⟩ (Nat.le_refl _) (Nat.le_refl _)
              · refine X_aloadn hK (i := 0) 3 kd36_24.1 rfl rfl ?_
                refine X_getr hK 13300 9 fl_X8_18_9 hs_a0 sl_9_2 kd36_24.2.1 (fun b714 eb714 hs_b714 => ?_)
                refine X_iload hK (i := 4) 0 kd36_24.2.2.1 rfl ?_
                refine X_aloadn hK (i := 0) 3 kd36_24.2.2.2.1 rfl rfl ?_
                refine X_getr hK 13100 9 fl_X8_11_9 hs_a0 sl_9_0 kd36_24.2.2.2.2.1 (fun b715 eb715 hs_b715 => ?_)
                refine X_iloadn hK (i := 2) 2 kd36_24.2.2.2.2.2.1 rfl rfl ?_
                refine X_iald hK hs_b715 (by decide) sl_13100 (by omega) (by omega) kd36_24.2.2.2.2.2.2.1 (fun z716 ez716 lz716 uz716 => ?_)
                refine X_iast hK hs_b714 (by decide) (by decide) sl_13300 (by omega) (by omega) (by omega) (by omega) kd36_24.2.2.2.2.2.2.2.1 (fun g717 hg717 => ?_)
                refine X_aloadn hK (i := 0) 3 kd36_24.2.2.2.2.2.2.2.2.1 rfl rfl ?_
                refine X_dup hK kd36_24.2.2.2.2.2.2.2.2.2.1 rfl ?_
                refine X_getK hK fl_X8_28_9 hs_a0 ((xs_a hg717 (xne hs_a0 hs_b714 (by decide))).trans eq696) kd36_24.2.2.2.2.2.2.2.2.2.2.1 ?_
                refine X_iconst hK kd36_24.2.2.2.2.2.2.2.2.2.2.2 ?_
                refine X_iadd hK kd36_25.1 ?_
                refine X_puti hK fl_X8_28_9 hs_a0 (by decide) sl_9_5 (by omega) (by omega) kd36_25.2.1 (fun g718 hg718 => ?_)
                refine X_iloadn hK (i := 3) 1 kd36_25.2.2.1 rfl rfl ?_
                refine X_iconst hK kd36_25.2.2.2.1 ?_
                refine X_iloadn hK (i := 2) 2 kd36_25.2.2.2.2.1 rfl rfl ?_
                refine X_ishl hK kd36_25.2.2.2.2.2.1 (fun z719 ez719 lz719 uz719 => ?_)
                have bz719 := xshlB 2 ez719 ⟨lz719, uz719⟩ (by omega) (by decide)
                refine X_ior hK kd36_25.2.2.2.2.2.2.1 (fun z720 ez720 lz720 uz720 => ?_)
                have bz720 := xiorB 3 ez720 ⟨lz720, uz720⟩ (by omega) (by omega) (by decide)
                have gz720 := xiorG ez720 ⟨lz720, uz720⟩ (by omega) (by omega)
                refine X_istoren hK (i := 3) [(3, .int (iI z720)), (4, .int (iI z692)), (2, .int (iI z694)), (0, .ref a0), (1, .ref a1)] kd36_25.2.2.2.2.2.2.2.1 rfl (by decide) rfl ?_
                refine X_aloadn hK (i := 0) 3 kd36_25.2.2.2.2.2.2.2.2.1 rfl rfl ?_
                refine X_aloadn hK (i := 1) 4 kd36_25.2.2.2.2.2.2.2.2.2.1 rfl rfl ?_
                refine X_iloadn hK (i := 3) 0 kd36_25.2.2.2.2.2.2.2.2.2.2.1 rfl rfl ?_
                refine X_iloadn hK (i := 2) 2 kd36_25.2.2.2.2.2.2.2.2.2.2.2 rfl rfl ?_
                refine X_callV hK [.ref a1, .int (iI z720), .int (iI z694)] [] lk_X8_74 (c_nextOf_3 _ _ _ _ _ S g718 a0 a1 z720 z694 n0 w0 nw0 hs_a0 hs_a1 (by omega) (by omega) (by omega) ((xs_k hg718 (by decide)).trans ((xs_a hg717 (xne hs_a0 hs_b714 (by decide))).trans ((hg695 a0 9 0 4 hs_a0 (by decide)).trans ((xs_k hg602 (by decide)).trans en0)))) ((xs_k hg718 (by decide)).trans ((xs_a hg717 (xne hs_a0 hs_b714 (by decide))).trans ((hg695 a0 9 0 3 hs_a0 (by decide)).trans ((xs_k hg602 (by decide)).trans ew0)))) hs_w0 (by omega) (by omega)) hs_a0 ⟨by decide, rfl⟩ kd36_26.1 rfl rfl (by simp [Value.category]) (by decide) (by decide) (by decide) (by decide) (fun r721 S723 g722 pr721 qr721 hg722 => ?_)
                obtain ⟨rfl, rfl, z724, rfl, lz724, uz724⟩ := pr721
                refine X_st [.int (iI z724)] rfl ?_
                refine X_istoren hK (i := 2) [(2, .int (iI z724)), (3, .int (iI z720)), (4, .int (iI z692)), (0, .ref a0), (1, .ref a1)] kd36_26.2.1 rfl (by decide) rfl ?_
                refine X_iinc hK (i := 4) (z := z692) (n := 1) 2 [(4, .int (iI (z692 + 1))), (2, .int (iI z724)), (3, .int (iI z720)), (0, .ref a0), (1, .ref a1)] kd36_26.2.2.1 rfl (by decide) rfl ?_
                refine X_goto hK 49 kd36_26.2.2.2.1 (by decide) ?_
                refine X_lv [(4, .int (iI (z692 + 1))), (3, .int (iI z720)), (2, .int (iI z724)), (0, .ref a0), (1, .ref a1)] [0, 2, 1, 3, 4] rfl ?_
                exact ihP710  g718 (xM_up (xM_ua (xM.tr xM.rf xLe.rf hg695 (by decide)) hg717 hs_b714 (by decide) (by decide)) hg718 hs_a0 (by decide) (by decide)) (z692 + 1) (by omega) (by omega) z720 (by omega) (by omega) z724 (by omega) (by omega) (q696 + 1) (by omega) (by omega) (xs_s hg718) (by omega) (by omega)
        exact P710 ((19 - 0 : Int).toNat + 1) g602 xM.rf 0 (by omega) (by omega) 0 (by omega) (by omega) z460 (by omega) (by omega) 0 (by omega) (by omega) (xs_s hg602) (by omega) (by omega)
      · refine X_aloadn hK (i := 0) 2 kd36_21.2.2.2.2.2.2.1 rfl rfl ?_
        refine X_getK hK fl_X8_21_9 hs_a0 ew0 kd36_21.2.2.2.2.2.2.2.1 ?_
        refine X_iconst hK kd36_21.2.2.2.2.2.2.2.2.1 ?_
        refine X_iloadn hK (i := 3) 0 kd36_21.2.2.2.2.2.2.2.2.2.1 rfl rfl ?_
        refine X_ishl hK kd36_21.2.2.2.2.2.2.2.2.2.2.1 (fun z725 ez725 lz725 uz725 => ?_)
        have bz725 := xshlB 2 ez725 ⟨lz725, uz725⟩ (by omega) (by decide)
        refine X_bipush hK kd36_21.2.2.2.2.2.2.2.2.2.2.2 (by decide) ?_
        refine X_imul hK kd36_22.1 ?_
        refine X_iloadn hK (i := 3) 0 kd36_22.2.1 rfl rfl ?_
        refine X_iadd hK kd36_22.2.2.1 ?_
        refine X_iald hK hs_w0 ⟨by decide, by decide, by omega⟩ sl_13400 (by omega) (by omega) kd36_22.2.2.2.1 (fun z726 ez726 lz726 uz726 => ?_)
        refine X_ldc hK (n := 1000000) kd36_22.2.2.2.2.1 m_53_22 (by decide) ?_
        have J729 : ∀ (z728 : Int) (lz728 : (-1) ≤ z728) (uz728 : z728 ≤ 2), X K E 33 [(3, .int (iI z459)), (2, .int (iI z728)), (0, .ref a0), (1, .ref a1)] [] S g 0 0 := by
          intro z728 lz728 uz728
          refine X_iinc hK (i := 3) (z := z459) (n := (-1)) 0 [(3, .int (iI (z459 + (-1)))), (2, .int (iI z728)), (0, .ref a0), (1, .ref a1)] kd36_22.2.2.2.2.2.2.2.2.1 rfl (by decide) rfl ?_
          refine X_goto hK 9 kd36_22.2.2.2.2.2.2.2.2.2.1 (by decide) ?_
          exact ihP595  (z459 + (-1)) (by omega) (by omega) z728 (by omega) (by omega) (by omega)
        refine X_icmp_eq hK 33 (by omega) (by omega) kd36_22.2.2.2.2.2.1 (by decide) (fun c727 => ?_) (fun c727 => ?_)
        · exact J729 z460 (by omega) (by omega)
        · refine X_iloadn hK (i := 3) 0 kd36_22.2.2.2.2.2.2.1 rfl rfl ?_
          refine X_istoren hK (i := 2) [(2, .int (iI z459)), (3, .int (iI z459)), (0, .ref a0), (1, .ref a1)] kd36_22.2.2.2.2.2.2.2.1 rfl (by decide) rfl ?_
          refine X_lv [(3, .int (iI z459)), (2, .int (iI z459)), (0, .ref a0), (1, .ref a1)] [1, 0, 2, 3] rfl ?_
          exact J729 z459 (by omega) (by omega)
  exact P595 (((n0 - 1) - (-17) : Int).toNat + 1) (n0 - 1) (by omega) (by omega) (-1) (by omega) (by omega) (by omega)

set_option maxHeartbeats 4000000 in
set_option maxRecDepth 100000 in
theorem c_soonestAt_4 (l : Launch) (D : va_G) (kA : Nat → ClassId) (b0 : Nat) (t0 : Nat → Nat) (S : xT) (g : xG) (a0 : Nat) (a1 : Nat) (x2 : Int) (x3 : Int) (n0 : Int) (w0 nw0 : Nat) (hs_a0 : S a0 = some (9, 0)) (hs_a1 : S a1 = some (4, 0)) (hx2 : 1 ≤ x2 ∧ x2 ≤ 15) (hx3 : 0 ≤ x3 ∧ x3 ≤ 3) (hn0 : 4 ≤ n0 ∧ n0 ≤ 4) (en0 : g a0 4 = .int (iI n0)) (ew0 : g a0 3 = .ref w0) (hs_w0 : S w0 = some (13400, nw0)) (hp0 : 144 ≤ (nw0 : Int)) (hp1 : (nw0 : Int) ≤ 2147483647) : xMt l yX8_soonestAt cX8_soonestAt 8 (some .int) 1 0 0 13 D kA b0 t0 [] [.ref a0, .ref a1, .int (iI x2), .int (iI x3)] S g (fun (r : Option Value) (S1 : xT) (g1 : xG) => S = S1 ∧ g = g1 ∧ ∃ z : Int, r = some (.int (iI z)) ∧ (-2147483648) ≤ z ∧ z ≤ 1000000) := by
  refine xEnterI (by decide) (by simp [lg_sl, Value.category]) [(0, .ref a0), (1, .ref a1), (2, .int (iI x2)), (3, .int (iI x3))] rfl ?_
  intro K E hK hret _ _ _
  refine X_aloadn hK (i := 1) 1 kd36_15.2.2.2.2.2.2.2.2.2.1 rfl rfl ?_
  refine X_getr hK 11604 10 fl_X8_62_4 hs_a1 sl_4_6 kd36_15.2.2.2.2.2.2.2.2.2.2.1 (fun b1 eb1 hs_b1 => ?_)
  refine X_aloadn hK (i := 0) 0 kd36_15.2.2.2.2.2.2.2.2.2.2.2 rfl rfl ?_
  refine X_getr hK 13100 9 fl_X8_11_9 hs_a0 sl_9_0 kd36_16.1 (fun b2 eb2 hs_b2 => ?_)
  refine X_iloadn hK (i := 3) 3 kd36_16.2.1 rfl rfl ?_
  refine X_iald hK hs_b2 (by decide) sl_13100 (by omega) (by omega) kd36_16.2.2.1 (fun z3 ez3 lz3 uz3 => ?_)
  refine X_aald hK 11500 10 hs_b1 (by decide) sl_11604 (by omega) (by omega) kd36_16.2.2.2.1 (fun b4 eb4 hs_b4 => ?_)
  refine X_astore hK (i := 4) [(4, .ref b4), (0, .ref a0), (1, .ref a1), (2, .int (iI x2)), (3, .int (iI x3))] kd36_16.2.2.2.2.1 (by decide) rfl ?_
  refine X_iloadn hK (i := 2) 3 kd36_16.2.2.2.2.2.1 rfl rfl ?_
  refine X_iconst hK kd36_16.2.2.2.2.2.2.1 ?_
  refine X_iloadn hK (i := 3) 4 kd36_16.2.2.2.2.2.2.2.1 rfl rfl ?_
  refine X_ishl hK kd36_16.2.2.2.2.2.2.2.2.1 (fun z5 ez5 lz5 uz5 => ?_)
  have bz5 := xshlB 3 ez5 ⟨lz5, uz5⟩ (by omega) (by decide)
  refine X_ixor hK kd36_16.2.2.2.2.2.2.2.2.2.1 (fun z6 ez6 lz6 uz6 => ?_)
  have bz6 := xixorB 4 ez6 ⟨lz6, uz6⟩ (by omega) (by omega) (by decide)
  refine X_istore hK (i := 5) [(5, .int (iI z6)), (4, .ref b4), (0, .ref a0), (1, .ref a1), (2, .int (iI x2)), (3, .int (iI x3))] kd36_16.2.2.2.2.2.2.2.2.2.2.1 (by decide) rfl ?_
  refine X_iload hK (i := 5) 0 kd36_16.2.2.2.2.2.2.2.2.2.2.2 rfl ?_
  have J10 : ∀ (z9 : Int) (lz9 : 0 ≤ z9) (uz9 : z9 ≤ 1000000), X K E 34 [(5, .int (iI z6)), (4, .ref b4), (0, .ref a0), (1, .ref a1), (2, .int (iI x2)), (3, .int (iI x3))] [.int (iI z9)] S g 0 0 := by
    intro z9 lz9 uz9
    refine X_istore hK (i := 6) [(6, .int (iI z9)), (5, .int (iI z6)), (4, .ref b4), (0, .ref a0), (1, .ref a1), (2, .int (iI x2)), (3, .int (iI x3))] kd36_17.2.2.2.2.2.2.1 (by decide) rfl ?_
    refine X_iconst hK kd36_17.2.2.2.2.2.2.2.1 ?_
    refine X_istore hK (i := 7) [(7, .int (iI 0)), (6, .int (iI z9)), (5, .int (iI z6)), (4, .ref b4), (0, .ref a0), (1, .ref a1), (2, .int (iI x2)), (3, .int (iI x3))] kd36_17.2.2.2.2.2.2.2.2.1 (by decide) rfl ?_
    have P123 : ∀ (nP123 : Nat) (z104 : Int) (_ : 0 ≤ z104) (_ : z104 ≤ 4) (z105 : Int) (_ : (-2147483648) ≤ z105) (_ : z105 ≤ 1000000) (_ : 20 - z104 < (nP123 : Int)), X K E 39 [(7, .int (iI z104)), (6, .int (iI z105)), (5, .int (iI z6)), (4, .ref b4), (0, .ref a0), (1, .ref a1), (2, .int (iI x2)), (3, .int (iI x3))] [] S g 0 0 := by
      intro nP123
      induction nP123 with
      | zero => intro z104 lz104 uz104 z105 lz105 uz105 mP123; exact False.elim (by omega)
      | succ nP123 ihP123 =>
        intro z104 lz104 uz104 z105 lz105 uz105 mP123
        refine X_iload hK (i := 7) 0 kd36_17.2.2.2.2.2.2.2.2.2.1 rfl ?_
        refine X_aloadn hK (i := 0) 4 kd36_17.2.2.2.2.2.2.2.2.2.2.1 rfl rfl ?_
        refine X_getK hK fl_X8_24_9 hs_a0 en0 kd36_17.2.2.2.2.2.2.2.2.2.2.2 ?_
        have J131 : X K E 90 [(7, .int (iI z104)), (6, .int (iI z105)), (5, .int (iI z6)), (4, .ref b4), (0, .ref a0), (1, .ref a1), (2, .int (iI x2)), (3, .int (iI x3))] [] S g 0 0 := by
          refine X_iload hK (i := 6) 1 kd36_19.2.2.2.2.2.2.2.2.2.2.2 rfl ?_
          refine X_aloadn hK (i := 0) 4 kd36_20.1 rfl rfl ?_
          refine X_getr hK 13200 9 fl_X8_15_9 hs_a0 sl_9_1 kd36_20.2.1 (fun b132 eb132 hs_b132 => ?_)
          refine X_iloadn hK (i := 3) 7 kd36_20.2.2.1 rfl rfl ?_
          refine X_iald hK hs_b132 (by decide) sl_13200 (by omega) (by omega) kd36_20.2.2.2.1 (fun z133 ez133 lz133 uz133 => ?_)
          refine X_icmp_gt hK 106 (by omega) (by omega) kd36_20.2.2.2.2.1 (by decide) (fun c134 => ?_) (fun c134 => ?_)
          · refine X_ldc hK (n := 1000000) kd36_20.2.2.2.2.2.2.2.1 m_53_22 (by decide) ?_
            exact hret _ _ _ _ _ _ _ kd36_20.2.2.2.2.2.2.2.2.1 ⟨rfl, rfl, 1000000, rfl, (by omega), (by omega)⟩ (Nat.le_refl _) (Nat.le_refl _)
          · refine X_iload hK (i := 6) 1 kd36_20.2.2.2.2.2.1 rfl ?_
            refine X_goto hK 108 kd36_20.2.2.2.2.2.2.1 (by decide) ?_
            exact hret _ _ _ _ _ _ _ kd36_20.2.2.2.2.2.2.2.2.1 ⟨rfl, rfl, z105, rfl, (by omega), (by omega)⟩ (Nat.le_refl _) (Nat.le_refl _)
        refine X_icmp_ge hK 90 (by omega) (by omega) kd36_18.1 (by decide) (fun c124 => ?_) (fun c124 => ?_)
        · exact J131 
        · refine X_iload hK (i := 5) 2 kd36_18.2.1 rfl ?_
          refine X_if_eq hK 90 (by omega) kd36_18.2.2.1 (by decide) (fun c135 => ?_) (fun c135 => ?_)
          · exact J131 
          · refine X_iload hK (i := 6) 1 kd36_18.2.2.2.1 rfl ?_
            refine X_aloadn hK (i := 0) 4 kd36_18.2.2.2.2.1 rfl rfl ?_
            refine X_getK hK fl_X8_21_9 hs_a0 ew0 kd36_18.2.2.2.2.2.1 ?_
            refine X_iload hK (i := 5) 2 kd36_18.2.2.2.2.2.2.1 rfl ?_
            refine X_bipush hK kd36_18.2.2.2.2.2.2.2.1 (by decide) ?_
            refine X_imul hK kd36_18.2.2.2.2.2.2.2.2.1 ?_
            refine X_iload hK (i := 7) 0 kd36_18.2.2.2.2.2.2.2.2.2.1 rfl ?_
            refine X_iadd hK kd36_18.2.2.2.2.2.2.2.2.2.2.1 ?_
            refine X_iald hK hs_w0 ⟨by decide, by decide, by omega⟩ sl_13400 (by omega) (by omega) kd36_18.2.2.2.2.2.2.2.2.2.2.2 (fun z136 ez136 lz136 uz136 => ?_)
            refine X_aload hK (i := 4) 3 kd36_19.1 rfl ?_
            refine X_aloadn hK (i := 0) 4 kd36_19.2.1 rfl rfl ?_
            refine X_getK hK fl_X8_11_9 hs_a0 eb2 kd36_19.2.2.1 ?_
            refine X_iload hK (i := 7) 0 kd36_19.2.2.2.1 rfl ?_
            refine X_iald hK hs_b2 (by decide) sl_13100 (by omega) (by omega) kd36_19.2.2.2.2.1 (fun z137 ez137 lz137 uz137 => ?_)
            refine X_iald hK hs_b4 (by decide) sl_11500 (by omega) (by omega) kd36_19.2.2.2.2.2.1 (fun z138 ez138 lz138 uz138 => ?_)
            refine X_iadd hK kd36_19.2.2.2.2.2.2.1 ?_
            refine X_norm (fun z139 ez139 lz139 uz139 => ?_)
            refine X_mmin hK mm_X8_68 ⟨by decide, by simp [Value.category]⟩ (by decide) (by omega) (by omega) kd36_19.2.2.2.2.2.2.2.1 (fun z140 ez140 fz140 => ?_)
            have bz140 : (-2147483648) ≤ z140 ∧ z140 ≤ 1000000 := by omega
            refine X_istore hK (i := 6) [(6, .int (iI z140)), (7, .int (iI z104)), (5, .int (iI z6)), (4, .ref b4), (0, .ref a0), (1, .ref a1), (2, .int (iI x2)), (3, .int (iI x3))] kd36_19.2.2.2.2.2.2.2.2.1 (by decide) rfl ?_
            refine X_iinc hK (i := 7) (z := z104) (n := 1) 1 [(7, .int (iI (z104 + 1))), (6, .int (iI z140)), (5, .int (iI z6)), (4, .ref b4), (0, .ref a0), (1, .ref a1), (2, .int (iI x2)), (3, .int (iI x3))] kd36_19.2.2.2.2.2.2.2.2.2.1 rfl (by decide) rfl ?_
            refine X_goto hK 39 kd36_19.2.2.2.2.2.2.2.2.2.2.1 (by decide) ?_
            exact ihP123  (z104 + 1) (by omega) (by omega) z140 (by omega) (by omega) (by omega)
    exact P123 ((20 - 0 : Int).toNat + 1) 0 (by omega) (by omega) z9 (by omega) (by omega) (by omega)
  refine X_if_ne hK 32 (by omega) kd36_17.1 (by decide) (fun c7 => ?_) (fun c7 => ?_)
  · refine X_ldc hK (n := 1000000) kd36_17.2.2.2.2.2.1 m_53_22 (by decide) ?_
    exact J10 1000000 (by omega) (by omega)
  · refine X_aload hK (i := 4) 1 kd36_17.2.1 rfl ?_
    refine X_iconst hK kd36_17.2.2.1 ?_
    refine X_iald hK hs_b4 (by decide) sl_11500 (by omega) (by omega) kd36_17.2.2.2.1 (fun z141 ez141 lz141 uz141 => ?_)
    refine X_goto hK 34 kd36_17.2.2.2.2.1 (by decide) ?_
    exact J10 z141 (by omega) (by omega)

set_option maxHeartbeats 4000000 in
set_option maxRecDepth 100000 in
theorem c_findSoonest_4 (l : Launch) (D : va_G) (kA : Nat → ClassId) (b0 : Nat) (t0 : Nat → Nat) (S : xT) (g : xG) (a0 : Nat) (a1 : Nat) (n0 : Int) (w0 nw0 : Nat) (hs_a0 : S a0 = some (9, 0)) (hs_a1 : S a1 = some (4, 0)) (hn0 : 4 ≤ n0 ∧ n0 ≤ 4) (en0 : g a0 4 = .int (iI n0)) (ew0 : g a0 3 = .ref w0) (hs_w0 : S w0 = some (13400, nw0)) (hp0 : 144 ≤ (nw0 : Int)) (hp1 : (nw0 : Int) ≤ 2147483647) : xMt l yX8_findSoonest cX8_findSoonest 4 none 2 0 0 40 D kA b0 t0 [(13400, 0)] [.ref a0, .ref a1] S g (fun (r : Option Value) (S1 : xT) (g1 : xG) => S = S1 ∧ r = none) := by
  refine xEnterV (by decide) (by simp [lg_sl, Value.category]) [(0, .ref a0), (1, .ref a1)] rfl ?_
  intro K E hK hret _ _ _
  refine X_iconst hK kd36_4.2.2.2.2.2.2.2.2.2.2.2 ?_
  refine X_istoren hK (i := 2) [(2, .int (iI 1)), (0, .ref a0), (1, .ref a1)] kd36_5.1 rfl (by decide) rfl ?_
  have P1230 : ∀ (nP1230 : Nat) (g1026 : xG) (_ : xM [(13400, 0)] S g g1026) (z1025 : Int) (_ : 1 ≤ z1025) (_ : z1025 ≤ 16) (_ : 32 - z1025 < (nP1230 : Int)), X K E 2 [(2, .int (iI z1025)), (0, .ref a0), (1, .ref a1)] [] S g1026 0 0 := by
    intro nP1230
    induction nP1230 with
    | zero => intro g1026 hg1026 z1025 lz1025 uz1025 mP1230; exact False.elim (by omega)
    | succ nP1230 ihP1230 =>
      intro g1026 hg1026 z1025 lz1025 uz1025 mP1230
      refine X_iloadn hK (i := 2) 0 kd36_5.2.1 rfl rfl ?_
      refine X_iconst hK kd36_5.2.2.1 ?_
      refine X_aloadn hK (i := 0) 1 kd36_5.2.2.2.1 rfl rfl ?_
      refine X_getK hK fl_X8_24_9 hs_a0 ((hg1026 a0 9 0 4 hs_a0 (by decide)).trans en0) kd36_5.2.2.2.2.1 ?_
      refine X_ishl hK kd36_5.2.2.2.2.2.1 (fun z1231 ez1231 lz1231 uz1231 => ?_)
      have bz1231 := xshlB 4 ez1231 ⟨lz1231, uz1231⟩ (by omega) (by decide)
      refine X_icmp_ge hK 66 (by omega) (by omega) kd36_5.2.2.2.2.2.2.1 (by decide) (fun c1232 => ?_) (fun c1232 => ?_)
      · exact hret _ _ _ _ _ _ kd36_8.2.2.2.1 ⟨rfl, rfl⟩ (Nat.le_refl _) (Nat.le_refl _)
      · refine X_iconst hK kd36_5.2.2.2.2.2.2.2.1 ?_
        refine X_istoren hK (i := 3) [(3, .int (iI 0)), (2, .int (iI z1025)), (0, .ref a0), (1, .ref a1)] kd36_5.2.2.2.2.2.2.2.2.1 rfl (by decide) rfl ?_
        have P1404 : ∀ (nP1404 : Nat) (g1374 : xG) (_ : xM [(13400, 0)] S g1026 g1374) (z1373 : Int) (_ : 0 ≤ z1373) (_ : z1373 ≤ 4) (_ : 20 - z1373 < (nP1404 : Int)), X K E 14 [(3, .int (iI z1373)), (2, .int (iI z1025)), (0, .ref a0), (1, .ref a1)] [] S g1374 0 0 := by
          intro nP1404
          induction nP1404 with
          | zero => intro g1374 hg1374 z1373 lz1373 uz1373 mP1404; exact False.elim (by omega)
          | succ nP1404 ihP1404 =>
            intro g1374 hg1374 z1373 lz1373 uz1373 mP1404
            refine X_iloadn hK (i := 3) 0 kd36_5.2.2.2.2.2.2.2.2.2.1 rfl rfl ?_
            refine X_aloadn hK (i := 0) 2 kd36_5.2.2.2.2.2.2.2.2.2.2.1 rfl rfl ?_
            refine X_getK hK fl_X8_24_9 hs_a0 ((hg1374 a0 9 0 4 hs_a0 (by decide)).trans ((hg1026 a0 9 0 4 hs_a0 (by decide)).trans en0)) kd36_5.2.2.2.2.2.2.2.2.2.2.2 ?_
            refine X_icmp_ge hK 60 (by omega) (by omega) kd36_6.1 (by decide) (fun c1405 => ?_) (fun c1405 => ?_)
            · refine X_iinc hK (i := 2) (z := z1025) (n := 1) 1 [(2, .int (iI (z1025 + 1))), (3, .int (iI z1373)), (0, .ref a0), (1, .ref a1)] kd36_8.2.1 rfl (by decide) rfl ?_
              refine X_goto hK 2 kd36_8.2.2.1 (by decide) ?_
              refine X_lv [(2, .int (iI (z1025 + 1))), (0, .ref a0), (1, .ref a1)] [0, 2, 3] rfl ?_
              exact ihP1230  g1374 (xM.tr (xM.tr xM.rf xLe.rf hg1026 (by decide)) xLe.rf hg1374 (by decide)) (z1025 + 1) (by omega) (by omega) (by omega)
            · refine X_aloadn hK (i := 0) 2 kd36_6.2.1 rfl rfl ?_
              refine X_getK hK fl_X8_21_9 hs_a0 ((hg1374 a0 9 0 3 hs_a0 (by decide)).trans ((hg1026 a0 9 0 3 hs_a0 (by decide)).trans ew0)) kd36_6.2.2.1 ?_
              refine X_iloadn hK (i := 2) 1 kd36_6.2.2.2.1 rfl rfl ?_
              refine X_bipush hK kd36_6.2.2.2.2.1 (by decide) ?_
              refine X_imul hK kd36_6.2.2.2.2.2.1 ?_
              refine X_iloadn hK (i := 3) 0 kd36_6.2.2.2.2.2.2.1 rfl rfl ?_
              refine X_iadd hK kd36_6.2.2.2.2.2.2.2.1 ?_
              refine X_iloadn hK (i := 2) 1 kd36_6.2.2.2.2.2.2.2.2.1 rfl rfl ?_
              refine X_iloadn hK (i := 3) 0 kd36_6.2.2.2.2.2.2.2.2.2.1 rfl rfl ?_
              refine X_ishr hK kd36_6.2.2.2.2.2.2.2.2.2.2.1 (fun z1420 ez1420 lz1420 uz1420 => ?_)
              refine X_iconst hK kd36_6.2.2.2.2.2.2.2.2.2.2.2 ?_
              refine X_iand hK kd36_7.1 (fun z1421 ez1421 lz1421 uz1421 => ?_)
              have bz1421 := xandB ez1421 ⟨lz1421, uz1421⟩ (by omega)
              refine X_iconst hK kd36_7.2.1 ?_
              have J1428 : ∀ (z1427 : Int) (lz1427 : (-2147483648) ≤ z1427) (uz1427 : z1427 ≤ 1000000), X K E 53 [(3, .int (iI z1373)), (2, .int (iI z1025)), (0, .ref a0), (1, .ref a1)] [.int (iI z1427), .int (iI ((z1025 * 9) + z1373)), .ref w0] S g1374 0 0 := by
                intro z1427 lz1427 uz1427
                refine X_iast hK hs_w0 ⟨by decide, by decide, by decide, by omega⟩ (by decide) sl_13400 (by omega) (by omega) (by omega) (by omega) kd36_7.2.2.2.2.2.2.2.2.2.2.1 (fun g1429 hg1429 => ?_)
                refine X_iinc hK (i := 3) (z := z1373) (n := 1) 0 [(3, .int (iI (z1373 + 1))), (2, .int (iI z1025)), (0, .ref a0), (1, .ref a1)] kd36_7.2.2.2.2.2.2.2.2.2.2.2 rfl (by decide) rfl ?_
                refine X_goto hK 14 kd36_8.1 (by decide) ?_
                exact ihP1404  g1429 (xM_ua (xM.tr xM.rf xLe.rf hg1374 (by decide)) hg1429 hs_w0 (by decide) (by decide)) (z1373 + 1) (by omega) (by omega) (by omega)
              refine X_icmp_ne hK 51 (by omega) (by omega) kd36_7.2.2.1 (by decide) (fun c1422 => ?_) (fun c1422 => ?_)
              · refine X_ldc hK (n := 1000000) kd36_7.2.2.2.2.2.2.2.2.2.1 m_53_22 (by decide) ?_
                exact J1428 1000000 (by omega) (by omega)
              · refine X_aloadn hK (i := 0) 2 kd36_7.2.2.2.1 rfl rfl ?_
                refine X_aloadn hK (i := 1) 3 kd36_7.2.2.2.2.1 rfl rfl ?_
                refine X_iloadn hK (i := 2) 1 kd36_7.2.2.2.2.2.1 rfl rfl ?_
                refine X_iloadn hK (i := 3) 0 kd36_7.2.2.2.2.2.2.1 rfl rfl ?_
                refine X_callV hK [.ref a1, .int (iI z1025), .int (iI z1373)] [.int (iI ((z1025 * 9) + z1373)), .ref w0] lk_X8_58 (c_soonestAt_4 _ _ _ _ _ S g1374 a0 a1 z1025 z1373 n0 w0 nw0 hs_a0 hs_a1 (by omega) (by omega) (by omega) ((hg1374 a0 9 0 4 hs_a0 (by decide)).trans ((hg1026 a0 9 0 4 hs_a0 (by decide)).trans en0)) ((hg1374 a0 9 0 3 hs_a0 (by decide)).trans ((hg1026 a0 9 0 3 hs_a0 (by decide)).trans ew0)) hs_w0 (by omega) (by omega)) hs_a0 ⟨by decide, rfl⟩ kd36_7.2.2.2.2.2.2.2.1 rfl rfl (by simp [Value.category]) (by decide) (by decide) (by decide) (by decide) (fun r1430 S1432 g1431 pr1430 qr1430 hg1431 => ?_)
                obtain ⟨rfl, rfl, z1433, rfl, lz1433, uz1433⟩ := pr1430
                refine X_st [.int (iI z1433), .int (iI ((z1025 * 9) + z1373)), .ref w0] rfl ?_
                refine X_goto hK 53 kd36_7.2.2.2.2.2.2.2.2.1 (by decide) ?_
                exact J1428 z1433 (by omega) (by omega)
        exact P1404 ((20 - 0 : Int).toNat + 1) g1026 xM.rf 0 (by omega) (by omega) (by omega)
  exact P1230 ((32 - 1 : Int).toNat + 1) g xM.rf 1 (by omega) (by omega) (by omega)

set_option maxHeartbeats 4000000 in
set_option maxRecDepth 100000 in
theorem c_firstAtEnd_4 (l : Launch) (D : va_G) (kA : Nat → ClassId) (b0 : Nat) (t0 : Nat → Nat) (S : xT) (g : xG) (a0 : Nat) (n0 : Int) (w0 nw0 : Nat) (hs_a0 : S a0 = some (9, 0)) (hn0 : 4 ≤ n0 ∧ n0 ≤ 4) (en0 : g a0 4 = .int (iI n0)) (ew0 : g a0 3 = .ref w0) (hs_w0 : S w0 = some (13400, nw0)) (hp0 : 144 ≤ (nw0 : Int)) (hp1 : (nw0 : Int) ≤ 2147483647) : xMt l yX8_firstAtEnd cX8_firstAtEnd 4 (some .int) 1 0 0 13 D kA b0 t0 [] [.ref a0] S g (fun (r : Option Value) (S1 : xT) (g1 : xG) => S = S1 ∧ g = g1 ∧ ∃ z : Int, r = some (.int (iI z)) ∧ (-2147483648) ≤ z ∧ z ≤ 1000000) := by
  refine xEnterI (by decide) (by simp [lg_sl, Value.category]) [(0, .ref a0)] rfl ?_
  intro K E hK hret _ _ _
  refine X_iconst hK kd36_8.2.2.2.2.1 ?_
  refine X_aloadn hK (i := 0) 0 kd36_8.2.2.2.2.2.1 rfl rfl ?_
  refine X_getK hK fl_X8_24_9 hs_a0 en0 kd36_8.2.2.2.2.2.2.1 ?_
  refine X_ishl hK kd36_8.2.2.2.2.2.2.2.1 (fun z1 ez1 lz1 uz1 => ?_)
  have bz1 := xshlB 4 ez1 ⟨lz1, uz1⟩ (by omega) (by decide)
  refine X_iconst hK kd36_8.2.2.2.2.2.2.2.2.1 ?_
  refine X_isub hK kd36_8.2.2.2.2.2.2.2.2.2.1 ?_
  refine X_istoren hK (i := 1) [(1, .int (iI (z1 - 1))), (0, .ref a0)] kd36_8.2.2.2.2.2.2.2.2.2.2.1 rfl (by decide) rfl ?_
  refine X_ldc hK (n := 1000000) kd36_8.2.2.2.2.2.2.2.2.2.2.2 m_53_22 (by decide) ?_
  refine X_istoren hK (i := 2) [(2, .int (iI 1000000)), (1, .int (iI (z1 - 1))), (0, .ref a0)] kd36_9.1 rfl (by decide) rfl ?_
  refine X_iconst hK kd36_9.2.1 ?_
  refine X_istoren hK (i := 3) [(3, .int (iI 0)), (2, .int (iI 1000000)), (1, .int (iI (z1 - 1))), (0, .ref a0)] kd36_9.2.2.1 rfl (by decide) rfl ?_
  have P32 : ∀ (nP32 : Nat) (z27 : Int) (_ : 0 ≤ z27) (_ : z27 ≤ 4) (z28 : Int) (_ : (-2147483648) ≤ z28) (_ : z28 ≤ 1000000) (_ : 20 - z27 < (nP32 : Int)), X K E 14 [(3, .int (iI z27)), (2, .int (iI z28)), (1, .int (iI (z1 - 1))), (0, .ref a0)] [] S g 0 0 := by
    intro nP32
    induction nP32 with
    | zero => intro z27 lz27 uz27 z28 lz28 uz28 mP32; exact False.elim (by omega)
    | succ nP32 ihP32 =>
      intro z27 lz27 uz27 z28 lz28 uz28 mP32
      refine X_iloadn hK (i := 3) 0 kd36_9.2.2.2.1 rfl rfl ?_
      refine X_aloadn hK (i := 0) 3 kd36_9.2.2.2.2.1 rfl rfl ?_
      refine X_getK hK fl_X8_24_9 hs_a0 en0 kd36_9.2.2.2.2.2.1 ?_
      refine X_icmp_ge hK 44 (by omega) (by omega) kd36_9.2.2.2.2.2.2.1 (by decide) (fun c33 => ?_) (fun c33 => ?_)
      · refine X_iloadn hK (i := 2) 1 kd36_10.2.2.2.2.2.2.2.2.1 rfl rfl ?_
        exact hret _ _ _ _ _ _ _ kd36_10.2.2.2.2.2.2.2.2.2.1 ⟨rfl, rfl, z28, rfl, (by omega), (by omega)⟩ (Nat.le_refl _) (Nat.le_refl _)
      · refine X_iloadn hK (i := 2) 1 kd36_9.2.2.2.2.2.2.2.1 rfl rfl ?_
        refine X_aloadn hK (i := 0) 3 kd36_9.2.2.2.2.2.2.2.2.1 rfl rfl ?_
        refine X_getK hK fl_X8_21_9 hs_a0 ew0 kd36_9.2.2.2.2.2.2.2.2.2.1 ?_
        refine X_iloadn hK (i := 1) 2 kd36_9.2.2.2.2.2.2.2.2.2.2.1 rfl rfl ?_
        refine X_bipush hK kd36_9.2.2.2.2.2.2.2.2.2.2.2 (by decide) ?_
        refine X_imul hK kd36_10.1 ?_
        refine X_iloadn hK (i := 3) 0 kd36_10.2.1 rfl rfl ?_
        refine X_iadd hK kd36_10.2.2.1 ?_
        refine X_iald hK hs_w0 ⟨by decide, by decide, by omega⟩ sl_13400 (by omega) (by omega) kd36_10.2.2.2.1 (fun z34 ez34 lz34 uz34 => ?_)
        refine X_mmin hK mm_X8_68 ⟨by decide, by simp [Value.category]⟩ (by decide) (by omega) (by omega) kd36_10.2.2.2.2.1 (fun z35 ez35 fz35 => ?_)
        have bz35 : (-2147483648) ≤ z35 ∧ z35 ≤ 1000000 := by omega
        refine X_istoren hK (i := 2) [(2, .int (iI z35)), (3, .int (iI z27)), (1, .int (iI (z1 - 1))), (0, .ref a0)] kd36_10.2.2.2.2.2.1 rfl (by decide) rfl ?_
        refine X_iinc hK (i := 3) (z := z27) (n := 1) 1 [(3, .int (iI (z27 + 1))), (2, .int (iI z35)), (1, .int (iI (z1 - 1))), (0, .ref a0)] kd36_10.2.2.2.2.2.2.1 rfl (by decide) rfl ?_
        refine X_goto hK 14 kd36_10.2.2.2.2.2.2.2.1 (by decide) ?_
        exact ihP32  (z27 + 1) (by omega) (by omega) z35 (by omega) (by omega) (by omega)
  exact P32 ((20 - 0 : Int).toNat + 1) 0 (by omega) (by omega) 1000000 (by omega) (by omega) (by omega)

set_option maxHeartbeats 4000000 in
set_option maxRecDepth 100000 in
theorem c_nextOf_4 (l : Launch) (D : va_G) (kA : Nat → ClassId) (b0 : Nat) (t0 : Nat → Nat) (S : xT) (g : xG) (a0 : Nat) (a1 : Nat) (x2 : Int) (x3 : Int) (n0 : Int) (w0 nw0 : Nat) (hs_a0 : S a0 = some (9, 0)) (hs_a1 : S a1 = some (4, 0)) (hx2 : 1 ≤ x2 ∧ x2 ≤ 15) (hx3 : 0 ≤ x3 ∧ x3 ≤ 3) (hn0 : 4 ≤ n0 ∧ n0 ≤ 4) (en0 : g a0 4 = .int (iI n0)) (ew0 : g a0 3 = .ref w0) (hs_w0 : S w0 = some (13400, nw0)) (hp0 : 144 ≤ (nw0 : Int)) (hp1 : (nw0 : Int) ≤ 2147483647) : xMt l yX8_nextOf cX8_nextOf 7 (some .int) 0 0 0 0 D kA b0 t0 [] [.ref a0, .ref a1, .int (iI x2), .int (iI x3)] S g (fun (r : Option Value) (S1 : xT) (g1 : xG) => S = S1 ∧ g = g1 ∧ ∃ z : Int, r = some (.int (iI z)) ∧ (-1) ≤ z ∧ z ≤ 3) := by
  refine xEnterI (by decide) (by simp [lg_sl, Value.category]) [(0, .ref a0), (1, .ref a1), (2, .int (iI x2)), (3, .int (iI x3))] rfl ?_
  intro K E hK hret _ _ _
  refine X_aloadn hK (i := 0) 0 kd36_10.2.2.2.2.2.2.2.2.2.2.1 rfl rfl ?_
  refine X_getK hK fl_X8_21_9 hs_a0 ew0 kd36_10.2.2.2.2.2.2.2.2.2.2.2 ?_
  refine X_iloadn hK (i := 2) 2 kd36_11.1 rfl rfl ?_
  refine X_bipush hK kd36_11.2.1 (by decide) ?_
  refine X_imul hK kd36_11.2.2.1 ?_
  refine X_iloadn hK (i := 3) 3 kd36_11.2.2.2.1 rfl rfl ?_
  refine X_iadd hK kd36_11.2.2.2.2.1 ?_
  refine X_iald hK hs_w0 ⟨by decide, by decide, by omega⟩ sl_13400 (by omega) (by omega) kd36_11.2.2.2.2.2.1 (fun z1 ez1 lz1 uz1 => ?_)
  refine X_istore hK (i := 4) [(4, .int (iI z1)), (0, .ref a0), (1, .ref a1), (2, .int (iI x2)), (3, .int (iI x3))] kd36_11.2.2.2.2.2.2.1 (by decide) rfl ?_
  refine X_iconst hK kd36_11.2.2.2.2.2.2.2.1 ?_
  refine X_istore hK (i := 5) [(5, .int (iI 0)), (4, .int (iI z1)), (0, .ref a0), (1, .ref a1), (2, .int (iI x2)), (3, .int (iI x3))] kd36_11.2.2.2.2.2.2.2.2.1 (by decide) rfl ?_
  have P104 : ∀ (nP104 : Nat) (z87 : Int) (_ : 0 ≤ z87) (_ : z87 ≤ 4) (_ : 20 - z87 < (nP104 : Int)), X K E 16 [(5, .int (iI z87)), (4, .int (iI z1)), (0, .ref a0), (1, .ref a1), (2, .int (iI x2)), (3, .int (iI x3))] [] S g 0 0 := by
    intro nP104
    induction nP104 with
    | zero => intro z87 lz87 uz87 mP104; exact False.elim (by omega)
    | succ nP104 ihP104 =>
      intro z87 lz87 uz87 mP104
      refine X_iload hK (i := 5) 0 kd36_11.2.2.2.2.2.2.2.2.2.1 rfl ?_
      refine X_aloadn hK (i := 0) 2 kd36_11.2.2.2.2.2.2.2.2.2.2.1 rfl rfl ?_
      refine X_getK hK fl_X8_24_9 hs_a0 en0 kd36_11.2.2.2.2.2.2.2.2.2.2.2 ?_
      refine X_icmp_ge hK 96 (by omega) (by omega) kd36_12.1 (by decide) (fun c105 => ?_) (fun c105 => ?_)
      · refine X_iconst hK kd36_15.2.2.2.2.2.2.2.1 ?_
        exact hret _ _ _ _ _ _ _ kd36_15.2.2.2.2.2.2.2.2.1 ⟨rfl, rfl, (-1), rfl, (by omega), (by omega)⟩ (Nat.le_refl _) (Nat.le_refl _)
      · refine X_iload hK (i := 4) 1 kd36_12.2.1 rfl ?_
        refine X_ldc hK (n := 1000000) kd36_12.2.2.1 m_53_22 (by decide) ?_
        refine X_icmp_eq hK 96 (by omega) (by omega) kd36_12.2.2.2.1 (by decide) (fun c106 => ?_) (fun c106 => ?_)
        · refine X_iconst hK kd36_15.2.2.2.2.2.2.2.1 ?_
          exact hret _ _ _ _ _ _ _ kd36_15.2.2.2.2.2.2.2.2.1 ⟨rfl, rfl, (-1), rfl, (by omega), (by omega)⟩ (Nat.le_refl _) (Nat.le_refl _)
        · refine X_iload hK (i := 4) 1 kd36_12.2.2.2.2.1 rfl ?_
          refine X_aloadn hK (i := 1) 3 kd36_12.2.2.2.2.2.1 rfl rfl ?_
          refine X_getr hK 11604 10 fl_X8_62_4 hs_a1 sl_4_6 kd36_12.2.2.2.2.2.2.1 (fun b107 eb107 hs_b107 => ?_)
          refine X_aloadn hK (i := 0) 2 kd36_12.2.2.2.2.2.2.2.1 rfl rfl ?_
          refine X_getr hK 13100 9 fl_X8_11_9 hs_a0 sl_9_0 kd36_12.2.2.2.2.2.2.2.2.1 (fun b108 eb108 hs_b108 => ?_)
          refine X_iloadn hK (i := 3) 5 kd36_12.2.2.2.2.2.2.2.2.2.1 rfl rfl ?_
          refine X_iald hK hs_b108 (by decide) sl_13100 (by omega) (by omega) kd36_12.2.2.2.2.2.2.2.2.2.2.1 (fun z109 ez109 lz109 uz109 => ?_)
          refine X_aald hK 11500 10 hs_b107 (by decide) sl_11604 (by omega) (by omega) kd36_12.2.2.2.2.2.2.2.2.2.2.2 (fun b110 eb110 hs_b110 => ?_)
          refine X_aloadn hK (i := 0) 2 kd36_13.1 rfl rfl ?_
          refine X_getK hK fl_X8_11_9 hs_a0 eb108 kd36_13.2.1 ?_
          refine X_iload hK (i := 5) 0 kd36_13.2.2.1 rfl ?_
          refine X_iald hK hs_b108 (by decide) sl_13100 (by omega) (by omega) kd36_13.2.2.2.1 (fun z111 ez111 lz111 uz111 => ?_)
          refine X_iald hK hs_b110 (by decide) sl_11500 (by omega) (by omega) kd36_13.2.2.2.2.1 (fun z112 ez112 lz112 uz112 => ?_)
          refine X_iadd hK kd36_13.2.2.2.2.2.1 ?_
          refine X_norm (fun z113 ez113 lz113 uz113 => ?_)
          refine X_istore hK (i := 6) [(6, .int (iI z113)), (5, .int (iI z87)), (4, .int (iI z1)), (0, .ref a0), (1, .ref a1), (2, .int (iI x2)), (3, .int (iI x3))] kd36_13.2.2.2.2.2.2.1 (by decide) rfl ?_
          refine X_iloadn hK (i := 2) 5 kd36_13.2.2.2.2.2.2.2.1 rfl rfl ?_
          refine X_iload hK (i := 5) 1 kd36_13.2.2.2.2.2.2.2.2.1 rfl ?_
          refine X_ishr hK kd36_13.2.2.2.2.2.2.2.2.2.1 (fun z114 ez114 lz114 uz114 => ?_)
          refine X_iconst hK kd36_13.2.2.2.2.2.2.2.2.2.2.1 ?_
          refine X_iand hK kd36_13.2.2.2.2.2.2.2.2.2.2.2 (fun z115 ez115 lz115 uz115 => ?_)
          have bz115 := xandB ez115 ⟨lz115, uz115⟩ (by omega)
          refine X_if_ne hK 90 (by omega) kd36_14.1 (by decide) (fun c116 => ?_) (fun c116 => ?_)
          · refine X_iinc hK (i := 5) (z := z87) (n := 1) 1 [(5, .int (iI (z87 + 1))), (6, .int (iI z113)), (4, .int (iI z1)), (0, .ref a0), (1, .ref a1), (2, .int (iI x2)), (3, .int (iI x3))] kd36_15.2.2.2.2.2.1 rfl (by decide) rfl ?_
            refine X_goto hK 16 kd36_15.2.2.2.2.2.2.1 (by decide) ?_
            refine X_lv [(5, .int (iI (z87 + 1))), (4, .int (iI z1)), (0, .ref a0), (1, .ref a1), (2, .int (iI x2)), (3, .int (iI x3))] [0, 2, 3, 4, 5, 6] rfl ?_
            exact ihP104  (z87 + 1) (by omega) (by omega) (by omega)
          · refine X_aloadn hK (i := 0) 3 kd36_14.2.1 rfl rfl ?_
            refine X_getK hK fl_X8_21_9 hs_a0 ew0 kd36_14.2.2.1 ?_
            refine X_iloadn hK (i := 2) 5 kd36_14.2.2.2.1 rfl rfl ?_
            refine X_iconst hK kd36_14.2.2.2.2.1 ?_
            refine X_iload hK (i := 5) 1 kd36_14.2.2.2.2.2.1 rfl ?_
            refine X_ishl hK kd36_14.2.2.2.2.2.2.1 (fun z117 ez117 lz117 uz117 => ?_)
            have bz117 := xshlB 3 ez117 ⟨lz117, uz117⟩ (by omega) (by decide)
            refine X_ior hK kd36_14.2.2.2.2.2.2.2.1 (fun z118 ez118 lz118 uz118 => ?_)
            have bz118 := xiorB 4 ez118 ⟨lz118, uz118⟩ (by omega) (by omega) (by decide)
            refine X_bipush hK kd36_14.2.2.2.2.2.2.2.2.1 (by decide) ?_
            refine X_imul hK kd36_14.2.2.2.2.2.2.2.2.2.1 ?_
            refine X_iload hK (i := 5) 1 kd36_14.2.2.2.2.2.2.2.2.2.2.1 rfl ?_
            refine X_iadd hK kd36_14.2.2.2.2.2.2.2.2.2.2.2 ?_
            refine X_iald hK hs_w0 ⟨by decide, by decide, by omega⟩ sl_13400 (by omega) (by omega) kd36_15.1 (fun z119 ez119 lz119 uz119 => ?_)
            refine X_iload hK (i := 6) 0 kd36_15.2.1 rfl ?_
            refine X_icmp_ne hK 90 (by omega) (by omega) kd36_15.2.2.1 (by decide) (fun c120 => ?_) (fun c120 => ?_)
            · refine X_iinc hK (i := 5) (z := z87) (n := 1) 1 [(5, .int (iI (z87 + 1))), (6, .int (iI z113)), (4, .int (iI z1)), (0, .ref a0), (1, .ref a1), (2, .int (iI x2)), (3, .int (iI x3))] kd36_15.2.2.2.2.2.1 rfl (by decide) rfl ?_
              refine X_goto hK 16 kd36_15.2.2.2.2.2.2.1 (by decide) ?_
              refine X_lv [(5, .int (iI (z87 + 1))), (4, .int (iI z1)), (0, .ref a0), (1, .ref a1), (2, .int (iI x2)), (3, .int (iI x3))] [0, 2, 3, 4, 5, 6] rfl ?_
              exact ihP104  (z87 + 1) (by omega) (by omega) (by omega)
            · refine X_iload hK (i := 5) 1 kd36_15.2.2.2.1 rfl ?_
              exact hret _ _ _ _ _ _ _ kd36_15.2.2.2.2.1 ⟨rfl, rfl, z87, rfl, (by omega), (by omega)⟩ (Nat.le_refl _) (Nat.le_refl _)
  exact P104 ((20 - 0 : Int).toNat + 1) 0 (by omega) (by omega) (by omega)

set_option maxHeartbeats 4000000 in
set_option maxRecDepth 100000 in
theorem c_dropOthers_4 (l : Launch) (D : va_G) (kA : Nat → ClassId) (b0 : Nat) (t0 : Nat → Nat) (S : xT) (g : xG) (a0 : Nat) (a1 : Nat) (x2 : Int) (n0 : Int) (w0 nw0 : Nat) (hs_a0 : S a0 = some (9, 0)) (hs_a1 : S a1 = some (4, 0)) (hx2 : (-2147483648) ≤ x2 ∧ x2 ≤ 2147483647) (hn0 : 4 ≤ n0 ∧ n0 ≤ 4) (en0 : g a0 4 = .int (iI n0)) (ew0 : g a0 3 = .ref w0) (hs_w0 : S w0 = some (13400, nw0)) (hp0 : 144 ≤ (nw0 : Int)) (hp1 : (nw0 : Int) ≤ 2147483647) : xMt l yX8_dropOthers cX8_dropOthers 8 none 1 0 0 26 D kA b0 t0 [(13400, 0)] [.ref a0, .ref a1, .int (iI x2)] S g (fun (r : Option Value) (S1 : xT) (g1 : xG) => S = S1 ∧ r = none) := by
  refine xEnterV (by decide) (by simp [lg_sl, Value.category]) [(0, .ref a0), (1, .ref a1), (2, .int (iI x2))] rfl ?_
  intro K E hK hret _ _ _
  refine X_iconst hK kd36_0.1 ?_
  refine X_aloadn hK (i := 0) 0 kd36_0.2.1 rfl rfl ?_
  refine X_getK hK fl_X8_24_9 hs_a0 en0 kd36_0.2.2.1 ?_
  refine X_ishl hK kd36_0.2.2.2.1 (fun z1 ez1 lz1 uz1 => ?_)
  have bz1 := xshlB 4 ez1 ⟨lz1, uz1⟩ (by omega) (by decide)
  refine X_iconst hK kd36_0.2.2.2.2.1 ?_
  refine X_isub hK kd36_0.2.2.2.2.2.1 ?_
  refine X_istoren hK (i := 3) [(3, .int (iI (z1 - 1))), (0, .ref a0), (1, .ref a1), (2, .int (iI x2))] kd36_0.2.2.2.2.2.2.1 rfl (by decide) rfl ?_
  refine X_iloadn hK (i := 3) 0 kd36_0.2.2.2.2.2.2.2.1 rfl rfl ?_
  refine X_istore hK (i := 4) [(4, .int (iI (z1 - 1))), (3, .int (iI (z1 - 1))), (0, .ref a0), (1, .ref a1), (2, .int (iI x2))] kd36_0.2.2.2.2.2.2.2.2.1 (by decide) rfl ?_
  have P1541 : ∀ (nP1541 : Nat) (g1234 : xG) (_ : xM [(13400, 0)] S g g1234) (z1233 : Int) (_ : 0 ≤ z1233) (_ : z1233 ≤ 15) (_ : z1233 - (-16) < (nP1541 : Int)), X K E 12 [(4, .int (iI z1233)), (3, .int (iI (z1 - 1))), (0, .ref a0), (1, .ref a1), (2, .int (iI x2))] [] S g1234 0 0 := by
    intro nP1541
    induction nP1541 with
    | zero => intro g1234 hg1234 z1233 lz1233 uz1233 mP1541; exact False.elim (by omega)
    | succ nP1541 ihP1541 =>
      intro g1234 hg1234 z1233 lz1233 uz1233 mP1541
      refine X_iload hK (i := 4) 0 kd36_0.2.2.2.2.2.2.2.2.2.1 rfl ?_
      refine X_if_le hK 110 (by omega) kd36_0.2.2.2.2.2.2.2.2.2.2.1 (by decide) (fun c1542 => ?_) (fun c1542 => ?_)
      · exact hret _ _ _ _ _ _ kd36_4.2.2.2.2.2.2.2.2.2.2.1 ⟨rfl, rfl⟩ (Nat.le_refl _) (Nat.le_refl _)
      · refine X_iconst hK kd36_0.2.2.2.2.2.2.2.2.2.2.2 ?_
        refine X_istore hK (i := 5) [(5, .int (iI 0)), (4, .int (iI z1233)), (3, .int (iI (z1 - 1))), (0, .ref a0), (1, .ref a1), (2, .int (iI x2))] kd36_1.1 (by decide) rfl ?_
        have P1802 : ∀ (nP1802 : Nat) (g1756 : xG) (_ : xM [(13400, 0)] S g1234 g1756) (z1755 : Int) (_ : 0 ≤ z1755) (_ : z1755 ≤ 4) (_ : 20 - z1755 < (nP1802 : Int)), X K E 20 [(5, .int (iI z1755)), (4, .int (iI z1233)), (3, .int (iI (z1 - 1))), (0, .ref a0), (1, .ref a1), (2, .int (iI x2))] [] S g1756 0 0 := by
          intro nP1802
          induction nP1802 with
          | zero => intro g1756 hg1756 z1755 lz1755 uz1755 mP1802; exact False.elim (by omega)
          | succ nP1802 ihP1802 =>
            intro g1756 hg1756 z1755 lz1755 uz1755 mP1802
            refine X_iload hK (i := 5) 0 kd36_1.2.1 rfl ?_
            refine X_aloadn hK (i := 0) 3 kd36_1.2.2.1 rfl rfl ?_
            refine X_getK hK fl_X8_24_9 hs_a0 ((hg1756 a0 9 0 4 hs_a0 (by decide)).trans ((hg1234 a0 9 0 4 hs_a0 (by decide)).trans en0)) kd36_1.2.2.2.1 ?_
            refine X_icmp_ge hK 104 (by omega) (by omega) kd36_1.2.2.2.2.1 (by decide) (fun c1803 => ?_) (fun c1803 => ?_)
            · refine X_iinc hK (i := 4) (z := z1233) (n := (-1)) 1 [(4, .int (iI (z1233 + (-1)))), (5, .int (iI z1755)), (3, .int (iI (z1 - 1))), (0, .ref a0), (1, .ref a1), (2, .int (iI x2))] kd36_4.2.2.2.2.2.2.2.2.1 rfl (by decide) rfl ?_
              refine X_goto hK 12 kd36_4.2.2.2.2.2.2.2.2.2.1 (by decide) ?_
              refine X_lv [(4, .int (iI (z1233 + (-1)))), (3, .int (iI (z1 - 1))), (0, .ref a0), (1, .ref a1), (2, .int (iI x2))] [0, 2, 3, 4, 5] rfl ?_
              exact ihP1541  g1756 (xM.tr (xM.tr xM.rf xLe.rf hg1234 (by decide)) xLe.rf hg1756 (by decide)) (z1233 + (-1)) (by omega) (by omega) (by omega)
            · refine X_iload hK (i := 4) 1 kd36_1.2.2.2.2.2.1 rfl ?_
              refine X_bipush hK kd36_1.2.2.2.2.2.2.1 (by decide) ?_
              refine X_imul hK kd36_1.2.2.2.2.2.2.2.1 ?_
              refine X_iload hK (i := 5) 0 kd36_1.2.2.2.2.2.2.2.2.1 rfl ?_
              refine X_iadd hK kd36_1.2.2.2.2.2.2.2.2.2.1 ?_
              refine X_istore hK (i := 6) [(6, .int (iI ((z1233 * 9) + z1755))), (5, .int (iI z1755)), (4, .int (iI z1233)), (3, .int (iI (z1 - 1))), (0, .ref a0), (1, .ref a1), (2, .int (iI x2))] kd36_1.2.2.2.2.2.2.2.2.2.2.1 (by decide) rfl ?_
              refine X_iload hK (i := 4) 2 kd36_1.2.2.2.2.2.2.2.2.2.2.2 rfl ?_
              refine X_iloadn hK (i := 3) 3 kd36_2.1 rfl rfl ?_
              have J1835 : ∀ (z1834 : Int) (lz1834 : 0 ≤ z1834) (uz1834 : z1834 ≤ 1), X K E 82 [(6, .int (iI ((z1233 * 9) + z1755))), (5, .int (iI z1755)), (4, .int (iI z1233)), (3, .int (iI (z1 - 1))), (0, .ref a0), (1, .ref a1), (2, .int (iI x2))] [.int (iI z1834)] S g1756 0 0 := by
                intro z1834 lz1834 uz1834
                refine X_istore hK (i := 7) [(7, .int (iI z1834)), (6, .int (iI ((z1233 * 9) + z1755))), (5, .int (iI z1755)), (4, .int (iI z1233)), (3, .int (iI (z1 - 1))), (0, .ref a0), (1, .ref a1), (2, .int (iI x2))] kd36_3.2.2.2.2.2.2.2.2.2.2.1 (by decide) rfl ?_
                refine X_iload hK (i := 7) 0 kd36_3.2.2.2.2.2.2.2.2.2.2.2 rfl ?_
                have J1838 : ∀ (g1839 : xG) (hg1839 : xM [(13400, 0)] S g1756 g1839), X K E 98 [(7, .int (iI z1834)), (6, .int (iI ((z1233 * 9) + z1755))), (5, .int (iI z1755)), (4, .int (iI z1233)), (3, .int (iI (z1 - 1))), (0, .ref a0), (1, .ref a1), (2, .int (iI x2))] [] S g1839 0 0 := by
                  intro g1839 hg1839
                  refine X_iinc hK (i := 5) (z := z1755) (n := 1) 2 [(5, .int (iI (z1755 + 1))), (7, .int (iI z1834)), (6, .int (iI ((z1233 * 9) + z1755))), (4, .int (iI z1233)), (3, .int (iI (z1 - 1))), (0, .ref a0), (1, .ref a1), (2, .int (iI x2))] kd36_4.2.2.2.2.2.2.1 rfl (by decide) rfl ?_
                  refine X_goto hK 20 kd36_4.2.2.2.2.2.2.2.1 (by decide) ?_
                  refine X_lv [(5, .int (iI (z1755 + 1))), (4, .int (iI z1233)), (3, .int (iI (z1 - 1))), (0, .ref a0), (1, .ref a1), (2, .int (iI x2))] [0, 3, 4, 5, 6, 7] rfl ?_
                  exact ihP1802  g1839 (xM.tr (xM.tr xM.rf xLe.rf hg1756 (by decide)) xLe.rf hg1839 (by decide)) (z1755 + 1) (by omega) (by omega) (by omega)
                refine X_if_ne hK 98 (by omega) kd36_4.1 (by decide) (fun c1836 => ?_) (fun c1836 => ?_)
                · exact J1838 g1756 xM.rf
                · refine X_aloadn hK (i := 0) 5 kd36_4.2.1 rfl rfl ?_
                  refine X_getK hK fl_X8_21_9 hs_a0 ((hg1756 a0 9 0 3 hs_a0 (by decide)).trans ((hg1234 a0 9 0 3 hs_a0 (by decide)).trans ew0)) kd36_4.2.2.1 ?_
                  refine X_iload hK (i := 6) 1 kd36_4.2.2.2.1 rfl ?_
                  refine X_ldc hK (n := 1000000) kd36_4.2.2.2.2.1 m_53_22 (by decide) ?_
                  refine X_iast hK hs_w0 ⟨by decide, by decide, by decide, by omega⟩ (by decide) sl_13400 (by omega) (by omega) (by omega) (by omega) kd36_4.2.2.2.2.2.1 (fun g1840 hg1840 => ?_)
                  exact J1838 g1840 (xM_ua xM.rf hg1840 hs_w0 (by decide) (by decide))
              refine X_icmp_ne hK 64 (by omega) (by omega) kd36_2.2.1 (by decide) (fun c1826 => ?_) (fun c1826 => ?_)
              · refine X_aloadn hK (i := 0) 4 kd36_3.1 rfl rfl ?_
                refine X_aloadn hK (i := 1) 5 kd36_3.2.1 rfl rfl ?_
                refine X_iload hK (i := 4) 2 kd36_3.2.2.1 rfl ?_
                refine X_iload hK (i := 5) 1 kd36_3.2.2.2.1 rfl ?_
                refine X_callV hK [.ref a1, .int (iI z1233), .int (iI z1755)] [] lk_X8_74 (c_nextOf_4 _ _ _ _ _ S g1756 a0 a1 z1233 z1755 n0 w0 nw0 hs_a0 hs_a1 (by omega) (by omega) (by omega) ((hg1756 a0 9 0 4 hs_a0 (by decide)).trans ((hg1234 a0 9 0 4 hs_a0 (by decide)).trans en0)) ((hg1756 a0 9 0 3 hs_a0 (by decide)).trans ((hg1234 a0 9 0 3 hs_a0 (by decide)).trans ew0)) hs_w0 (by omega) (by omega)) hs_a0 ⟨by decide, rfl⟩ kd36_3.2.2.2.2.1 rfl rfl (by simp [Value.category]) (by decide) (by decide) (by decide) (by decide) (fun r1841 S1843 g1842 pr1841 qr1841 hg1842 => ?_)
                obtain ⟨rfl, rfl, z1844, rfl, lz1844, uz1844⟩ := pr1841
                refine X_st [.int (iI z1844)] rfl ?_
                refine X_iconst hK kd36_3.2.2.2.2.2.1 ?_
                refine X_icmp_eq hK 81 (by omega) (by omega) kd36_3.2.2.2.2.2.2.1 (by decide) (fun c1845 => ?_) (fun c1845 => ?_)
                · refine X_iconst hK kd36_3.2.2.2.2.2.2.2.2.2.1 ?_
                  exact J1835 0 (by omega) (by omega)
                · refine X_iconst hK kd36_3.2.2.2.2.2.2.2.1 ?_
                  refine X_goto hK 82 kd36_3.2.2.2.2.2.2.2.2.1 (by decide) ?_
                  exact J1835 1 (by omega) (by omega)
              · refine X_aloadn hK (i := 0) 4 kd36_2.2.2.1 rfl rfl ?_
                refine X_getK hK fl_X8_21_9 hs_a0 ((hg1756 a0 9 0 3 hs_a0 (by decide)).trans ((hg1234 a0 9 0 3 hs_a0 (by decide)).trans ew0)) kd36_2.2.2.2.1 ?_
                refine X_iload hK (i := 6) 0 kd36_2.2.2.2.2.1 rfl ?_
                refine X_iald hK hs_w0 ⟨by decide, by decide, by omega⟩ sl_13400 (by omega) (by omega) kd36_2.2.2.2.2.2.1 (fun z1846 ez1846 lz1846 uz1846 => ?_)
                refine X_iloadn hK (i := 2) 6 kd36_2.2.2.2.2.2.2.1 rfl rfl ?_
                refine X_icmp_ne hK 60 (by omega) (by omega) kd36_2.2.2.2.2.2.2.2.1 (by decide) (fun c1847 => ?_) (fun c1847 => ?_)
                · refine X_iconst hK kd36_2.2.2.2.2.2.2.2.2.2.2.1 ?_
                  refine X_goto hK 82 kd36_2.2.2.2.2.2.2.2.2.2.2.2 (by decide) ?_
                  exact J1835 0 (by omega) (by omega)
                · refine X_iconst hK kd36_2.2.2.2.2.2.2.2.2.1 ?_
                  refine X_goto hK 82 kd36_2.2.2.2.2.2.2.2.2.2.1 (by decide) ?_
                  exact J1835 1 (by omega) (by omega)
        exact P1802 ((20 - 0 : Int).toNat + 1) g1234 xM.rf 0 (by omega) (by omega) (by omega)
  exact P1541 (((z1 - 1) - (-16) : Int).toNat + 1) g xM.rf (z1 - 1) (by omega) (by omega) (by omega)

set_option maxHeartbeats 4000000 in
set_option maxRecDepth 100000 in
theorem c_walk_4 (l : Launch) (D : va_G) (kA : Nat → ClassId) (b0 : Nat) (t0 : Nat → Nat) (S : xT) (g : xG) (a0 : Nat) (a1 : Nat) (n0 : Int) (w0 nw0 : Nat) (hs_a0 : S a0 = some (9, 0)) (hs_a1 : S a1 = some (4, 0)) (hn0 : 4 ≤ n0 ∧ n0 ≤ 4) (en0 : g a0 4 = .int (iI n0)) (ew0 : g a0 3 = .ref w0) (hs_w0 : S w0 = some (13400, nw0)) (hp0 : 144 ≤ (nw0 : Int)) (hp1 : (nw0 : Int) ≤ 2147483647) : xMt l yX8_walk cX8_walk 5 none 1 0 0 26 D kA b0 t0 [(9, 5), (13300, 0)] [.ref a0, .ref a1] S g (fun (r : Option Value) (S1 : xT) (g1 : xG) => S = S1 ∧ r = none) := by
  refine xEnterV (by decide) (by simp [lg_sl, Value.category]) [(0, .ref a0), (1, .ref a1)] rfl ?_
  intro K E hK hret _ _ _
  refine X_iconst hK kd36_20.2.2.2.2.2.2.2.2.2.1 ?_
  refine X_istoren hK (i := 2) [(2, .int (iI (-1))), (0, .ref a0), (1, .ref a1)] kd36_20.2.2.2.2.2.2.2.2.2.2.1 rfl (by decide) rfl ?_
  refine X_aloadn hK (i := 0) 1 kd36_20.2.2.2.2.2.2.2.2.2.2.2 rfl rfl ?_
  refine X_getK hK fl_X8_24_9 hs_a0 en0 kd36_21.1 ?_
  refine X_iconst hK kd36_21.2.1 ?_
  refine X_isub hK kd36_21.2.2.1 ?_
  refine X_istoren hK (i := 3) [(3, .int (iI (n0 - 1))), (2, .int (iI (-1))), (0, .ref a0), (1, .ref a1)] kd36_21.2.2.2.1 rfl (by decide) rfl ?_
  have P595 : ∀ (nP595 : Nat) (z459 : Int) (_ : (-1) ≤ z459) (_ : z459 ≤ 3) (z460 : Int) (_ : (-1) ≤ z460) (_ : z460 ≤ 3) (_ : z459 - (-17) < (nP595 : Int)), X K E 9 [(3, .int (iI z459)), (2, .int (iI z460)), (0, .ref a0), (1, .ref a1)] [] S g 0 0 := by
    intro nP595
    induction nP595 with
    | zero => intro z459 lz459 uz459 z460 lz460 uz460 mP595; exact False.elim (by omega)
    | succ nP595 ihP595 =>
      intro z459 lz459 uz459 z460 lz460 uz460 mP595
      refine X_iloadn hK (i := 3) 0 kd36_21.2.2.2.2.1 rfl rfl ?_
      refine X_if_lt hK 39 (by omega) kd36_21.2.2.2.2.2.1 (by decide) (fun c596 => ?_) (fun c596 => ?_)
      · refine X_iconst hK kd36_22.2.2.2.2.2.2.2.2.2.2.1 ?_
        refine X_istoren hK (i := 3) [(3, .int (iI 0)), (2, .int (iI z460)), (0, .ref a0), (1, .ref a1)] kd36_22.2.2.2.2.2.2.2.2.2.2.2 rfl (by decide) rfl ?_
        refine X_aloadn hK (i := 0) 2 kd36_23.1 rfl rfl ?_
        refine X_iconst hK kd36_23.2.1 ?_
        refine X_puti hK fl_X8_28_9 hs_a0 (by decide) sl_9_5 (by omega) (by omega) kd36_23.2.2.1 (fun g602 hg602 => ?_)
        refine X_iconst hK kd36_23.2.2.2.1 ?_
        refine X_istore hK (i := 4) [(4, .int (iI 0)), (3, .int (iI 0)), (2, .int (iI z460)), (0, .ref a0), (1, .ref a1)] kd36_23.2.2.2.2.1 (by decide) rfl ?_
        have P710 : ∀ (nP710 : Nat) (g695 : xG) (_ : xM [(9, 5), (13300, 0)] S g602 g695) (z692 : Int) (_ : 0 ≤ z692) (_ : z692 ≤ 4) (z693 : Int) (_ : 0 ≤ z693) (_ : z693 ≤ 15) (z694 : Int) (_ : (-1) ≤ z694) (_ : z694 ≤ 3) (q696 : Int) (_ : 0 ≤ q696) (_ : q696 ≤ 9) (_ : g695 a0 5 = .int (iI q696)) (_ : q696 ≤ z692) (_ : 20 - z692 < (nP710 : Int)), X K E 49 [(4, .int (iI z692)), (3, .int (iI z693)), (2, .int (iI z694)), (0, .ref a0), (1, .ref a1)] [] S g695 0 0 := by
          intro nP710
          induction nP710 with
          | zero => intro g695 hg695 z692 lz692 uz692 z693 lz693 uz693 z694 lz694 uz694 q696 lq696 uq696 eq696 v711 mP710; exact False.elim (by omega)
          | succ nP710 ihP710 =>
            intro g695 hg695 z692 lz692 uz692 z693 lz693 uz693 z694 lz694 uz694 q696 lq696 uq696 eq696 v711 mP710
            refine X_iload hK (i := 4) 0 kd36_23.2.2.2.2.2.1 rfl ?_
            refine X_aloadn hK (i := 0) 3 kd36_23.2.2.2.2.2.2.1 rfl rfl ?_
            refine X_getK hK fl_X8_24_9 hs_a0 ((hg695 a0 9 0 4 hs_a0 (by decide)).trans ((xs_k hg602 (by decide)).trans en0)) kd36_23.2.2.2.2.2.2.2.1 ?_
            refine X_icmp_ge hK 106 (by omega) (by omega) kd36_23.2.2.2.2.2.2.2.2.1 (by decide) (fun c712 => ?_) (fun c712 => ?_)
            · exact hret _ _ _ _ _ _ kd36_26.2.2.2.2 ⟨rfl, rfl⟩ (Nat.le_refl _) (Nat.le_refl _)
            · refine X_iloadn hK (i := 2) 2 kd36_23.2.2.2.2.2.2.2.2.2.1 rfl rfl ?_
              refine X_iconst hK kd36_23.2.2.2.2.2.2.2.2.2.2.1 ?_
              refine X_icmp_eq hK 106 (by omega) (by omega) kd36_23.2.2.2.2.2.2.2.2.2.2.2 (by decide) (fun c713 => ?_) (fun c713 => ?_)
              · exact hret _ _ _ _ _ _ kd36_26.2.2.2.2 ⟨rfl, rfl⟩ (Nat.le_refl _) (Nat.le_refl _)
              · refine X_aloadn hK (i := 0) 3 kd36_24.1 rfl rfl ?_
                refine X_getr hK 13300 9 fl_X8_18_9 hs_a0 sl_9_2 kd36_24.2.1 (fun b714 eb714 hs_b714 => ?_)
                refine X_iload hK (i := 4) 0 kd36_24.2.2.1 rfl ?_
                refine X_aloadn hK (i := 0) 3 kd36_24.2.2.2.1 rfl rfl ?_
                refine X_getr hK 13100 9 fl_X8_11_9 hs_a0 sl_9_0 kd36_24.2.2.2.2.1 (fun b715 eb715 hs_b715 => ?_)
                refine X_iloadn hK (i := 2) 2 kd36_24.2.2.2.2.2.1 rfl rfl ?_
                refine X_iald hK hs_b715 (by decide) sl_13100 (by omega) (by omega) kd36_24.2.2.2.2.2.2.1 (fun z716 ez716 lz716 uz716 => ?_)
                refine X_iast hK hs_b714 (by decide) (by decide) sl_13300 (by omega) (by omega) (by omega) (by omega) kd36_24.2.2.2.2.2.2.2.1 (fun g717 hg717 => ?_)
                refine X_aloadn hK (i := 0) 3 kd36_24.2.2.2.2.2.2.2.2.1 rfl rfl ?_
                refine X_dup hK kd36_24.2.2.2.2.2.2.2.2.2.1 rfl ?_
                refine X_getK hK fl_X8_28_9 hs_a0 ((xs_a hg717 (xne hs_a0 hs_b714 (by decide))).trans eq696) kd36_24.2.2.2.2.2.2.2.2.2.2.1 ?_
                refine X_iconst hK kd36_24.2.2.2.2.2.2.2.2.2.2.2 ?_
                refine X_iadd hK kd36_25.1 ?_
                refine X_puti hK fl_X8_28_9 hs_a0 (by decide) sl_9_5 (by omega) (by omega) kd36_25.2.1 (fun g718 hg718 => ?_)
                refine X_iloadn hK (i := 3) 1 kd36_25.2.2.1 rfl rfl ?_
                refine X_iconst hK kd36_25.2.2.2.1 ?_
                refine X_iloadn hK (i := 2) 2 kd36_25.2.2.2.2.1 rfl rfl ?_
                refine X_ishl hK kd36_25.2.2.2.2.2.1 (fun z719 ez719 lz719 uz719 => ?_)
                have bz719 := xshlB 3 ez719 ⟨lz719, uz719⟩ (by omega) (by decide)
                refine X_ior hK kd36_25.2.2.2.2.2.2.1 (fun z720 ez720 lz720 uz720 => ?_)
                have bz720 := xiorB 4 ez720 ⟨lz720, uz720⟩ (by omega) (by omega) (by decide)
                have gz720 := xiorG ez720 ⟨lz720, uz720⟩ (by omega) (by omega)
                refine X_istoren hK (i := 3) [(3, .int (iI z720)), (4, .int (iI z692)), (2, .int (iI z694)), (0, .ref a0), (1, .ref a1)] kd36_25.2.2.2.2.2.2.2.1 rfl (by decide) rfl ?_
                refine X_aloadn hK (i := 0) 3 kd36_25.2.2.2.2.2.2.2.2.1 rfl rfl ?_
                refine X_aloadn hK (i := 1) 4 kd36_25.2.2.2.2.2.2.2.2.2.1 rfl rfl ?_
                refine X_iloadn hK (i := 3) 0 kd36_25.2.2.2.2.2.2.2.2.2.2.1 rfl rfl ?_
                refine X_iloadn hK (i := 2) 2 kd36_25.2.2.2.2.2.2.2.2.2.2.2 rfl rfl ?_
                refine X_callV hK [.ref a1, .int (iI z720), .int (iI z694)] [] lk_X8_74 (c_nextOf_4 _ _ _ _ _ S g718 a0 a1 z720 z694 n0 w0 nw0 hs_a0 hs_a1 (by omega) (by omega) (by omega) ((xs_k hg718 (by decide)).trans ((xs_a hg717 (xne hs_a0 hs_b714 (by decide))).trans ((hg695 a0 9 0 4 hs_a0 (by decide)).trans ((xs_k hg602 (by decide)).trans en0)))) ((xs_k hg718 (by decide)).trans ((xs_a hg717 (xne hs_a0 hs_b714 (by decide))).trans ((hg695 a0 9 0 3 hs_a0 (by decide)).trans ((xs_k hg602 (by decide)).trans ew0)))) hs_w0 (by omega) (by omega)) hs_a0 ⟨by decide, rfl⟩ kd36_26.1 rfl rfl (by simp [Value.category]) (by decide) (by decide) (by decide) (by decide) (fun r721 S723 g722 pr721 qr721 hg722 => ?_)
                obtain ⟨rfl, rfl, z724, rfl, lz724, uz724⟩ := pr721
                refine X_st [.int (iI z724)] rfl ?_
                refine X_istoren hK (i := 2) [(2, .int (iI z724)), (3, .int (iI z720)), (4, .int (iI z692)), (0, .ref a0), (1, .ref a1)] kd36_26.2.1 rfl (by decide) rfl ?_
                refine X_iinc hK (i := 4) (z := z692) (n := 1) 2 [(4, .int (iI (z692 + 1))), (2, .int (iI z724)), (3, .int (iI z720)), (0, .ref a0), (1, .ref a1)] kd36_26.2.2.1 rfl (by decide) rfl ?_
                refine X_goto hK 49 kd36_26.2.2.2.1 (by decide) ?_
                refine X_lv [(4, .int (iI (z692 + 1))), (3, .int (iI z720)), (2, .int (iI z724)), (0, .ref a0), (1, .ref a1)] [0, 2, 1, 3, 4] rfl ?_
                exact ihP710  g718 (xM_up (xM_ua (xM.tr xM.rf xLe.rf hg695 (by decide)) hg717 hs_b714 (by decide) (by decide)) hg718 hs_a0 (by decide) (by decide)) (z692 + 1) (by omega) (by omega) z720 (by omega) (by omega) z724 (by omega) (by omega) (q696 + 1) (by omega) (by omega) (xs_s hg718) (by omega) (by omega)
        exact P710 ((20 - 0 : Int).toNat + 1) g602 xM.rf 0 (by omega) (by omega) 0 (by omega) (by omega) z460 (by omega) (by omega) 0 (by omega) (by omega) (xs_s hg602) (by omega) (by omega)
      · refine X_aloadn hK (i := 0) 2 kd36_21.2.2.2.2.2.2.1 rfl rfl ?_
        refine X_getK hK fl_X8_21_9 hs_a0 ew0 kd36_21.2.2.2.2.2.2.2.1 ?_
        refine X_iconst hK kd36_21.2.2.2.2.2.2.2.2.1 ?_
        refine X_iloadn hK (i := 3) 0 kd36_21.2.2.2.2.2.2.2.2.2.1 rfl rfl ?_
        refine X_ishl hK kd36_21.2.2.2.2.2.2.2.2.2.2.1 (fun z725 ez725 lz725 uz725 => ?_)
        have bz725 := xshlB 3 ez725 ⟨lz725, uz725⟩ (by omega) (by decide)
        refine X_bipush hK kd36_21.2.2.2.2.2.2.2.2.2.2.2 (by decide) ?_
        refine X_imul hK kd36_22.1 ?_
        refine X_iloadn hK (i := 3) 0 kd36_22.2.1 rfl rfl ?_
        refine X_iadd hK kd36_22.2.2.1 ?_
        refine X_iald hK hs_w0 ⟨by decide, by decide, by omega⟩ sl_13400 (by omega) (by omega) kd36_22.2.2.2.1 (fun z726 ez726 lz726 uz726 => ?_)
        refine X_ldc hK (n := 1000000) kd36_22.2.2.2.2.1 m_53_22 (by decide) ?_
        have J729 : ∀ (z728 : Int) (lz728 : (-1) ≤ z728) (uz728 : z728 ≤ 3), X K E 33 [(3, .int (iI z459)), (2, .int (iI z728)), (0, .ref a0), (1, .ref a1)] [] S g 0 0 := by
          intro z728 lz728 uz728
          refine X_iinc hK (i := 3) (z := z459) (n := (-1)) 0 [(3, .int (iI (z459 + (-1)))), (2, .int (iI z728)), (0, .ref a0), (1, .ref a1)] kd36_22.2.2.2.2.2.2.2.2.1 rfl (by decide) rfl ?_
          refine X_goto hK 9 kd36_22.2.2.2.2.2.2.2.2.2.1 (by decide) ?_
          exact ihP595  (z459 + (-1)) (by omega) (by omega) z728 (by omega) (by omega) (by omega)
        refine X_icmp_eq hK 33 (by omega) (by omega) kd36_22.2.2.2.2.2.1 (by decide) (fun c727 => ?_) (fun c727 => ?_)
        · exact J729 z460 (by omega) (by omega)
        · refine X_iloadn hK (i := 3) 0 kd36_22.2.2.2.2.2.2.1 rfl rfl ?_
          refine X_istoren hK (i := 2) [(2, .int (iI z459)), (3, .int (iI z459)), (0, .ref a0), (1, .ref a1)] kd36_22.2.2.2.2.2.2.2.1 rfl (by decide) rfl ?_
          refine X_lv [(3, .int (iI z459)), (2, .int (iI z459)), (0, .ref a0), (1, .ref a1)] [1, 0, 2, 3] rfl ?_
          exact J729 z459 (by omega) (by omega)
  exact P595 (((n0 - 1) - (-17) : Int).toNat + 1) (n0 - 1) (by omega) (by omega) (-1) (by omega) (by omega) (by omega)

set_option maxHeartbeats 4000000 in
set_option maxRecDepth 100000 in
theorem c_soonestAt_5 (l : Launch) (D : va_G) (kA : Nat → ClassId) (b0 : Nat) (t0 : Nat → Nat) (S : xT) (g : xG) (a0 : Nat) (a1 : Nat) (x2 : Int) (x3 : Int) (n0 : Int) (w0 nw0 : Nat) (hs_a0 : S a0 = some (9, 0)) (hs_a1 : S a1 = some (4, 0)) (hx2 : 1 ≤ x2 ∧ x2 ≤ 31) (hx3 : 0 ≤ x3 ∧ x3 ≤ 4) (hn0 : 5 ≤ n0 ∧ n0 ≤ 5) (en0 : g a0 4 = .int (iI n0)) (ew0 : g a0 3 = .ref w0) (hs_w0 : S w0 = some (13400, nw0)) (hp0 : 288 ≤ (nw0 : Int)) (hp1 : (nw0 : Int) ≤ 2147483647) : xMt l yX8_soonestAt cX8_soonestAt 8 (some .int) 1 0 0 13 D kA b0 t0 [] [.ref a0, .ref a1, .int (iI x2), .int (iI x3)] S g (fun (r : Option Value) (S1 : xT) (g1 : xG) => S = S1 ∧ g = g1 ∧ ∃ z : Int, r = some (.int (iI z)) ∧ (-2147483648) ≤ z ∧ z ≤ 1000000) := by
  refine xEnterI (by decide) (by simp [lg_sl, Value.category]) [(0, .ref a0), (1, .ref a1), (2, .int (iI x2)), (3, .int (iI x3))] rfl ?_
  intro K E hK hret _ _ _
  refine X_aloadn hK (i := 1) 1 kd36_15.2.2.2.2.2.2.2.2.2.1 rfl rfl ?_
  refine X_getr hK 11604 10 fl_X8_62_4 hs_a1 sl_4_6 kd36_15.2.2.2.2.2.2.2.2.2.2.1 (fun b1 eb1 hs_b1 => ?_)
  refine X_aloadn hK (i := 0) 0 kd36_15.2.2.2.2.2.2.2.2.2.2.2 rfl rfl ?_
  refine X_getr hK 13100 9 fl_X8_11_9 hs_a0 sl_9_0 kd36_16.1 (fun b2 eb2 hs_b2 => ?_)
  refine X_iloadn hK (i := 3) 3 kd36_16.2.1 rfl rfl ?_
  refine X_iald hK hs_b2 (by decide) sl_13100 (by omega) (by omega) kd36_16.2.2.1 (fun z3 ez3 lz3 uz3 => ?_)
  refine X_aald hK 11500 10 hs_b1 (by decide) sl_11604 (by omega) (by omega) kd36_16.2.2.2.1 (fun b4 eb4 hs_b4 => ?_)
  refine X_astore hK (i := 4) [(4, .ref b4), (0, .ref a0), (1, .ref a1), (2, .int (iI x2)), (3, .int (iI x3))] kd36_16.2.2.2.2.1 (by decide) rfl ?_
  refine X_iloadn hK (i := 2) 3 kd36_16.2.2.2.2.2.1 rfl rfl ?_
  refine X_iconst hK kd36_16.2.2.2.2.2.2.1 ?_
  refine X_iloadn hK (i := 3) 4 kd36_16.2.2.2.2.2.2.2.1 rfl rfl ?_
  refine X_ishl hK kd36_16.2.2.2.2.2.2.2.2.1 (fun z5 ez5 lz5 uz5 => ?_)
  have bz5 := xshlB 4 ez5 ⟨lz5, uz5⟩ (by omega) (by decide)
  refine X_ixor hK kd36_16.2.2.2.2.2.2.2.2.2.1 (fun z6 ez6 lz6 uz6 => ?_)
  have bz6 := xixorB 5 ez6 ⟨lz6, uz6⟩ (by omega) (by omega) (by decide)
  refine X_istore hK (i := 5) [(5, .int (iI z6)), (4, .ref b4), (0, .ref a0), (1, .ref a1), (2, .int (iI x2)), (3, .int (iI x3))] kd36_16.2.2.2.2.2.2.2.2.2.2.1 (by decide) rfl ?_
  refine X_iload hK (i := 5) 0 kd36_16.2.2.2.2.2.2.2.2.2.2.2 rfl ?_
  have J10 : ∀ (z9 : Int) (lz9 : 0 ≤ z9) (uz9 : z9 ≤ 1000000), X K E 34 [(5, .int (iI z6)), (4, .ref b4), (0, .ref a0), (1, .ref a1), (2, .int (iI x2)), (3, .int (iI x3))] [.int (iI z9)] S g 0 0 := by
    intro z9 lz9 uz9
    refine X_istore hK (i := 6) [(6, .int (iI z9)), (5, .int (iI z6)), (4, .ref b4), (0, .ref a0), (1, .ref a1), (2, .int (iI x2)), (3, .int (iI x3))] kd36_17.2.2.2.2.2.2.1 (by decide) rfl ?_
    refine X_iconst hK kd36_17.2.2.2.2.2.2.2.1 ?_
    refine X_istore hK (i := 7) [(7, .int (iI 0)), (6, .int (iI z9)), (5, .int (iI z6)), (4, .ref b4), (0, .ref a0), (1, .ref a1), (2, .int (iI x2)), (3, .int (iI x3))] kd36_17.2.2.2.2.2.2.2.2.1 (by decide) rfl ?_
    have P123 : ∀ (nP123 : Nat) (z104 : Int) (_ : 0 ≤ z104) (_ : z104 ≤ 5) (z105 : Int) (_ : (-2147483648) ≤ z105) (_ : z105 ≤ 1000000) (_ : 21 - z104 < (nP123 : Int)), X K E 39 [(7, .int (iI z104)), (6, .int (iI z105)), (5, .int (iI z6)), (4, .ref b4), (0, .ref a0), (1, .ref a1), (2, .int (iI x2)), (3, .int (iI x3))] [] S g 0 0 := by
      intro nP123
      induction nP123 with
      | zero => intro z104 lz104 uz104 z105 lz105 uz105 mP123; exact False.elim (by omega)
      | succ nP123 ihP123 =>
        intro z104 lz104 uz104 z105 lz105 uz105 mP123
        refine X_iload hK (i := 7) 0 kd36_17.2.2.2.2.2.2.2.2.2.1 rfl ?_
        refine X_aloadn hK (i := 0) 4 kd36_17.2.2.2.2.2.2.2.2.2.2.1 rfl rfl ?_
        refine X_getK hK fl_X8_24_9 hs_a0 en0 kd36_17.2.2.2.2.2.2.2.2.2.2.2 ?_
        have J131 : X K E 90 [(7, .int (iI z104)), (6, .int (iI z105)), (5, .int (iI z6)), (4, .ref b4), (0, .ref a0), (1, .ref a1), (2, .int (iI x2)), (3, .int (iI x3))] [] S g 0 0 := by
          refine X_iload hK (i := 6) 1 kd36_19.2.2.2.2.2.2.2.2.2.2.2 rfl ?_
          refine X_aloadn hK (i := 0) 4 kd36_20.1 rfl rfl ?_
          refine X_getr hK 13200 9 fl_X8_15_9 hs_a0 sl_9_1 kd36_20.2.1 (fun b132 eb132 hs_b132 => ?_)
          refine X_iloadn hK (i := 3) 7 kd36_20.2.2.1 rfl rfl ?_
          refine X_iald hK hs_b132 (by decide) sl_13200 (by omega) (by omega) kd36_20.2.2.2.1 (fun z133 ez133 lz133 uz133 => ?_)
          refine X_icmp_gt hK 106 (by omega) (by omega) kd36_20.2.2.2.2.1 (by decide) (fun c134 => ?_) (fun c134 => ?_)
          · refine X_ldc hK (n := 1000000) kd36_20.2.2.2.2.2.2.2.1 m_53_22 (by decide) ?_
            exact hret _ _ _ _ _ _ _ kd36_20.2.2.2.2.2.2.2.2.1 ⟨rfl, rfl, 1000000, rfl, (by omega), (by omega)⟩ (Nat.le_refl _) (Nat.le_refl _)
          · refine X_iload hK (i := 6) 1 kd36_20.2.2.2.2.2.1 rfl ?_
            refine X_goto hK 108 kd36_20.2.2.2.2.2.2.1 (by decide) ?_
            exact hret _ _ _ _ _ _ _ kd36_20.2.2.2.2.2.2.2.2.1 ⟨rfl, rfl, z105, rfl, (by omega), (by omega)⟩ (Nat.le_refl _) (Nat.le_refl _)
        refine X_icmp_ge hK 90 (by omega) (by omega) kd36_18.1 (by decide) (fun c124 => ?_) (fun c124 => ?_)
        · exact J131 
        · refine X_iload hK (i := 5) 2 kd36_18.2.1 rfl ?_
          refine X_if_eq hK 90 (by omega) kd36_18.2.2.1 (by decide) (fun c135 => ?_) (fun c135 => ?_)
          · exact J131 
          · refine X_iload hK (i := 6) 1 kd36_18.2.2.2.1 rfl ?_
            refine X_aloadn hK (i := 0) 4 kd36_18.2.2.2.2.1 rfl rfl ?_
            refine X_getK hK fl_X8_21_9 hs_a0 ew0 kd36_18.2.2.2.2.2.1 ?_
            refine X_iload hK (i := 5) 2 kd36_18.2.2.2.2.2.2.1 rfl ?_
            refine X_bipush hK kd36_18.2.2.2.2.2.2.2.1 (by decide) ?_
            refine X_imul hK kd36_18.2.2.2.2.2.2.2.2.1 ?_
            refine X_iload hK (i := 7) 0 kd36_18.2.2.2.2.2.2.2.2.2.1 rfl ?_
            refine X_iadd hK kd36_18.2.2.2.2.2.2.2.2.2.2.1 ?_
            refine X_iald hK hs_w0 ⟨by decide, by decide, by omega⟩ sl_13400 (by omega) (by omega) kd36_18.2.2.2.2.2.2.2.2.2.2.2 (fun z136 ez136 lz136 uz136 => ?_)
            refine X_aload hK (i := 4) 3 kd36_19.1 rfl ?_
            refine X_aloadn hK (i := 0) 4 kd36_19.2.1 rfl rfl ?_
            refine X_getK hK fl_X8_11_9 hs_a0 eb2 kd36_19.2.2.1 ?_
            refine X_iload hK (i := 7) 0 kd36_19.2.2.2.1 rfl ?_
            refine X_iald hK hs_b2 (by decide) sl_13100 (by omega) (by omega) kd36_19.2.2.2.2.1 (fun z137 ez137 lz137 uz137 => ?_)
            refine X_iald hK hs_b4 (by decide) sl_11500 (by omega) (by omega) kd36_19.2.2.2.2.2.1 (fun z138 ez138 lz138 uz138 => ?_)
            refine X_iadd hK kd36_19.2.2.2.2.2.2.1 ?_
            refine X_norm (fun z139 ez139 lz139 uz139 => ?_)
            refine X_mmin hK mm_X8_68 ⟨by decide, by simp [Value.category]⟩ (by decide) (by omega) (by omega) kd36_19.2.2.2.2.2.2.2.1 (fun z140 ez140 fz140 => ?_)
            have bz140 : (-2147483648) ≤ z140 ∧ z140 ≤ 1000000 := by omega
            refine X_istore hK (i := 6) [(6, .int (iI z140)), (7, .int (iI z104)), (5, .int (iI z6)), (4, .ref b4), (0, .ref a0), (1, .ref a1), (2, .int (iI x2)), (3, .int (iI x3))] kd36_19.2.2.2.2.2.2.2.2.1 (by decide) rfl ?_
            refine X_iinc hK (i := 7) (z := z104) (n := 1) 1 [(7, .int (iI (z104 + 1))), (6, .int (iI z140)), (5, .int (iI z6)), (4, .ref b4), (0, .ref a0), (1, .ref a1), (2, .int (iI x2)), (3, .int (iI x3))] kd36_19.2.2.2.2.2.2.2.2.2.1 rfl (by decide) rfl ?_
            refine X_goto hK 39 kd36_19.2.2.2.2.2.2.2.2.2.2.1 (by decide) ?_
            exact ihP123  (z104 + 1) (by omega) (by omega) z140 (by omega) (by omega) (by omega)
    exact P123 ((21 - 0 : Int).toNat + 1) 0 (by omega) (by omega) z9 (by omega) (by omega) (by omega)
  refine X_if_ne hK 32 (by omega) kd36_17.1 (by decide) (fun c7 => ?_) (fun c7 => ?_)
  · refine X_ldc hK (n := 1000000) kd36_17.2.2.2.2.2.1 m_53_22 (by decide) ?_
    exact J10 1000000 (by omega) (by omega)
  · refine X_aload hK (i := 4) 1 kd36_17.2.1 rfl ?_
    refine X_iconst hK kd36_17.2.2.1 ?_
    refine X_iald hK hs_b4 (by decide) sl_11500 (by omega) (by omega) kd36_17.2.2.2.1 (fun z141 ez141 lz141 uz141 => ?_)
    refine X_goto hK 34 kd36_17.2.2.2.2.1 (by decide) ?_
    exact J10 z141 (by omega) (by omega)

set_option maxHeartbeats 4000000 in
set_option maxRecDepth 100000 in
theorem c_findSoonest_5 (l : Launch) (D : va_G) (kA : Nat → ClassId) (b0 : Nat) (t0 : Nat → Nat) (S : xT) (g : xG) (a0 : Nat) (a1 : Nat) (n0 : Int) (w0 nw0 : Nat) (hs_a0 : S a0 = some (9, 0)) (hs_a1 : S a1 = some (4, 0)) (hn0 : 5 ≤ n0 ∧ n0 ≤ 5) (en0 : g a0 4 = .int (iI n0)) (ew0 : g a0 3 = .ref w0) (hs_w0 : S w0 = some (13400, nw0)) (hp0 : 288 ≤ (nw0 : Int)) (hp1 : (nw0 : Int) ≤ 2147483647) : xMt l yX8_findSoonest cX8_findSoonest 4 none 2 0 0 40 D kA b0 t0 [(13400, 0)] [.ref a0, .ref a1] S g (fun (r : Option Value) (S1 : xT) (g1 : xG) => S = S1 ∧ r = none) := by
  refine xEnterV (by decide) (by simp [lg_sl, Value.category]) [(0, .ref a0), (1, .ref a1)] rfl ?_
  intro K E hK hret _ _ _
  refine X_iconst hK kd36_4.2.2.2.2.2.2.2.2.2.2.2 ?_
  refine X_istoren hK (i := 2) [(2, .int (iI 1)), (0, .ref a0), (1, .ref a1)] kd36_5.1 rfl (by decide) rfl ?_
  have P1230 : ∀ (nP1230 : Nat) (g1026 : xG) (_ : xM [(13400, 0)] S g g1026) (z1025 : Int) (_ : 1 ≤ z1025) (_ : z1025 ≤ 32) (_ : 48 - z1025 < (nP1230 : Int)), X K E 2 [(2, .int (iI z1025)), (0, .ref a0), (1, .ref a1)] [] S g1026 0 0 := by
    intro nP1230
    induction nP1230 with
    | zero => intro g1026 hg1026 z1025 lz1025 uz1025 mP1230; exact False.elim (by omega)
    | succ nP1230 ihP1230 =>
      intro g1026 hg1026 z1025 lz1025 uz1025 mP1230
      refine X_iloadn hK (i := 2) 0 kd36_5.2.1 rfl rfl ?_
      refine X_iconst hK kd36_5.2.2.1 ?_
      refine X_aloadn hK (i := 0) 1 kd36_5.2.2.2.1 rfl rfl ?_
      refine X_getK hK fl_X8_24_9 hs_a0 ((hg1026 a0 9 0 4 hs_a0 (by decide)).trans en0) kd36_5.2.2.2.2.1 ?_
      refine X_ishl hK kd36_5.2.2.2.2.2.1 (fun z1231 ez1231 lz1231 uz1231 => ?_)
      have bz1231 := xshlB 5 ez1231 ⟨lz1231, uz1231⟩ (by omega) (by decide)
      refine X_icmp_ge hK 66 (by omega) (by omega) kd36_5.2.2.2.2.2.2.1 (by decide) (fun c1232 => ?_) (fun c1232 => ?_)
      · exact hret _ _ _ _ _ _ kd36_8.2.2.2.1 ⟨rfl, rfl⟩ (Nat.le_refl _) (Nat.le_refl _)
      · refine X_iconst hK kd36_5.2.2.2.2.2.2.2.1 ?_
        refine X_istoren hK (i := 3) [(3, .int (iI 0)), (2, .int (iI z1025)), (0, .ref a0), (1, .ref a1)] kd36_5.2.2.2.2.2.2.2.2.1 rfl (by decide) rfl ?_
        have P1404 : ∀ (nP1404 : Nat) (g1374 : xG) (_ : xM [(13400, 0)] S g1026 g1374) (z1373 : Int) (_ : 0 ≤ z1373) (_ : z1373 ≤ 5) (_ : 21 - z1373 < (nP1404 : Int)), X K E 14 [(3, .int (iI z1373)), (2, .int (iI z1025)), (0, .ref a0), (1, .ref a1)] [] S g1374 0 0 := by
          intro nP1404
          induction nP1404 with
          | zero => intro g1374 hg1374 z1373 lz1373 uz1373 mP1404; exact False.elim (by omega)
          | succ nP1404 ihP1404 =>
            intro g1374 hg1374 z1373 lz1373 uz1373 mP1404
            refine X_iloadn hK (i := 3) 0 kd36_5.2.2.2.2.2.2.2.2.2.1 rfl rfl ?_
            refine X_aloadn hK (i := 0) 2 kd36_5.2.2.2.2.2.2.2.2.2.2.1 rfl rfl ?_
            refine X_getK hK fl_X8_24_9 hs_a0 ((hg1374 a0 9 0 4 hs_a0 (by decide)).trans ((hg1026 a0 9 0 4 hs_a0 (by decide)).trans en0)) kd36_5.2.2.2.2.2.2.2.2.2.2.2 ?_
            refine X_icmp_ge hK 60 (by omega) (by omega) kd36_6.1 (by decide) (fun c1405 => ?_) (fun c1405 => ?_)
            · refine X_iinc hK (i := 2) (z := z1025) (n := 1) 1 [(2, .int (iI (z1025 + 1))), (3, .int (iI z1373)), (0, .ref a0), (1, .ref a1)] kd36_8.2.1 rfl (by decide) rfl ?_
              refine X_goto hK 2 kd36_8.2.2.1 (by decide) ?_
              refine X_lv [(2, .int (iI (z1025 + 1))), (0, .ref a0), (1, .ref a1)] [0, 2, 3] rfl ?_
              exact ihP1230  g1374 (xM.tr (xM.tr xM.rf xLe.rf hg1026 (by decide)) xLe.rf hg1374 (by decide)) (z1025 + 1) (by omega) (by omega) (by omega)
            · refine X_aloadn hK (i := 0) 2 kd36_6.2.1 rfl rfl ?_
              refine X_getK hK fl_X8_21_9 hs_a0 ((hg1374 a0 9 0 3 hs_a0 (by decide)).trans ((hg1026 a0 9 0 3 hs_a0 (by decide)).trans ew0)) kd36_6.2.2.1 ?_
              refine X_iloadn hK (i := 2) 1 kd36_6.2.2.2.1 rfl rfl ?_
              refine X_bipush hK kd36_6.2.2.2.2.1 (by decide) ?_
              refine X_imul hK kd36_6.2.2.2.2.2.1 ?_
              refine X_iloadn hK (i := 3) 0 kd36_6.2.2.2.2.2.2.1 rfl rfl ?_
              refine X_iadd hK kd36_6.2.2.2.2.2.2.2.1 ?_
              refine X_iloadn hK (i := 2) 1 kd36_6.2.2.2.2.2.2.2.2.1 rfl rfl ?_
              refine X_iloadn hK (i := 3) 0 kd36_6.2.2.2.2.2.2.2.2.2.1 rfl rfl ?_
              refine X_ishr hK kd36_6.2.2.2.2.2.2.2.2.2.2.1 (fun z1420 ez1420 lz1420 uz1420 => ?_)
              refine X_iconst hK kd36_6.2.2.2.2.2.2.2.2.2.2.2 ?_
              refine X_iand hK kd36_7.1 (fun z1421 ez1421 lz1421 uz1421 => ?_)
              have bz1421 := xandB ez1421 ⟨lz1421, uz1421⟩ (by omega)
              refine X_iconst hK kd36_7.2.1 ?_
              have J1428 : ∀ (z1427 : Int) (lz1427 : (-2147483648) ≤ z1427) (uz1427 : z1427 ≤ 1000000), X K E 53 [(3, .int (iI z1373)), (2, .int (iI z1025)), (0, .ref a0), (1, .ref a1)] [.int (iI z1427), .int (iI ((z1025 * 9) + z1373)), .ref w0] S g1374 0 0 := by
                intro z1427 lz1427 uz1427
                refine X_iast hK hs_w0 ⟨by decide, by decide, by decide, by omega⟩ (by decide) sl_13400 (by omega) (by omega) (by omega) (by omega) kd36_7.2.2.2.2.2.2.2.2.2.2.1 (fun g1429 hg1429 => ?_)
                refine X_iinc hK (i := 3) (z := z1373) (n := 1) 0 [(3, .int (iI (z1373 + 1))), (2, .int (iI z1025)), (0, .ref a0), (1, .ref a1)] kd36_7.2.2.2.2.2.2.2.2.2.2.2 rfl (by decide) rfl ?_
                refine X_goto hK 14 kd36_8.1 (by decide) ?_
                exact ihP1404  g1429 (xM_ua (xM.tr xM.rf xLe.rf hg1374 (by decide)) hg1429 hs_w0 (by decide) (by decide)) (z1373 + 1) (by omega) (by omega) (by omega)
              refine X_icmp_ne hK 51 (by omega) (by omega) kd36_7.2.2.1 (by decide) (fun c1422 => ?_) (fun c1422 => ?_)
              · refine X_ldc hK (n := 1000000) kd36_7.2.2.2.2.2.2.2.2.2.1 m_53_22 (by decide) ?_
                exact J1428 1000000 (by omega) (by omega)
              · refine X_aloadn hK (i := 0) 2 kd36_7.2.2.2.1 rfl rfl ?_
                refine X_aloadn hK (i := 1) 3 kd36_7.2.2.2.2.1 rfl rfl ?_
                refine X_iloadn hK (i := 2) 1 kd36_7.2.2.2.2.2.1 rfl rfl ?_
                refine X_iloadn hK (i := 3) 0 kd36_7.2.2.2.2.2.2.1 rfl rfl ?_
                refine X_callV hK [.ref a1, .int (iI z1025), .int (iI z1373)] [.int (iI ((z1025 * 9) + z1373)), .ref w0] lk_X8_58 (c_soonestAt_5 _ _ _ _ _ S g1374 a0 a1 z1025 z1373 n0 w0 nw0 hs_a0 hs_a1 (by omega) (by omega) (by omega) ((hg1374 a0 9 0 4 hs_a0 (by decide)).trans ((hg1026 a0 9 0 4 hs_a0 (by decide)).trans en0)) ((hg1374 a0 9 0 3 hs_a0 (by decide)).trans ((hg1026 a0 9 0 3 hs_a0 (by decide)).trans ew0)) hs_w0 (by omega) (by omega)) hs_a0 ⟨by decide, rfl⟩ kd36_7.2.2.2.2.2.2.2.1 rfl rfl (by simp [Value.category]) (by decide) (by decide) (by decide) (by decide) (fun r1430 S1432 g1431 pr1430 qr1430 hg1431 => ?_)
                obtain ⟨rfl, rfl, z1433, rfl, lz1433, uz1433⟩ := pr1430
                refine X_st [.int (iI z1433), .int (iI ((z1025 * 9) + z1373)), .ref w0] rfl ?_
                refine X_goto hK 53 kd36_7.2.2.2.2.2.2.2.2.1 (by decide) ?_
                exact J1428 z1433 (by omega) (by omega)
        exact P1404 ((21 - 0 : Int).toNat + 1) g1026 xM.rf 0 (by omega) (by omega) (by omega)
  exact P1230 ((48 - 1 : Int).toNat + 1) g xM.rf 1 (by omega) (by omega) (by omega)

set_option maxHeartbeats 4000000 in
set_option maxRecDepth 100000 in
theorem c_firstAtEnd_5 (l : Launch) (D : va_G) (kA : Nat → ClassId) (b0 : Nat) (t0 : Nat → Nat) (S : xT) (g : xG) (a0 : Nat) (n0 : Int) (w0 nw0 : Nat) (hs_a0 : S a0 = some (9, 0)) (hn0 : 5 ≤ n0 ∧ n0 ≤ 5) (en0 : g a0 4 = .int (iI n0)) (ew0 : g a0 3 = .ref w0) (hs_w0 : S w0 = some (13400, nw0)) (hp0 : 288 ≤ (nw0 : Int)) (hp1 : (nw0 : Int) ≤ 2147483647) : xMt l yX8_firstAtEnd cX8_firstAtEnd 4 (some .int) 1 0 0 13 D kA b0 t0 [] [.ref a0] S g (fun (r : Option Value) (S1 : xT) (g1 : xG) => S = S1 ∧ g = g1 ∧ ∃ z : Int, r = some (.int (iI z)) ∧ (-2147483648) ≤ z ∧ z ≤ 1000000) := by
  refine xEnterI (by decide) (by simp [lg_sl, Value.category]) [(0, .ref a0)] rfl ?_
  intro K E hK hret _ _ _
  refine X_iconst hK kd36_8.2.2.2.2.1 ?_
  refine X_aloadn hK (i := 0) 0 kd36_8.2.2.2.2.2.1 rfl rfl ?_
  refine X_getK hK fl_X8_24_9 hs_a0 en0 kd36_8.2.2.2.2.2.2.1 ?_
  refine X_ishl hK kd36_8.2.2.2.2.2.2.2.1 (fun z1 ez1 lz1 uz1 => ?_)
  have bz1 := xshlB 5 ez1 ⟨lz1, uz1⟩ (by omega) (by decide)
  refine X_iconst hK kd36_8.2.2.2.2.2.2.2.2.1 ?_
  refine X_isub hK kd36_8.2.2.2.2.2.2.2.2.2.1 ?_
  refine X_istoren hK (i := 1) [(1, .int (iI (z1 - 1))), (0, .ref a0)] kd36_8.2.2.2.2.2.2.2.2.2.2.1 rfl (by decide) rfl ?_
  refine X_ldc hK (n := 1000000) kd36_8.2.2.2.2.2.2.2.2.2.2.2 m_53_22 (by decide) ?_
  refine X_istoren hK (i := 2) [(2, .int (iI 1000000)), (1, .int (iI (z1 - 1))), (0, .ref a0)] kd36_9.1 rfl (by decide) rfl ?_
  refine X_iconst hK kd36_9.2.1 ?_
  refine X_istoren hK (i := 3) [(3, .int (iI 0)), (2, .int (iI 1000000)), (1, .int (iI (z1 - 1))), (0, .ref a0)] kd36_9.2.2.1 rfl (by decide) rfl ?_
  have P32 : ∀ (nP32 : Nat) (z27 : Int) (_ : 0 ≤ z27) (_ : z27 ≤ 5) (z28 : Int) (_ : (-2147483648) ≤ z28) (_ : z28 ≤ 1000000) (_ : 21 - z27 < (nP32 : Int)), X K E 14 [(3, .int (iI z27)), (2, .int (iI z28)), (1, .int (iI (z1 - 1))), (0, .ref a0)] [] S g 0 0 := by
    intro nP32
    induction nP32 with
    | zero => intro z27 lz27 uz27 z28 lz28 uz28 mP32; exact False.elim (by omega)
    | succ nP32 ihP32 =>
      intro z27 lz27 uz27 z28 lz28 uz28 mP32
      refine X_iloadn hK (i := 3) 0 kd36_9.2.2.2.1 rfl rfl ?_
      refine X_aloadn hK (i := 0) 3 kd36_9.2.2.2.2.1 rfl rfl ?_
      refine X_getK hK fl_X8_24_9 hs_a0 en0 kd36_9.2.2.2.2.2.1 ?_
      refine X_icmp_ge hK 44 (by omega) (by omega) kd36_9.2.2.2.2.2.2.1 (by decide) (fun c33 => ?_) (fun c33 => ?_)
      · refine X_iloadn hK (i := 2) 1 kd36_10.2.2.2.2.2.2.2.2.1 rfl rfl ?_
        exact hret _ _ _ _ _ _ _ kd36_10.2.2.2.2.2.2.2.2.2.1 ⟨rfl, rfl, z28, rfl, (by omega), (by omega)⟩ (Nat.le_refl _) (Nat.le_refl _)
      · refine X_iloadn hK (i := 2) 1 kd36_9.2.2.2.2.2.2.2.1 rfl rfl ?_
        refine X_aloadn hK (i := 0) 3 kd36_9.2.2.2.2.2.2.2.2.1 rfl rfl ?_
        refine X_getK hK fl_X8_21_9 hs_a0 ew0 kd36_9.2.2.2.2.2.2.2.2.2.1 ?_
        refine X_iloadn hK (i := 1) 2 kd36_9.2.2.2.2.2.2.2.2.2.2.1 rfl rfl ?_
        refine X_bipush hK kd36_9.2.2.2.2.2.2.2.2.2.2.2 (by decide) ?_
        refine X_imul hK kd36_10.1 ?_
        refine X_iloadn hK (i := 3) 0 kd36_10.2.1 rfl rfl ?_
        refine X_iadd hK kd36_10.2.2.1 ?_
        refine X_iald hK hs_w0 ⟨by decide, by decide, by omega⟩ sl_13400 (by omega) (by omega) kd36_10.2.2.2.1 (fun z34 ez34 lz34 uz34 => ?_)
        refine X_mmin hK mm_X8_68 ⟨by decide, by simp [Value.category]⟩ (by decide) (by omega) (by omega) kd36_10.2.2.2.2.1 (fun z35 ez35 fz35 => ?_)
        have bz35 : (-2147483648) ≤ z35 ∧ z35 ≤ 1000000 := by omega
        refine X_istoren hK (i := 2) [(2, .int (iI z35)), (3, .int (iI z27)), (1, .int (iI (z1 - 1))), (0, .ref a0)] kd36_10.2.2.2.2.2.1 rfl (by decide) rfl ?_
        refine X_iinc hK (i := 3) (z := z27) (n := 1) 1 [(3, .int (iI (z27 + 1))), (2, .int (iI z35)), (1, .int (iI (z1 - 1))), (0, .ref a0)] kd36_10.2.2.2.2.2.2.1 rfl (by decide) rfl ?_
        refine X_goto hK 14 kd36_10.2.2.2.2.2.2.2.1 (by decide) ?_
        exact ihP32  (z27 + 1) (by omega) (by omega) z35 (by omega) (by omega) (by omega)
  exact P32 ((21 - 0 : Int).toNat + 1) 0 (by omega) (by omega) 1000000 (by omega) (by omega) (by omega)

set_option maxHeartbeats 4000000 in
set_option maxRecDepth 100000 in
theorem c_nextOf_5 (l : Launch) (D : va_G) (kA : Nat → ClassId) (b0 : Nat) (t0 : Nat → Nat) (S : xT) (g : xG) (a0 : Nat) (a1 : Nat) (x2 : Int) (x3 : Int) (n0 : Int) (w0 nw0 : Nat) (hs_a0 : S a0 = some (9, 0)) (hs_a1 : S a1 = some (4, 0)) (hx2 : 1 ≤ x2 ∧ x2 ≤ 31) (hx3 : 0 ≤ x3 ∧ x3 ≤ 4) (hn0 : 5 ≤ n0 ∧ n0 ≤ 5) (en0 : g a0 4 = .int (iI n0)) (ew0 : g a0 3 = .ref w0) (hs_w0 : S w0 = some (13400, nw0)) (hp0 : 288 ≤ (nw0 : Int)) (hp1 : (nw0 : Int) ≤ 2147483647) : xMt l yX8_nextOf cX8_nextOf 7 (some .int) 0 0 0 0 D kA b0 t0 [] [.ref a0, .ref a1, .int (iI x2), .int (iI x3)] S g (fun (r : Option Value) (S1 : xT) (g1 : xG) => S = S1 ∧ g = g1 ∧ ∃ z : Int, r = some (.int (iI z)) ∧ (-1) ≤ z ∧ z ≤ 4) := by
  refine xEnterI (by decide) (by simp [lg_sl, Value.category]) [(0, .ref a0), (1, .ref a1), (2, .int (iI x2)), (3, .int (iI x3))] rfl ?_
  intro K E hK hret _ _ _
  refine X_aloadn hK (i := 0) 0 kd36_10.2.2.2.2.2.2.2.2.2.2.1 rfl rfl ?_
  refine X_getK hK fl_X8_21_9 hs_a0 ew0 kd36_10.2.2.2.2.2.2.2.2.2.2.2 ?_
  refine X_iloadn hK (i := 2) 2 kd36_11.1 rfl rfl ?_
  refine X_bipush hK kd36_11.2.1 (by decide) ?_
  refine X_imul hK kd36_11.2.2.1 ?_
  refine X_iloadn hK (i := 3) 3 kd36_11.2.2.2.1 rfl rfl ?_
  refine X_iadd hK kd36_11.2.2.2.2.1 ?_
  refine X_iald hK hs_w0 ⟨by decide, by decide, by omega⟩ sl_13400 (by omega) (by omega) kd36_11.2.2.2.2.2.1 (fun z1 ez1 lz1 uz1 => ?_)
  refine X_istore hK (i := 4) [(4, .int (iI z1)), (0, .ref a0), (1, .ref a1), (2, .int (iI x2)), (3, .int (iI x3))] kd36_11.2.2.2.2.2.2.1 (by decide) rfl ?_
  refine X_iconst hK kd36_11.2.2.2.2.2.2.2.1 ?_
  refine X_istore hK (i := 5) [(5, .int (iI 0)), (4, .int (iI z1)), (0, .ref a0), (1, .ref a1), (2, .int (iI x2)), (3, .int (iI x3))] kd36_11.2.2.2.2.2.2.2.2.1 (by decide) rfl ?_
  have P104 : ∀ (nP104 : Nat) (z87 : Int) (_ : 0 ≤ z87) (_ : z87 ≤ 5) (_ : 21 - z87 < (nP104 : Int)), X K E 16 [(5, .int (iI z87)), (4, .int (iI z1)), (0, .ref a0), (1, .ref a1), (2, .int (iI x2)), (3, .int (iI x3))] [] S g 0 0 := by
    intro nP104
    induction nP104 with
    | zero => intro z87 lz87 uz87 mP104; exact False.elim (by omega)
    | succ nP104 ihP104 =>
      intro z87 lz87 uz87 mP104
      refine X_iload hK (i := 5) 0 kd36_11.2.2.2.2.2.2.2.2.2.1 rfl ?_
      refine X_aloadn hK (i := 0) 2 kd36_11.2.2.2.2.2.2.2.2.2.2.1 rfl rfl ?_
      refine X_getK hK fl_X8_24_9 hs_a0 en0 kd36_11.2.2.2.2.2.2.2.2.2.2.2 ?_
      refine X_icmp_ge hK 96 (by omega) (by omega) kd36_12.1 (by decide) (fun c105 => ?_) (fun c105 => ?_)
      · refine X_iconst hK kd36_15.2.2.2.2.2.2.2.1 ?_
        exact hret _ _ _ _ _ _ _ kd36_15.2.2.2.2.2.2.2.2.1 ⟨rfl, rfl, (-1), rfl, (by omega), (by omega)⟩ (Nat.le_refl _) (Nat.le_refl _)
      · refine X_iload hK (i := 4) 1 kd36_12.2.1 rfl ?_
        refine X_ldc hK (n := 1000000) kd36_12.2.2.1 m_53_22 (by decide) ?_
        refine X_icmp_eq hK 96 (by omega) (by omega) kd36_12.2.2.2.1 (by decide) (fun c106 => ?_) (fun c106 => ?_)
        · refine X_iconst hK kd36_15.2.2.2.2.2.2.2.1 ?_
          exact hret _ _ _ _ _ _ _ kd36_15.2.2.2.2.2.2.2.2.1 ⟨rfl, rfl, (-1), rfl, (by omega), (by omega)⟩ (Nat.le_refl _) (Nat.le_refl _)
        · refine X_iload hK (i := 4) 1 kd36_12.2.2.2.2.1 rfl ?_
          refine X_aloadn hK (i := 1) 3 kd36_12.2.2.2.2.2.1 rfl rfl ?_
          refine X_getr hK 11604 10 fl_X8_62_4 hs_a1 sl_4_6 kd36_12.2.2.2.2.2.2.1 (fun b107 eb107 hs_b107 => ?_)
          refine X_aloadn hK (i := 0) 2 kd36_12.2.2.2.2.2.2.2.1 rfl rfl ?_
          refine X_getr hK 13100 9 fl_X8_11_9 hs_a0 sl_9_0 kd36_12.2.2.2.2.2.2.2.2.1 (fun b108 eb108 hs_b108 => ?_)
          refine X_iloadn hK (i := 3) 5 kd36_12.2.2.2.2.2.2.2.2.2.1 rfl rfl ?_
          refine X_iald hK hs_b108 (by decide) sl_13100 (by omega) (by omega) kd36_12.2.2.2.2.2.2.2.2.2.2.1 (fun z109 ez109 lz109 uz109 => ?_)
          refine X_aald hK 11500 10 hs_b107 (by decide) sl_11604 (by omega) (by omega) kd36_12.2.2.2.2.2.2.2.2.2.2.2 (fun b110 eb110 hs_b110 => ?_)
          refine X_aloadn hK (i := 0) 2 kd36_13.1 rfl rfl ?_
          refine X_getK hK fl_X8_11_9 hs_a0 eb108 kd36_13.2.1 ?_
          refine X_iload hK (i := 5) 0 kd36_13.2.2.1 rfl ?_
          refine X_iald hK hs_b108 (by decide) sl_13100 (by omega) (by omega) kd36_13.2.2.2.1 (fun z111 ez111 lz111 uz111 => ?_)
          refine X_iald hK hs_b110 (by decide) sl_11500 (by omega) (by omega) kd36_13.2.2.2.2.1 (fun z112 ez112 lz112 uz112 => ?_)
          refine X_iadd hK kd36_13.2.2.2.2.2.1 ?_
          refine X_norm (fun z113 ez113 lz113 uz113 => ?_)
          refine X_istore hK (i := 6) [(6, .int (iI z113)), (5, .int (iI z87)), (4, .int (iI z1)), (0, .ref a0), (1, .ref a1), (2, .int (iI x2)), (3, .int (iI x3))] kd36_13.2.2.2.2.2.2.1 (by decide) rfl ?_
          refine X_iloadn hK (i := 2) 5 kd36_13.2.2.2.2.2.2.2.1 rfl rfl ?_
          refine X_iload hK (i := 5) 1 kd36_13.2.2.2.2.2.2.2.2.1 rfl ?_
          refine X_ishr hK kd36_13.2.2.2.2.2.2.2.2.2.1 (fun z114 ez114 lz114 uz114 => ?_)
          refine X_iconst hK kd36_13.2.2.2.2.2.2.2.2.2.2.1 ?_
          refine X_iand hK kd36_13.2.2.2.2.2.2.2.2.2.2.2 (fun z115 ez115 lz115 uz115 => ?_)
          have bz115 := xandB ez115 ⟨lz115, uz115⟩ (by omega)
          refine X_if_ne hK 90 (by omega) kd36_14.1 (by decide) (fun c116 => ?_) (fun c116 => ?_)
          · refine X_iinc hK (i := 5) (z := z87) (n := 1) 1 [(5, .int (iI (z87 + 1))), (6, .int (iI z113)), (4, .int (iI z1)), (0, .ref a0), (1, .ref a1), (2, .int (iI x2)), (3, .int (iI x3))] kd36_15.2.2.2.2.2.1 rfl (by decide) rfl ?_
            refine X_goto hK 16 kd36_15.2.2.2.2.2.2.1 (by decide) ?_
            refine X_lv [(5, .int (iI (z87 + 1))), (4, .int (iI z1)), (0, .ref a0), (1, .ref a1), (2, .int (iI x2)), (3, .int (iI x3))] [0, 2, 3, 4, 5, 6] rfl ?_
            exact ihP104  (z87 + 1) (by omega) (by omega) (by omega)
          · refine X_aloadn hK (i := 0) 3 kd36_14.2.1 rfl rfl ?_
            refine X_getK hK fl_X8_21_9 hs_a0 ew0 kd36_14.2.2.1 ?_
            refine X_iloadn hK (i := 2) 5 kd36_14.2.2.2.1 rfl rfl ?_
            refine X_iconst hK kd36_14.2.2.2.2.1 ?_
            refine X_iload hK (i := 5) 1 kd36_14.2.2.2.2.2.1 rfl ?_
            refine X_ishl hK kd36_14.2.2.2.2.2.2.1 (fun z117 ez117 lz117 uz117 => ?_)
            have bz117 := xshlB 4 ez117 ⟨lz117, uz117⟩ (by omega) (by decide)
            refine X_ior hK kd36_14.2.2.2.2.2.2.2.1 (fun z118 ez118 lz118 uz118 => ?_)
            have bz118 := xiorB 5 ez118 ⟨lz118, uz118⟩ (by omega) (by omega) (by decide)
            refine X_bipush hK kd36_14.2.2.2.2.2.2.2.2.1 (by decide) ?_
            refine X_imul hK kd36_14.2.2.2.2.2.2.2.2.2.1 ?_
            refine X_iload hK (i := 5) 1 kd36_14.2.2.2.2.2.2.2.2.2.2.1 rfl ?_
            refine X_iadd hK kd36_14.2.2.2.2.2.2.2.2.2.2.2 ?_
            refine X_iald hK hs_w0 ⟨by decide, by decide, by omega⟩ sl_13400 (by omega) (by omega) kd36_15.1 (fun z119 ez119 lz119 uz119 => ?_)
            refine X_iload hK (i := 6) 0 kd36_15.2.1 rfl ?_
            refine X_icmp_ne hK 90 (by omega) (by omega) kd36_15.2.2.1 (by decide) (fun c120 => ?_) (fun c120 => ?_)
            · refine X_iinc hK (i := 5) (z := z87) (n := 1) 1 [(5, .int (iI (z87 + 1))), (6, .int (iI z113)), (4, .int (iI z1)), (0, .ref a0), (1, .ref a1), (2, .int (iI x2)), (3, .int (iI x3))] kd36_15.2.2.2.2.2.1 rfl (by decide) rfl ?_
              refine X_goto hK 16 kd36_15.2.2.2.2.2.2.1 (by decide) ?_
              refine X_lv [(5, .int (iI (z87 + 1))), (4, .int (iI z1)), (0, .ref a0), (1, .ref a1), (2, .int (iI x2)), (3, .int (iI x3))] [0, 2, 3, 4, 5, 6] rfl ?_
              exact ihP104  (z87 + 1) (by omega) (by omega) (by omega)
            · refine X_iload hK (i := 5) 1 kd36_15.2.2.2.1 rfl ?_
              exact hret _ _ _ _ _ _ _ kd36_15.2.2.2.2.1 ⟨rfl, rfl, z87, rfl, (by omega), (by omega)⟩ (Nat.le_refl _) (Nat.le_refl _)
  exact P104 ((21 - 0 : Int).toNat + 1) 0 (by omega) (by omega) (by omega)

set_option maxHeartbeats 4000000 in
set_option maxRecDepth 100000 in
theorem c_dropOthers_5 (l : Launch) (D : va_G) (kA : Nat → ClassId) (b0 : Nat) (t0 : Nat → Nat) (S : xT) (g : xG) (a0 : Nat) (a1 : Nat) (x2 : Int) (n0 : Int) (w0 nw0 : Nat) (hs_a0 : S a0 = some (9, 0)) (hs_a1 : S a1 = some (4, 0)) (hx2 : (-2147483648) ≤ x2 ∧ x2 ≤ 2147483647) (hn0 : 5 ≤ n0 ∧ n0 ≤ 5) (en0 : g a0 4 = .int (iI n0)) (ew0 : g a0 3 = .ref w0) (hs_w0 : S w0 = some (13400, nw0)) (hp0 : 288 ≤ (nw0 : Int)) (hp1 : (nw0 : Int) ≤ 2147483647) : xMt l yX8_dropOthers cX8_dropOthers 8 none 1 0 0 26 D kA b0 t0 [(13400, 0)] [.ref a0, .ref a1, .int (iI x2)] S g (fun (r : Option Value) (S1 : xT) (g1 : xG) => S = S1 ∧ r = none) := by
  refine xEnterV (by decide) (by simp [lg_sl, Value.category]) [(0, .ref a0), (1, .ref a1), (2, .int (iI x2))] rfl ?_
  intro K E hK hret _ _ _
  refine X_iconst hK kd36_0.1 ?_
  refine X_aloadn hK (i := 0) 0 kd36_0.2.1 rfl rfl ?_
  refine X_getK hK fl_X8_24_9 hs_a0 en0 kd36_0.2.2.1 ?_
  refine X_ishl hK kd36_0.2.2.2.1 (fun z1 ez1 lz1 uz1 => ?_)
  have bz1 := xshlB 5 ez1 ⟨lz1, uz1⟩ (by omega) (by decide)
  refine X_iconst hK kd36_0.2.2.2.2.1 ?_
  refine X_isub hK kd36_0.2.2.2.2.2.1 ?_
  refine X_istoren hK (i := 3) [(3, .int (iI (z1 - 1))), (0, .ref a0), (1, .ref a1), (2, .int (iI x2))] kd36_0.2.2.2.2.2.2.1 rfl (by decide) rfl ?_
  refine X_iloadn hK (i := 3) 0 kd36_0.2.2.2.2.2.2.2.1 rfl rfl ?_
  refine X_istore hK (i := 4) [(4, .int (iI (z1 - 1))), (3, .int (iI (z1 - 1))), (0, .ref a0), (1, .ref a1), (2, .int (iI x2))] kd36_0.2.2.2.2.2.2.2.2.1 (by decide) rfl ?_
  have P1541 : ∀ (nP1541 : Nat) (g1234 : xG) (_ : xM [(13400, 0)] S g g1234) (z1233 : Int) (_ : 0 ≤ z1233) (_ : z1233 ≤ 31) (_ : z1233 - (-16) < (nP1541 : Int)), X K E 12 [(4, .int (iI z1233)), (3, .int (iI (z1 - 1))), (0, .ref a0), (1, .ref a1), (2, .int (iI x2))] [] S g1234 0 0 := by
    intro nP1541
    induction nP1541 with
    | zero => intro g1234 hg1234 z1233 lz1233 uz1233 mP1541; exact False.elim (by omega)
    | succ nP1541 ihP1541 =>
      intro g1234 hg1234 z1233 lz1233 uz1233 mP1541
      refine X_iload hK (i := 4) 0 kd36_0.2.2.2.2.2.2.2.2.2.1 rfl ?_
      refine X_if_le hK 110 (by omega) kd36_0.2.2.2.2.2.2.2.2.2.2.1 (by decide) (fun c1542 => ?_) (fun c1542 => ?_)
      · exact hret _ _ _ _ _ _ kd36_4.2.2.2.2.2.2.2.2.2.2.1 ⟨rfl, rfl⟩ (Nat.le_refl _) (Nat.le_refl _)
      · refine X_iconst hK kd36_0.2.2.2.2.2.2.2.2.2.2.2 ?_
        refine X_istore hK (i := 5) [(5, .int (iI 0)), (4, .int (iI z1233)), (3, .int (iI (z1 - 1))), (0, .ref a0), (1, .ref a1), (2, .int (iI x2))] kd36_1.1 (by decide) rfl ?_
        have P1802 : ∀ (nP1802 : Nat) (g1756 : xG) (_ : xM [(13400, 0)] S g1234 g1756) (z1755 : Int) (_ : 0 ≤ z1755) (_ : z1755 ≤ 5) (_ : 21 - z1755 < (nP1802 : Int)), X K E 20 [(5, .int (iI z1755)), (4, .int (iI z1233)), (3, .int (iI (z1 - 1))), (0, .ref a0), (1, .ref a1), (2, .int (iI x2))] [] S g1756 0 0 := by
          intro nP1802
          induction nP1802 with
          | zero => intro g1756 hg1756 z1755 lz1755 uz1755 mP1802; exact False.elim (by omega)
          | succ nP1802 ihP1802 =>
            intro g1756 hg1756 z1755 lz1755 uz1755 mP1802
            refine X_iload hK (i := 5) 0 kd36_1.2.1 rfl ?_
            refine X_aloadn hK (i := 0) 3 kd36_1.2.2.1 rfl rfl ?_
            refine X_getK hK fl_X8_24_9 hs_a0 ((hg1756 a0 9 0 4 hs_a0 (by decide)).trans ((hg1234 a0 9 0 4 hs_a0 (by decide)).trans en0)) kd36_1.2.2.2.1 ?_
            refine X_icmp_ge hK 104 (by omega) (by omega) kd36_1.2.2.2.2.1 (by decide) (fun c1803 => ?_) (fun c1803 => ?_)
            · refine X_iinc hK (i := 4) (z := z1233) (n := (-1)) 1 [(4, .int (iI (z1233 + (-1)))), (5, .int (iI z1755)), (3, .int (iI (z1 - 1))), (0, .ref a0), (1, .ref a1), (2, .int (iI x2))] kd36_4.2.2.2.2.2.2.2.2.1 rfl (by decide) rfl ?_
              refine X_goto hK 12 kd36_4.2.2.2.2.2.2.2.2.2.1 (by decide) ?_
              refine X_lv [(4, .int (iI (z1233 + (-1)))), (3, .int (iI (z1 - 1))), (0, .ref a0), (1, .ref a1), (2, .int (iI x2))] [0, 2, 3, 4, 5] rfl ?_
              exact ihP1541  g1756 (xM.tr (xM.tr xM.rf xLe.rf hg1234 (by decide)) xLe.rf hg1756 (by decide)) (z1233 + (-1)) (by omega) (by omega) (by omega)
            · refine X_iload hK (i := 4) 1 kd36_1.2.2.2.2.2.1 rfl ?_
              refine X_bipush hK kd36_1.2.2.2.2.2.2.1 (by decide) ?_
              refine X_imul hK kd36_1.2.2.2.2.2.2.2.1 ?_
              refine X_iload hK (i := 5) 0 kd36_1.2.2.2.2.2.2.2.2.1 rfl ?_
              refine X_iadd hK kd36_1.2.2.2.2.2.2.2.2.2.1 ?_
              refine X_istore hK (i := 6) [(6, .int (iI ((z1233 * 9) + z1755))), (5, .int (iI z1755)), (4, .int (iI z1233)), (3, .int (iI (z1 - 1))), (0, .ref a0), (1, .ref a1), (2, .int (iI x2))] kd36_1.2.2.2.2.2.2.2.2.2.2.1 (by decide) rfl ?_
              refine X_iload hK (i := 4) 2 kd36_1.2.2.2.2.2.2.2.2.2.2.2 rfl ?_
              refine X_iloadn hK (i := 3) 3 kd36_2.1 rfl rfl ?_
              have J1835 : ∀ (z1834 : Int) (lz1834 : 0 ≤ z1834) (uz1834 : z1834 ≤ 1), X K E 82 [(6, .int (iI ((z1233 * 9) + z1755))), (5, .int (iI z1755)), (4, .int (iI z1233)), (3, .int (iI (z1 - 1))), (0, .ref a0), (1, .ref a1), (2, .int (iI x2))] [.int (iI z1834)] S g1756 0 0 := by
                intro z1834 lz1834 uz1834
                refine X_istore hK (i := 7) [(7, .int (iI z1834)), (6, .int (iI ((z1233 * 9) + z1755))), (5, .int (iI z1755)), (4, .int (iI z1233)), (3, .int (iI (z1 - 1))), (0, .ref a0), (1, .ref a1), (2, .int (iI x2))] kd36_3.2.2.2.2.2.2.2.2.2.2.1 (by decide) rfl ?_
                refine X_iload hK (i := 7) 0 kd36_3.2.2.2.2.2.2.2.2.2.2.2 rfl ?_
                have J1838 : ∀ (g1839 : xG) (hg1839 : xM [(13400, 0)] S g1756 g1839), X K E 98 [(7, .int (iI z1834)), (6, .int (iI ((z1233 * 9) + z1755))), (5, .int (iI z1755)), (4, .int (iI z1233)), (3, .int (iI (z1 - 1))), (0, .ref a0), (1, .ref a1), (2, .int (iI x2))] [] S g1839 0 0 := by
                  intro g1839 hg1839
                  refine X_iinc hK (i := 5) (z := z1755) (n := 1) 2 [(5, .int (iI (z1755 + 1))), (7, .int (iI z1834)), (6, .int (iI ((z1233 * 9) + z1755))), (4, .int (iI z1233)), (3, .int (iI (z1 - 1))), (0, .ref a0), (1, .ref a1), (2, .int (iI x2))] kd36_4.2.2.2.2.2.2.1 rfl (by decide) rfl ?_
                  refine X_goto hK 20 kd36_4.2.2.2.2.2.2.2.1 (by decide) ?_
                  refine X_lv [(5, .int (iI (z1755 + 1))), (4, .int (iI z1233)), (3, .int (iI (z1 - 1))), (0, .ref a0), (1, .ref a1), (2, .int (iI x2))] [0, 3, 4, 5, 6, 7] rfl ?_
                  exact ihP1802  g1839 (xM.tr (xM.tr xM.rf xLe.rf hg1756 (by decide)) xLe.rf hg1839 (by decide)) (z1755 + 1) (by omega) (by omega) (by omega)
                refine X_if_ne hK 98 (by omega) kd36_4.1 (by decide) (fun c1836 => ?_) (fun c1836 => ?_)
                · exact J1838 g1756 xM.rf
                · refine X_aloadn hK (i := 0) 5 kd36_4.2.1 rfl rfl ?_
                  refine X_getK hK fl_X8_21_9 hs_a0 ((hg1756 a0 9 0 3 hs_a0 (by decide)).trans ((hg1234 a0 9 0 3 hs_a0 (by decide)).trans ew0)) kd36_4.2.2.1 ?_
                  refine X_iload hK (i := 6) 1 kd36_4.2.2.2.1 rfl ?_
                  refine X_ldc hK (n := 1000000) kd36_4.2.2.2.2.1 m_53_22 (by decide) ?_
                  refine X_iast hK hs_w0 ⟨by decide, by decide, by decide, by omega⟩ (by decide) sl_13400 (by omega) (by omega) (by omega) (by omega) kd36_4.2.2.2.2.2.1 (fun g1840 hg1840 => ?_)
                  exact J1838 g1840 (xM_ua xM.rf hg1840 hs_w0 (by decide) (by decide))
              refine X_icmp_ne hK 64 (by omega) (by omega) kd36_2.2.1 (by decide) (fun c1826 => ?_) (fun c1826 => ?_)
              · refine X_aloadn hK (i := 0) 4 kd36_3.1 rfl rfl ?_
                refine X_aloadn hK (i := 1) 5 kd36_3.2.1 rfl rfl ?_
                refine X_iload hK (i := 4) 2 kd36_3.2.2.1 rfl ?_
                refine X_iload hK (i := 5) 1 kd36_3.2.2.2.1 rfl ?_
                refine X_callV hK [.ref a1, .int (iI z1233), .int (iI z1755)] [] lk_X8_74 (c_nextOf_5 _ _ _ _ _ S g1756 a0 a1 z1233 z1755 n0 w0 nw0 hs_a0 hs_a1 (by omega) (by omega) (by omega) ((hg1756 a0 9 0 4 hs_a0 (by decide)).trans ((hg1234 a0 9 0 4 hs_a0 (by decide)).trans en0)) ((hg1756 a0 9 0 3 hs_a0 (by decide)).trans ((hg1234 a0 9 0 3 hs_a0 (by decide)).trans ew0)) hs_w0 (by omega) (by omega)) hs_a0 ⟨by decide, rfl⟩ kd36_3.2.2.2.2.1 rfl rfl (by simp [Value.category]) (by decide) (by decide) (by decide) (by decide) (fun r1841 S1843 g1842 pr1841 qr1841 hg1842 => ?_)
                obtain ⟨rfl, rfl, z1844, rfl, lz1844, uz1844⟩ := pr1841
                refine X_st [.int (iI z1844)] rfl ?_
                refine X_iconst hK kd36_3.2.2.2.2.2.1 ?_
                refine X_icmp_eq hK 81 (by omega) (by omega) kd36_3.2.2.2.2.2.2.1 (by decide) (fun c1845 => ?_) (fun c1845 => ?_)
                · refine X_iconst hK kd36_3.2.2.2.2.2.2.2.2.2.1 ?_
                  exact J1835 0 (by omega) (by omega)
                · refine X_iconst hK kd36_3.2.2.2.2.2.2.2.1 ?_
                  refine X_goto hK 82 kd36_3.2.2.2.2.2.2.2.2.1 (by decide) ?_
                  exact J1835 1 (by omega) (by omega)
              · refine X_aloadn hK (i := 0) 4 kd36_2.2.2.1 rfl rfl ?_
                refine X_getK hK fl_X8_21_9 hs_a0 ((hg1756 a0 9 0 3 hs_a0 (by decide)).trans ((hg1234 a0 9 0 3 hs_a0 (by decide)).trans ew0)) kd36_2.2.2.2.1 ?_
                refine X_iload hK (i := 6) 0 kd36_2.2.2.2.2.1 rfl ?_
                refine X_iald hK hs_w0 ⟨by decide, by decide, by omega⟩ sl_13400 (by omega) (by omega) kd36_2.2.2.2.2.2.1 (fun z1846 ez1846 lz1846 uz1846 => ?_)
                refine X_iloadn hK (i := 2) 6 kd36_2.2.2.2.2.2.2.1 rfl rfl ?_
                refine X_icmp_ne hK 60 (by omega) (by omega) kd36_2.2.2.2.2.2.2.2.1 (by decide) (fun c1847 => ?_) (fun c1847 => ?_)
                · refine X_iconst hK kd36_2.2.2.2.2.2.2.2.2.2.2.1 ?_
                  refine X_goto hK 82 kd36_2.2.2.2.2.2.2.2.2.2.2.2 (by decide) ?_
                  exact J1835 0 (by omega) (by omega)
                · refine X_iconst hK kd36_2.2.2.2.2.2.2.2.2.1 ?_
                  refine X_goto hK 82 kd36_2.2.2.2.2.2.2.2.2.2.1 (by decide) ?_
                  exact J1835 1 (by omega) (by omega)
        exact P1802 ((21 - 0 : Int).toNat + 1) g1234 xM.rf 0 (by omega) (by omega) (by omega)
  exact P1541 (((z1 - 1) - (-16) : Int).toNat + 1) g xM.rf (z1 - 1) (by omega) (by omega) (by omega)

set_option maxHeartbeats 4000000 in
set_option maxRecDepth 100000 in
theorem c_walk_5 (l : Launch) (D : va_G) (kA : Nat → ClassId) (b0 : Nat) (t0 : Nat → Nat) (S : xT) (g : xG) (a0 : Nat) (a1 : Nat) (n0 : Int) (w0 nw0 : Nat) (hs_a0 : S a0 = some (9, 0)) (hs_a1 : S a1 = some (4, 0)) (hn0 : 5 ≤ n0 ∧ n0 ≤ 5) (en0 : g a0 4 = .int (iI n0)) (ew0 : g a0 3 = .ref w0) (hs_w0 : S w0 = some (13400, nw0)) (hp0 : 288 ≤ (nw0 : Int)) (hp1 : (nw0 : Int) ≤ 2147483647) : xMt l yX8_walk cX8_walk 5 none 1 0 0 26 D kA b0 t0 [(9, 5), (13300, 0)] [.ref a0, .ref a1] S g (fun (r : Option Value) (S1 : xT) (g1 : xG) => S = S1 ∧ r = none) := by
  refine xEnterV (by decide) (by simp [lg_sl, Value.category]) [(0, .ref a0), (1, .ref a1)] rfl ?_
  intro K E hK hret _ _ _
  refine X_iconst hK kd36_20.2.2.2.2.2.2.2.2.2.1 ?_
  refine X_istoren hK (i := 2) [(2, .int (iI (-1))), (0, .ref a0), (1, .ref a1)] kd36_20.2.2.2.2.2.2.2.2.2.2.1 rfl (by decide) rfl ?_
  refine X_aloadn hK (i := 0) 1 kd36_20.2.2.2.2.2.2.2.2.2.2.2 rfl rfl ?_
  refine X_getK hK fl_X8_24_9 hs_a0 en0 kd36_21.1 ?_
  refine X_iconst hK kd36_21.2.1 ?_
  refine X_isub hK kd36_21.2.2.1 ?_
  refine X_istoren hK (i := 3) [(3, .int (iI (n0 - 1))), (2, .int (iI (-1))), (0, .ref a0), (1, .ref a1)] kd36_21.2.2.2.1 rfl (by decide) rfl ?_
  have P595 : ∀ (nP595 : Nat) (z459 : Int) (_ : (-1) ≤ z459) (_ : z459 ≤ 4) (z460 : Int) (_ : (-1) ≤ z460) (_ : z460 ≤ 4) (_ : z459 - (-17) < (nP595 : Int)), X K E 9 [(3, .int (iI z459)), (2, .int (iI z460)), (0, .ref a0), (1, .ref a1)] [] S g 0 0 := by
    intro nP595
    induction nP595 with
    | zero => intro z459 lz459 uz459 z460 lz460 uz460 mP595; exact False.elim (by omega)
    | succ nP595 ihP595 =>
      intro z459 lz459 uz459 z460 lz460 uz460 mP595
      refine X_iloadn hK (i := 3) 0 kd36_21.2.2.2.2.1 rfl rfl ?_
      refine X_if_lt hK 39 (by omega) kd36_21.2.2.2.2.2.1 (by decide) (fun c596 => ?_) (fun c596 => ?_)
      · refine X_iconst hK kd36_22.2.2.2.2.2.2.2.2.2.2.1 ?_
        refine X_istoren hK (i := 3) [(3, .int (iI 0)), (2, .int (iI z460)), (0, .ref a0), (1, .ref a1)] kd36_22.2.2.2.2.2.2.2.2.2.2.2 rfl (by decide) rfl ?_
        refine X_aloadn hK (i := 0) 2 kd36_23.1 rfl rfl ?_
        refine X_iconst hK kd36_23.2.1 ?_
        refine X_puti hK fl_X8_28_9 hs_a0 (by decide) sl_9_5 (by omega) (by omega) kd36_23.2.2.1 (fun g602 hg602 => ?_)
        refine X_iconst hK kd36_23.2.2.2.1 ?_
        refine X_istore hK (i := 4) [(4, .int (iI 0)), (3, .int (iI 0)), (2, .int (iI z460)), (0, .ref a0), (1, .ref a1)] kd36_23.2.2.2.2.1 (by decide) rfl ?_
        have P710 : ∀ (nP710 : Nat) (g695 : xG) (_ : xM [(9, 5), (13300, 0)] S g602 g695) (z692 : Int) (_ : 0 ≤ z692) (_ : z692 ≤ 5) (z693 : Int) (_ : 0 ≤ z693) (_ : z693 ≤ 31) (z694 : Int) (_ : (-1) ≤ z694) (_ : z694 ≤ 4) (q696 : Int) (_ : 0 ≤ q696) (_ : q696 ≤ 9) (_ : g695 a0 5 = .int (iI q696)) (_ : q696 ≤ z692) (_ : 21 - z692 < (nP710 : Int)), X K E 49 [(4, .int (iI z692)), (3, .int (iI z693)), (2, .int (iI z694)), (0, .ref a0), (1, .ref a1)] [] S g695 0 0 := by
          intro nP710
          induction nP710 with
          | zero => intro g695 hg695 z692 lz692 uz692 z693 lz693 uz693 z694 lz694 uz694 q696 lq696 uq696 eq696 v711 mP710; exact False.elim (by omega)
          | succ nP710 ihP710 =>
            intro g695 hg695 z692 lz692 uz692 z693 lz693 uz693 z694 lz694 uz694 q696 lq696 uq696 eq696 v711 mP710
            refine X_iload hK (i := 4) 0 kd36_23.2.2.2.2.2.1 rfl ?_
            refine X_aloadn hK (i := 0) 3 kd36_23.2.2.2.2.2.2.1 rfl rfl ?_
            refine X_getK hK fl_X8_24_9 hs_a0 ((hg695 a0 9 0 4 hs_a0 (by decide)).trans ((xs_k hg602 (by decide)).trans en0)) kd36_23.2.2.2.2.2.2.2.1 ?_
            refine X_icmp_ge hK 106 (by omega) (by omega) kd36_23.2.2.2.2.2.2.2.2.1 (by decide) (fun c712 => ?_) (fun c712 => ?_)
            · exact hret _ _ _ _ _ _ kd36_26.2.2.2.2 ⟨rfl, rfl⟩ (Nat.le_refl _) (Nat.le_refl _)
            · refine X_iloadn hK (i := 2) 2 kd36_23.2.2.2.2.2.2.2.2.2.1 rfl rfl ?_
              refine X_iconst hK kd36_23.2.2.2.2.2.2.2.2.2.2.1 ?_
              refine X_icmp_eq hK 106 (by omega) (by omega) kd36_23.2.2.2.2.2.2.2.2.2.2.2 (by decide) (fun c713 => ?_) (fun c713 => ?_)
              · exact hret _ _ _ _ _ _ kd36_26.2.2.2.2 ⟨rfl, rfl⟩ (Nat.le_refl _) (Nat.le_refl _)
              · refine X_aloadn hK (i := 0) 3 kd36_24.1 rfl rfl ?_
                refine X_getr hK 13300 9 fl_X8_18_9 hs_a0 sl_9_2 kd36_24.2.1 (fun b714 eb714 hs_b714 => ?_)
                refine X_iload hK (i := 4) 0 kd36_24.2.2.1 rfl ?_
                refine X_aloadn hK (i := 0) 3 kd36_24.2.2.2.1 rfl rfl ?_
                refine X_getr hK 13100 9 fl_X8_11_9 hs_a0 sl_9_0 kd36_24.2.2.2.2.1 (fun b715 eb715 hs_b715 => ?_)
                refine X_iloadn hK (i := 2) 2 kd36_24.2.2.2.2.2.1 rfl rfl ?_
                refine X_iald hK hs_b715 (by decide) sl_13100 (by omega) (by omega) kd36_24.2.2.2.2.2.2.1 (fun z716 ez716 lz716 uz716 => ?_)
                refine X_iast hK hs_b714 (by decide) (by decide) sl_13300 (by omega) (by omega) (by omega) (by omega) kd36_24.2.2.2.2.2.2.2.1 (fun g717 hg717 => ?_)
                refine X_aloadn hK (i := 0) 3 kd36_24.2.2.2.2.2.2.2.2.1 rfl rfl ?_
                refine X_dup hK kd36_24.2.2.2.2.2.2.2.2.2.1 rfl ?_
                refine X_getK hK fl_X8_28_9 hs_a0 ((xs_a hg717 (xne hs_a0 hs_b714 (by decide))).trans eq696) kd36_24.2.2.2.2.2.2.2.2.2.2.1 ?_
                refine X_iconst hK kd36_24.2.2.2.2.2.2.2.2.2.2.2 ?_
                refine X_iadd hK kd36_25.1 ?_
                refine X_puti hK fl_X8_28_9 hs_a0 (by decide) sl_9_5 (by omega) (by omega) kd36_25.2.1 (fun g718 hg718 => ?_)
                refine X_iloadn hK (i := 3) 1 kd36_25.2.2.1 rfl rfl ?_
                refine X_iconst hK kd36_25.2.2.2.1 ?_
                refine X_iloadn hK (i := 2) 2 kd36_25.2.2.2.2.1 rfl rfl ?_
                refine X_ishl hK kd36_25.2.2.2.2.2.1 (fun z719 ez719 lz719 uz719 => ?_)
                have bz719 := xshlB 4 ez719 ⟨lz719, uz719⟩ (by omega) (by decide)
                refine X_ior hK kd36_25.2.2.2.2.2.2.1 (fun z720 ez720 lz720 uz720 => ?_)
                have bz720 := xiorB 5 ez720 ⟨lz720, uz720⟩ (by omega) (by omega) (by decide)
                have gz720 := xiorG ez720 ⟨lz720, uz720⟩ (by omega) (by omega)
                refine X_istoren hK (i := 3) [(3, .int (iI z720)), (4, .int (iI z692)), (2, .int (iI z694)), (0, .ref a0), (1, .ref a1)] kd36_25.2.2.2.2.2.2.2.1 rfl (by decide) rfl ?_
                refine X_aloadn hK (i := 0) 3 kd36_25.2.2.2.2.2.2.2.2.1 rfl rfl ?_
                refine X_aloadn hK (i := 1) 4 kd36_25.2.2.2.2.2.2.2.2.2.1 rfl rfl ?_
                refine X_iloadn hK (i := 3) 0 kd36_25.2.2.2.2.2.2.2.2.2.2.1 rfl rfl ?_
                refine X_iloadn hK (i := 2) 2 kd36_25.2.2.2.2.2.2.2.2.2.2.2 rfl rfl ?_
                refine X_callV hK [.ref a1, .int (iI z720), .int (iI z694)] [] lk_X8_74 (c_nextOf_5 _ _ _ _ _ S g718 a0 a1 z720 z694 n0 w0 nw0 hs_a0 hs_a1 (by omega) (by omega) (by omega) ((xs_k hg718 (by decide)).trans ((xs_a hg717 (xne hs_a0 hs_b714 (by decide))).trans ((hg695 a0 9 0 4 hs_a0 (by decide)).trans ((xs_k hg602 (by decide)).trans en0)))) ((xs_k hg718 (by decide)).trans ((xs_a hg717 (xne hs_a0 hs_b714 (by decide))).trans ((hg695 a0 9 0 3 hs_a0 (by decide)).trans ((xs_k hg602 (by decide)).trans ew0)))) hs_w0 (by omega) (by omega)) hs_a0 ⟨by decide, rfl⟩ kd36_26.1 rfl rfl (by simp [Value.category]) (by decide) (by decide) (by decide) (by decide) (fun r721 S723 g722 pr721 qr721 hg722 => ?_)
                obtain ⟨rfl, rfl, z724, rfl, lz724, uz724⟩ := pr721
                refine X_st [.int (iI z724)] rfl ?_
                refine X_istoren hK (i := 2) [(2, .int (iI z724)), (3, .int (iI z720)), (4, .int (iI z692)), (0, .ref a0), (1, .ref a1)] kd36_26.2.1 rfl (by decide) rfl ?_
                refine X_iinc hK (i := 4) (z := z692) (n := 1) 2 [(4, .int (iI (z692 + 1))), (2, .int (iI z724)), (3, .int (iI z720)), (0, .ref a0), (1, .ref a1)] kd36_26.2.2.1 rfl (by decide) rfl ?_
                refine X_goto hK 49 kd36_26.2.2.2.1 (by decide) ?_
                refine X_lv [(4, .int (iI (z692 + 1))), (3, .int (iI z720)), (2, .int (iI z724)), (0, .ref a0), (1, .ref a1)] [0, 2, 1, 3, 4] rfl ?_
                exact ihP710  g718 (xM_up (xM_ua (xM.tr xM.rf xLe.rf hg695 (by decide)) hg717 hs_b714 (by decide) (by decide)) hg718 hs_a0 (by decide) (by decide)) (z692 + 1) (by omega) (by omega) z720 (by omega) (by omega) z724 (by omega) (by omega) (q696 + 1) (by omega) (by omega) (xs_s hg718) (by omega) (by omega)
        exact P710 ((21 - 0 : Int).toNat + 1) g602 xM.rf 0 (by omega) (by omega) 0 (by omega) (by omega) z460 (by omega) (by omega) 0 (by omega) (by omega) (xs_s hg602) (by omega) (by omega)
      · refine X_aloadn hK (i := 0) 2 kd36_21.2.2.2.2.2.2.1 rfl rfl ?_
        refine X_getK hK fl_X8_21_9 hs_a0 ew0 kd36_21.2.2.2.2.2.2.2.1 ?_
        refine X_iconst hK kd36_21.2.2.2.2.2.2.2.2.1 ?_
        refine X_iloadn hK (i := 3) 0 kd36_21.2.2.2.2.2.2.2.2.2.1 rfl rfl ?_
        refine X_ishl hK kd36_21.2.2.2.2.2.2.2.2.2.2.1 (fun z725 ez725 lz725 uz725 => ?_)
        have bz725 := xshlB 4 ez725 ⟨lz725, uz725⟩ (by omega) (by decide)
        refine X_bipush hK kd36_21.2.2.2.2.2.2.2.2.2.2.2 (by decide) ?_
        refine X_imul hK kd36_22.1 ?_
        refine X_iloadn hK (i := 3) 0 kd36_22.2.1 rfl rfl ?_
        refine X_iadd hK kd36_22.2.2.1 ?_
        refine X_iald hK hs_w0 ⟨by decide, by decide, by omega⟩ sl_13400 (by omega) (by omega) kd36_22.2.2.2.1 (fun z726 ez726 lz726 uz726 => ?_)
        refine X_ldc hK (n := 1000000) kd36_22.2.2.2.2.1 m_53_22 (by decide) ?_
        have J729 : ∀ (z728 : Int) (lz728 : (-1) ≤ z728) (uz728 : z728 ≤ 4), X K E 33 [(3, .int (iI z459)), (2, .int (iI z728)), (0, .ref a0), (1, .ref a1)] [] S g 0 0 := by
          intro z728 lz728 uz728
          refine X_iinc hK (i := 3) (z := z459) (n := (-1)) 0 [(3, .int (iI (z459 + (-1)))), (2, .int (iI z728)), (0, .ref a0), (1, .ref a1)] kd36_22.2.2.2.2.2.2.2.2.1 rfl (by decide) rfl ?_
          refine X_goto hK 9 kd36_22.2.2.2.2.2.2.2.2.2.1 (by decide) ?_
          exact ihP595  (z459 + (-1)) (by omega) (by omega) z728 (by omega) (by omega) (by omega)
        refine X_icmp_eq hK 33 (by omega) (by omega) kd36_22.2.2.2.2.2.1 (by decide) (fun c727 => ?_) (fun c727 => ?_)
        · exact J729 z460 (by omega) (by omega)
        · refine X_iloadn hK (i := 3) 0 kd36_22.2.2.2.2.2.2.1 rfl rfl ?_
          refine X_istoren hK (i := 2) [(2, .int (iI z459)), (3, .int (iI z459)), (0, .ref a0), (1, .ref a1)] kd36_22.2.2.2.2.2.2.2.1 rfl (by decide) rfl ?_
          refine X_lv [(3, .int (iI z459)), (2, .int (iI z459)), (0, .ref a0), (1, .ref a1)] [1, 0, 2, 3] rfl ?_
          exact J729 z459 (by omega) (by omega)
  exact P595 (((n0 - 1) - (-17) : Int).toNat + 1) (n0 - 1) (by omega) (by omega) (-1) (by omega) (by omega) (by omega)

set_option maxHeartbeats 4000000 in
set_option maxRecDepth 100000 in
theorem c_soonestAt_6 (l : Launch) (D : va_G) (kA : Nat → ClassId) (b0 : Nat) (t0 : Nat → Nat) (S : xT) (g : xG) (a0 : Nat) (a1 : Nat) (x2 : Int) (x3 : Int) (n0 : Int) (w0 nw0 : Nat) (hs_a0 : S a0 = some (9, 0)) (hs_a1 : S a1 = some (4, 0)) (hx2 : 1 ≤ x2 ∧ x2 ≤ 63) (hx3 : 0 ≤ x3 ∧ x3 ≤ 5) (hn0 : 6 ≤ n0 ∧ n0 ≤ 6) (en0 : g a0 4 = .int (iI n0)) (ew0 : g a0 3 = .ref w0) (hs_w0 : S w0 = some (13400, nw0)) (hp0 : 576 ≤ (nw0 : Int)) (hp1 : (nw0 : Int) ≤ 2147483647) : xMt l yX8_soonestAt cX8_soonestAt 8 (some .int) 1 0 0 13 D kA b0 t0 [] [.ref a0, .ref a1, .int (iI x2), .int (iI x3)] S g (fun (r : Option Value) (S1 : xT) (g1 : xG) => S = S1 ∧ g = g1 ∧ ∃ z : Int, r = some (.int (iI z)) ∧ (-2147483648) ≤ z ∧ z ≤ 1000000) := by
  refine xEnterI (by decide) (by simp [lg_sl, Value.category]) [(0, .ref a0), (1, .ref a1), (2, .int (iI x2)), (3, .int (iI x3))] rfl ?_
  intro K E hK hret _ _ _
  refine X_aloadn hK (i := 1) 1 kd36_15.2.2.2.2.2.2.2.2.2.1 rfl rfl ?_
  refine X_getr hK 11604 10 fl_X8_62_4 hs_a1 sl_4_6 kd36_15.2.2.2.2.2.2.2.2.2.2.1 (fun b1 eb1 hs_b1 => ?_)
  refine X_aloadn hK (i := 0) 0 kd36_15.2.2.2.2.2.2.2.2.2.2.2 rfl rfl ?_
  refine X_getr hK 13100 9 fl_X8_11_9 hs_a0 sl_9_0 kd36_16.1 (fun b2 eb2 hs_b2 => ?_)
  refine X_iloadn hK (i := 3) 3 kd36_16.2.1 rfl rfl ?_
  refine X_iald hK hs_b2 (by decide) sl_13100 (by omega) (by omega) kd36_16.2.2.1 (fun z3 ez3 lz3 uz3 => ?_)
  refine X_aald hK 11500 10 hs_b1 (by decide) sl_11604 (by omega) (by omega) kd36_16.2.2.2.1 (fun b4 eb4 hs_b4 => ?_)
  refine X_astore hK (i := 4) [(4, .ref b4), (0, .ref a0), (1, .ref a1), (2, .int (iI x2)), (3, .int (iI x3))] kd36_16.2.2.2.2.1 (by decide) rfl ?_
  refine X_iloadn hK (i := 2) 3 kd36_16.2.2.2.2.2.1 rfl rfl ?_
  refine X_iconst hK kd36_16.2.2.2.2.2.2.1 ?_
  refine X_iloadn hK (i := 3) 4 kd36_16.2.2.2.2.2.2.2.1 rfl rfl ?_
  refine X_ishl hK kd36_16.2.2.2.2.2.2.2.2.1 (fun z5 ez5 lz5 uz5 => ?_)
  have bz5 := xshlB 5 ez5 ⟨lz5, uz5⟩ (by omega) (by decide)
  refine X_ixor hK kd36_16.2.2.2.2.2.2.2.2.2.1 (fun z6 ez6 lz6 uz6 => ?_)
  have bz6 := xixorB 6 ez6 ⟨lz6, uz6⟩ (by omega) (by omega) (by decide)
  refine X_istore hK (i := 5) [(5, .int (iI z6)), (4, .ref b4), (0, .ref a0), (1, .ref a1), (2, .int (iI x2)), (3, .int (iI x3))] kd36_16.2.2.2.2.2.2.2.2.2.2.1 (by decide) rfl ?_
  refine X_iload hK (i := 5) 0 kd36_16.2.2.2.2.2.2.2.2.2.2.2 rfl ?_
  have J10 : ∀ (z9 : Int) (lz9 : 0 ≤ z9) (uz9 : z9 ≤ 1000000), X K E 34 [(5, .int (iI z6)), (4, .ref b4), (0, .ref a0), (1, .ref a1), (2, .int (iI x2)), (3, .int (iI x3))] [.int (iI z9)] S g 0 0 := by
    intro z9 lz9 uz9
    refine X_istore hK (i := 6) [(6, .int (iI z9)), (5, .int (iI z6)), (4, .ref b4), (0, .ref a0), (1, .ref a1), (2, .int (iI x2)), (3, .int (iI x3))] kd36_17.2.2.2.2.2.2.1 (by decide) rfl ?_
    refine X_iconst hK kd36_17.2.2.2.2.2.2.2.1 ?_
    refine X_istore hK (i := 7) [(7, .int (iI 0)), (6, .int (iI z9)), (5, .int (iI z6)), (4, .ref b4), (0, .ref a0), (1, .ref a1), (2, .int (iI x2)), (3, .int (iI x3))] kd36_17.2.2.2.2.2.2.2.2.1 (by decide) rfl ?_
    have P123 : ∀ (nP123 : Nat) (z104 : Int) (_ : 0 ≤ z104) (_ : z104 ≤ 6) (z105 : Int) (_ : (-2147483648) ≤ z105) (_ : z105 ≤ 1000000) (_ : 22 - z104 < (nP123 : Int)), X K E 39 [(7, .int (iI z104)), (6, .int (iI z105)), (5, .int (iI z6)), (4, .ref b4), (0, .ref a0), (1, .ref a1), (2, .int (iI x2)), (3, .int (iI x3))] [] S g 0 0 := by
      intro nP123
      induction nP123 with
      | zero => intro z104 lz104 uz104 z105 lz105 uz105 mP123; exact False.elim (by omega)
      | succ nP123 ihP123 =>
        intro z104 lz104 uz104 z105 lz105 uz105 mP123
        refine X_iload hK (i := 7) 0 kd36_17.2.2.2.2.2.2.2.2.2.1 rfl ?_
        refine X_aloadn hK (i := 0) 4 kd36_17.2.2.2.2.2.2.2.2.2.2.1 rfl rfl ?_
        refine X_getK hK fl_X8_24_9 hs_a0 en0 kd36_17.2.2.2.2.2.2.2.2.2.2.2 ?_
        have J131 : X K E 90 [(7, .int (iI z104)), (6, .int (iI z105)), (5, .int (iI z6)), (4, .ref b4), (0, .ref a0), (1, .ref a1), (2, .int (iI x2)), (3, .int (iI x3))] [] S g 0 0 := by
          refine X_iload hK (i := 6) 1 kd36_19.2.2.2.2.2.2.2.2.2.2.2 rfl ?_
          refine X_aloadn hK (i := 0) 4 kd36_20.1 rfl rfl ?_
          refine X_getr hK 13200 9 fl_X8_15_9 hs_a0 sl_9_1 kd36_20.2.1 (fun b132 eb132 hs_b132 => ?_)
          refine X_iloadn hK (i := 3) 7 kd36_20.2.2.1 rfl rfl ?_
          refine X_iald hK hs_b132 (by decide) sl_13200 (by omega) (by omega) kd36_20.2.2.2.1 (fun z133 ez133 lz133 uz133 => ?_)
          refine X_icmp_gt hK 106 (by omega) (by omega) kd36_20.2.2.2.2.1 (by decide) (fun c134 => ?_) (fun c134 => ?_)
          · refine X_ldc hK (n := 1000000) kd36_20.2.2.2.2.2.2.2.1 m_53_22 (by decide) ?_
            exact hret _ _ _ _ _ _ _ kd36_20.2.2.2.2.2.2.2.2.1 ⟨rfl, rfl, 1000000, rfl, (by omega), (by omega)⟩ (Nat.le_refl _) (Nat.le_refl _)
          · refine X_iload hK (i := 6) 1 kd36_20.2.2.2.2.2.1 rfl ?_
            refine X_goto hK 108 kd36_20.2.2.2.2.2.2.1 (by decide) ?_
            exact hret _ _ _ _ _ _ _ kd36_20.2.2.2.2.2.2.2.2.1 ⟨rfl, rfl, z105, rfl, (by omega), (by omega)⟩ (Nat.le_refl _) (Nat.le_refl _)
        refine X_icmp_ge hK 90 (by omega) (by omega) kd36_18.1 (by decide) (fun c124 => ?_) (fun c124 => ?_)
        · exact J131 
        · refine X_iload hK (i := 5) 2 kd36_18.2.1 rfl ?_
          refine X_if_eq hK 90 (by omega) kd36_18.2.2.1 (by decide) (fun c135 => ?_) (fun c135 => ?_)
          · exact J131 
          · refine X_iload hK (i := 6) 1 kd36_18.2.2.2.1 rfl ?_
            refine X_aloadn hK (i := 0) 4 kd36_18.2.2.2.2.1 rfl rfl ?_
            refine X_getK hK fl_X8_21_9 hs_a0 ew0 kd36_18.2.2.2.2.2.1 ?_
            refine X_iload hK (i := 5) 2 kd36_18.2.2.2.2.2.2.1 rfl ?_
            refine X_bipush hK kd36_18.2.2.2.2.2.2.2.1 (by decide) ?_
            refine X_imul hK kd36_18.2.2.2.2.2.2.2.2.1 ?_
            refine X_iload hK (i := 7) 0 kd36_18.2.2.2.2.2.2.2.2.2.1 rfl ?_
            refine X_iadd hK kd36_18.2.2.2.2.2.2.2.2.2.2.1 ?_
            refine X_iald hK hs_w0 ⟨by decide, by decide, by omega⟩ sl_13400 (by omega) (by omega) kd36_18.2.2.2.2.2.2.2.2.2.2.2 (fun z136 ez136 lz136 uz136 => ?_)
            refine X_aload hK (i := 4) 3 kd36_19.1 rfl ?_
            refine X_aloadn hK (i := 0) 4 kd36_19.2.1 rfl rfl ?_
            refine X_getK hK fl_X8_11_9 hs_a0 eb2 kd36_19.2.2.1 ?_
            refine X_iload hK (i := 7) 0 kd36_19.2.2.2.1 rfl ?_
            refine X_iald hK hs_b2 (by decide) sl_13100 (by omega) (by omega) kd36_19.2.2.2.2.1 (fun z137 ez137 lz137 uz137 => ?_)
            refine X_iald hK hs_b4 (by decide) sl_11500 (by omega) (by omega) kd36_19.2.2.2.2.2.1 (fun z138 ez138 lz138 uz138 => ?_)
            refine X_iadd hK kd36_19.2.2.2.2.2.2.1 ?_
            refine X_norm (fun z139 ez139 lz139 uz139 => ?_)
            refine X_mmin hK mm_X8_68 ⟨by decide, by simp [Value.category]⟩ (by decide) (by omega) (by omega) kd36_19.2.2.2.2.2.2.2.1 (fun z140 ez140 fz140 => ?_)
            have bz140 : (-2147483648) ≤ z140 ∧ z140 ≤ 1000000 := by omega
            refine X_istore hK (i := 6) [(6, .int (iI z140)), (7, .int (iI z104)), (5, .int (iI z6)), (4, .ref b4), (0, .ref a0), (1, .ref a1), (2, .int (iI x2)), (3, .int (iI x3))] kd36_19.2.2.2.2.2.2.2.2.1 (by decide) rfl ?_
            refine X_iinc hK (i := 7) (z := z104) (n := 1) 1 [(7, .int (iI (z104 + 1))), (6, .int (iI z140)), (5, .int (iI z6)), (4, .ref b4), (0, .ref a0), (1, .ref a1), (2, .int (iI x2)), (3, .int (iI x3))] kd36_19.2.2.2.2.2.2.2.2.2.1 rfl (by decide) rfl ?_
            refine X_goto hK 39 kd36_19.2.2.2.2.2.2.2.2.2.2.1 (by decide) ?_
            exact ihP123  (z104 + 1) (by omega) (by omega) z140 (by omega) (by omega) (by omega)
    exact P123 ((22 - 0 : Int).toNat + 1) 0 (by omega) (by omega) z9 (by omega) (by omega) (by omega)
  refine X_if_ne hK 32 (by omega) kd36_17.1 (by decide) (fun c7 => ?_) (fun c7 => ?_)
  · refine X_ldc hK (n := 1000000) kd36_17.2.2.2.2.2.1 m_53_22 (by decide) ?_
    exact J10 1000000 (by omega) (by omega)
  · refine X_aload hK (i := 4) 1 kd36_17.2.1 rfl ?_
    refine X_iconst hK kd36_17.2.2.1 ?_
    refine X_iald hK hs_b4 (by decide) sl_11500 (by omega) (by omega) kd36_17.2.2.2.1 (fun z141 ez141 lz141 uz141 => ?_)
    refine X_goto hK 34 kd36_17.2.2.2.2.1 (by decide) ?_
    exact J10 z141 (by omega) (by omega)

set_option maxHeartbeats 4000000 in
set_option maxRecDepth 100000 in
theorem c_findSoonest_6 (l : Launch) (D : va_G) (kA : Nat → ClassId) (b0 : Nat) (t0 : Nat → Nat) (S : xT) (g : xG) (a0 : Nat) (a1 : Nat) (n0 : Int) (w0 nw0 : Nat) (hs_a0 : S a0 = some (9, 0)) (hs_a1 : S a1 = some (4, 0)) (hn0 : 6 ≤ n0 ∧ n0 ≤ 6) (en0 : g a0 4 = .int (iI n0)) (ew0 : g a0 3 = .ref w0) (hs_w0 : S w0 = some (13400, nw0)) (hp0 : 576 ≤ (nw0 : Int)) (hp1 : (nw0 : Int) ≤ 2147483647) : xMt l yX8_findSoonest cX8_findSoonest 4 none 2 0 0 40 D kA b0 t0 [(13400, 0)] [.ref a0, .ref a1] S g (fun (r : Option Value) (S1 : xT) (g1 : xG) => S = S1 ∧ r = none) := by
  refine xEnterV (by decide) (by simp [lg_sl, Value.category]) [(0, .ref a0), (1, .ref a1)] rfl ?_
  intro K E hK hret _ _ _
  refine X_iconst hK kd36_4.2.2.2.2.2.2.2.2.2.2.2 ?_
  refine X_istoren hK (i := 2) [(2, .int (iI 1)), (0, .ref a0), (1, .ref a1)] kd36_5.1 rfl (by decide) rfl ?_
  have P1230 : ∀ (nP1230 : Nat) (g1026 : xG) (_ : xM [(13400, 0)] S g g1026) (z1025 : Int) (_ : 1 ≤ z1025) (_ : z1025 ≤ 64) (_ : 80 - z1025 < (nP1230 : Int)), X K E 2 [(2, .int (iI z1025)), (0, .ref a0), (1, .ref a1)] [] S g1026 0 0 := by
    intro nP1230
    induction nP1230 with
    | zero => intro g1026 hg1026 z1025 lz1025 uz1025 mP1230; exact False.elim (by omega)
    | succ nP1230 ihP1230 =>
      intro g1026 hg1026 z1025 lz1025 uz1025 mP1230
      refine X_iloadn hK (i := 2) 0 kd36_5.2.1 rfl rfl ?_
      refine X_iconst hK kd36_5.2.2.1 ?_
      refine X_aloadn hK (i := 0) 1 kd36_5.2.2.2.1 rfl rfl ?_
      refine X_getK hK fl_X8_24_9 hs_a0 ((hg1026 a0 9 0 4 hs_a0 (by decide)).trans en0) kd36_5.2.2.2.2.1 ?_
      refine X_ishl hK kd36_5.2.2.2.2.2.1 (fun z1231 ez1231 lz1231 uz1231 => ?_)
      have bz1231 := xshlB 6 ez1231 ⟨lz1231, uz1231⟩ (by omega) (by decide)
      refine X_icmp_ge hK 66 (by omega) (by omega) kd36_5.2.2.2.2.2.2.1 (by decide) (fun c1232 => ?_) (fun c1232 => ?_)
      · exact hret _ _ _ _ _ _ kd36_8.2.2.2.1 ⟨rfl, rfl⟩ (Nat.le_refl _) (Nat.le_refl _)
      · refine X_iconst hK kd36_5.2.2.2.2.2.2.2.1 ?_
        refine X_istoren hK (i := 3) [(3, .int (iI 0)), (2, .int (iI z1025)), (0, .ref a0), (1, .ref a1)] kd36_5.2.2.2.2.2.2.2.2.1 rfl (by decide) rfl ?_
        have P1404 : ∀ (nP1404 : Nat) (g1374 : xG) (_ : xM [(13400, 0)] S g1026 g1374) (z1373 : Int) (_ : 0 ≤ z1373) (_ : z1373 ≤ 6) (_ : 22 - z1373 < (nP1404 : Int)), X K E 14 [(3, .int (iI z1373)), (2, .int (iI z1025)), (0, .ref a0), (1, .ref a1)] [] S g1374 0 0 := by
          intro nP1404
          induction nP1404 with
          | zero => intro g1374 hg1374 z1373 lz1373 uz1373 mP1404; exact False.elim (by omega)
          | succ nP1404 ihP1404 =>
            intro g1374 hg1374 z1373 lz1373 uz1373 mP1404
            refine X_iloadn hK (i := 3) 0 kd36_5.2.2.2.2.2.2.2.2.2.1 rfl rfl ?_
            refine X_aloadn hK (i := 0) 2 kd36_5.2.2.2.2.2.2.2.2.2.2.1 rfl rfl ?_
            refine X_getK hK fl_X8_24_9 hs_a0 ((hg1374 a0 9 0 4 hs_a0 (by decide)).trans ((hg1026 a0 9 0 4 hs_a0 (by decide)).trans en0)) kd36_5.2.2.2.2.2.2.2.2.2.2.2 ?_
            refine X_icmp_ge hK 60 (by omega) (by omega) kd36_6.1 (by decide) (fun c1405 => ?_) (fun c1405 => ?_)
            · refine X_iinc hK (i := 2) (z := z1025) (n := 1) 1 [(2, .int (iI (z1025 + 1))), (3, .int (iI z1373)), (0, .ref a0), (1, .ref a1)] kd36_8.2.1 rfl (by decide) rfl ?_
              refine X_goto hK 2 kd36_8.2.2.1 (by decide) ?_
              refine X_lv [(2, .int (iI (z1025 + 1))), (0, .ref a0), (1, .ref a1)] [0, 2, 3] rfl ?_
              exact ihP1230  g1374 (xM.tr (xM.tr xM.rf xLe.rf hg1026 (by decide)) xLe.rf hg1374 (by decide)) (z1025 + 1) (by omega) (by omega) (by omega)
            · refine X_aloadn hK (i := 0) 2 kd36_6.2.1 rfl rfl ?_
              refine X_getK hK fl_X8_21_9 hs_a0 ((hg1374 a0 9 0 3 hs_a0 (by decide)).trans ((hg1026 a0 9 0 3 hs_a0 (by decide)).trans ew0)) kd36_6.2.2.1 ?_
              refine X_iloadn hK (i := 2) 1 kd36_6.2.2.2.1 rfl rfl ?_
              refine X_bipush hK kd36_6.2.2.2.2.1 (by decide) ?_
              refine X_imul hK kd36_6.2.2.2.2.2.1 ?_
              refine X_iloadn hK (i := 3) 0 kd36_6.2.2.2.2.2.2.1 rfl rfl ?_
              refine X_iadd hK kd36_6.2.2.2.2.2.2.2.1 ?_
              refine X_iloadn hK (i := 2) 1 kd36_6.2.2.2.2.2.2.2.2.1 rfl rfl ?_
              refine X_iloadn hK (i := 3) 0 kd36_6.2.2.2.2.2.2.2.2.2.1 rfl rfl ?_
              refine X_ishr hK kd36_6.2.2.2.2.2.2.2.2.2.2.1 (fun z1420 ez1420 lz1420 uz1420 => ?_)
              refine X_iconst hK kd36_6.2.2.2.2.2.2.2.2.2.2.2 ?_
              refine X_iand hK kd36_7.1 (fun z1421 ez1421 lz1421 uz1421 => ?_)
              have bz1421 := xandB ez1421 ⟨lz1421, uz1421⟩ (by omega)
              refine X_iconst hK kd36_7.2.1 ?_
              have J1428 : ∀ (z1427 : Int) (lz1427 : (-2147483648) ≤ z1427) (uz1427 : z1427 ≤ 1000000), X K E 53 [(3, .int (iI z1373)), (2, .int (iI z1025)), (0, .ref a0), (1, .ref a1)] [.int (iI z1427), .int (iI ((z1025 * 9) + z1373)), .ref w0] S g1374 0 0 := by
                intro z1427 lz1427 uz1427
                refine X_iast hK hs_w0 ⟨by decide, by decide, by decide, by omega⟩ (by decide) sl_13400 (by omega) (by omega) (by omega) (by omega) kd36_7.2.2.2.2.2.2.2.2.2.2.1 (fun g1429 hg1429 => ?_)
                refine X_iinc hK (i := 3) (z := z1373) (n := 1) 0 [(3, .int (iI (z1373 + 1))), (2, .int (iI z1025)), (0, .ref a0), (1, .ref a1)] kd36_7.2.2.2.2.2.2.2.2.2.2.2 rfl (by decide) rfl ?_
                refine X_goto hK 14 kd36_8.1 (by decide) ?_
                exact ihP1404  g1429 (xM_ua (xM.tr xM.rf xLe.rf hg1374 (by decide)) hg1429 hs_w0 (by decide) (by decide)) (z1373 + 1) (by omega) (by omega) (by omega)
              refine X_icmp_ne hK 51 (by omega) (by omega) kd36_7.2.2.1 (by decide) (fun c1422 => ?_) (fun c1422 => ?_)
              · refine X_ldc hK (n := 1000000) kd36_7.2.2.2.2.2.2.2.2.2.1 m_53_22 (by decide) ?_
                exact J1428 1000000 (by omega) (by omega)
              · refine X_aloadn hK (i := 0) 2 kd36_7.2.2.2.1 rfl rfl ?_
                refine X_aloadn hK (i := 1) 3 kd36_7.2.2.2.2.1 rfl rfl ?_
                refine X_iloadn hK (i := 2) 1 kd36_7.2.2.2.2.2.1 rfl rfl ?_
                refine X_iloadn hK (i := 3) 0 kd36_7.2.2.2.2.2.2.1 rfl rfl ?_
                refine X_callV hK [.ref a1, .int (iI z1025), .int (iI z1373)] [.int (iI ((z1025 * 9) + z1373)), .ref w0] lk_X8_58 (c_soonestAt_6 _ _ _ _ _ S g1374 a0 a1 z1025 z1373 n0 w0 nw0 hs_a0 hs_a1 (by omega) (by omega) (by omega) ((hg1374 a0 9 0 4 hs_a0 (by decide)).trans ((hg1026 a0 9 0 4 hs_a0 (by decide)).trans en0)) ((hg1374 a0 9 0 3 hs_a0 (by decide)).trans ((hg1026 a0 9 0 3 hs_a0 (by decide)).trans ew0)) hs_w0 (by omega) (by omega)) hs_a0 ⟨by decide, rfl⟩ kd36_7.2.2.2.2.2.2.2.1 rfl rfl (by simp [Value.category]) (by decide) (by decide) (by decide) (by decide) (fun r1430 S1432 g1431 pr1430 qr1430 hg1431 => ?_)
                obtain ⟨rfl, rfl, z1433, rfl, lz1433, uz1433⟩ := pr1430
                refine X_st [.int (iI z1433), .int (iI ((z1025 * 9) + z1373)), .ref w0] rfl ?_
                refine X_goto hK 53 kd36_7.2.2.2.2.2.2.2.2.1 (by decide) ?_
                exact J1428 z1433 (by omega) (by omega)
        exact P1404 ((22 - 0 : Int).toNat + 1) g1026 xM.rf 0 (by omega) (by omega) (by omega)
  exact P1230 ((80 - 1 : Int).toNat + 1) g xM.rf 1 (by omega) (by omega) (by omega)

set_option maxHeartbeats 4000000 in
set_option maxRecDepth 100000 in
theorem c_firstAtEnd_6 (l : Launch) (D : va_G) (kA : Nat → ClassId) (b0 : Nat) (t0 : Nat → Nat) (S : xT) (g : xG) (a0 : Nat) (n0 : Int) (w0 nw0 : Nat) (hs_a0 : S a0 = some (9, 0)) (hn0 : 6 ≤ n0 ∧ n0 ≤ 6) (en0 : g a0 4 = .int (iI n0)) (ew0 : g a0 3 = .ref w0) (hs_w0 : S w0 = some (13400, nw0)) (hp0 : 576 ≤ (nw0 : Int)) (hp1 : (nw0 : Int) ≤ 2147483647) : xMt l yX8_firstAtEnd cX8_firstAtEnd 4 (some .int) 1 0 0 13 D kA b0 t0 [] [.ref a0] S g (fun (r : Option Value) (S1 : xT) (g1 : xG) => S = S1 ∧ g = g1 ∧ ∃ z : Int, r = some (.int (iI z)) ∧ (-2147483648) ≤ z ∧ z ≤ 1000000) := by
  refine xEnterI (by decide) (by simp [lg_sl, Value.category]) [(0, .ref a0)] rfl ?_
  intro K E hK hret _ _ _
  refine X_iconst hK kd36_8.2.2.2.2.1 ?_
  refine X_aloadn hK (i := 0) 0 kd36_8.2.2.2.2.2.1 rfl rfl ?_
  refine X_getK hK fl_X8_24_9 hs_a0 en0 kd36_8.2.2.2.2.2.2.1 ?_
  refine X_ishl hK kd36_8.2.2.2.2.2.2.2.1 (fun z1 ez1 lz1 uz1 => ?_)
  have bz1 := xshlB 6 ez1 ⟨lz1, uz1⟩ (by omega) (by decide)
  refine X_iconst hK kd36_8.2.2.2.2.2.2.2.2.1 ?_
  refine X_isub hK kd36_8.2.2.2.2.2.2.2.2.2.1 ?_
  refine X_istoren hK (i := 1) [(1, .int (iI (z1 - 1))), (0, .ref a0)] kd36_8.2.2.2.2.2.2.2.2.2.2.1 rfl (by decide) rfl ?_
  refine X_ldc hK (n := 1000000) kd36_8.2.2.2.2.2.2.2.2.2.2.2 m_53_22 (by decide) ?_
  refine X_istoren hK (i := 2) [(2, .int (iI 1000000)), (1, .int (iI (z1 - 1))), (0, .ref a0)] kd36_9.1 rfl (by decide) rfl ?_
  refine X_iconst hK kd36_9.2.1 ?_
  refine X_istoren hK (i := 3) [(3, .int (iI 0)), (2, .int (iI 1000000)), (1, .int (iI (z1 - 1))), (0, .ref a0)] kd36_9.2.2.1 rfl (by decide) rfl ?_
  have P32 : ∀ (nP32 : Nat) (z27 : Int) (_ : 0 ≤ z27) (_ : z27 ≤ 6) (z28 : Int) (_ : (-2147483648) ≤ z28) (_ : z28 ≤ 1000000) (_ : 22 - z27 < (nP32 : Int)), X K E 14 [(3, .int (iI z27)), (2, .int (iI z28)), (1, .int (iI (z1 - 1))), (0, .ref a0)] [] S g 0 0 := by
    intro nP32
    induction nP32 with
    | zero => intro z27 lz27 uz27 z28 lz28 uz28 mP32; exact False.elim (by omega)
    | succ nP32 ihP32 =>
      intro z27 lz27 uz27 z28 lz28 uz28 mP32
      refine X_iloadn hK (i := 3) 0 kd36_9.2.2.2.1 rfl rfl ?_
      refine X_aloadn hK (i := 0) 3 kd36_9.2.2.2.2.1 rfl rfl ?_
      refine X_getK hK fl_X8_24_9 hs_a0 en0 kd36_9.2.2.2.2.2.1 ?_
      refine X_icmp_ge hK 44 (by omega) (by omega) kd36_9.2.2.2.2.2.2.1 (by decide) (fun c33 => ?_) (fun c33 => ?_)
      · refine X_iloadn hK (i := 2) 1 kd36_10.2.2.2.2.2.2.2.2.1 rfl rfl ?_
        exact hret _ _ _ _ _ _ _ kd36_10.2.2.2.2.2.2.2.2.2.1 ⟨rfl, rfl, z28, rfl, (by omega), (by omega)⟩ (Nat.le_refl _) (Nat.le_refl _)
      · refine X_iloadn hK (i := 2) 1 kd36_9.2.2.2.2.2.2.2.1 rfl rfl ?_
        refine X_aloadn hK (i := 0) 3 kd36_9.2.2.2.2.2.2.2.2.1 rfl rfl ?_
        refine X_getK hK fl_X8_21_9 hs_a0 ew0 kd36_9.2.2.2.2.2.2.2.2.2.1 ?_
        refine X_iloadn hK (i := 1) 2 kd36_9.2.2.2.2.2.2.2.2.2.2.1 rfl rfl ?_
        refine X_bipush hK kd36_9.2.2.2.2.2.2.2.2.2.2.2 (by decide) ?_
        refine X_imul hK kd36_10.1 ?_
        refine X_iloadn hK (i := 3) 0 kd36_10.2.1 rfl rfl ?_
        refine X_iadd hK kd36_10.2.2.1 ?_
        refine X_iald hK hs_w0 ⟨by decide, by decide, by omega⟩ sl_13400 (by omega) (by omega) kd36_10.2.2.2.1 (fun z34 ez34 lz34 uz34 => ?_)
        refine X_mmin hK mm_X8_68 ⟨by decide, by simp [Value.category]⟩ (by decide) (by omega) (by omega) kd36_10.2.2.2.2.1 (fun z35 ez35 fz35 => ?_)
        have bz35 : (-2147483648) ≤ z35 ∧ z35 ≤ 1000000 := by omega
        refine X_istoren hK (i := 2) [(2, .int (iI z35)), (3, .int (iI z27)), (1, .int (iI (z1 - 1))), (0, .ref a0)] kd36_10.2.2.2.2.2.1 rfl (by decide) rfl ?_
        refine X_iinc hK (i := 3) (z := z27) (n := 1) 1 [(3, .int (iI (z27 + 1))), (2, .int (iI z35)), (1, .int (iI (z1 - 1))), (0, .ref a0)] kd36_10.2.2.2.2.2.2.1 rfl (by decide) rfl ?_
        refine X_goto hK 14 kd36_10.2.2.2.2.2.2.2.1 (by decide) ?_
        exact ihP32  (z27 + 1) (by omega) (by omega) z35 (by omega) (by omega) (by omega)
  exact P32 ((22 - 0 : Int).toNat + 1) 0 (by omega) (by omega) 1000000 (by omega) (by omega) (by omega)

set_option maxHeartbeats 4000000 in
set_option maxRecDepth 100000 in
theorem c_nextOf_6 (l : Launch) (D : va_G) (kA : Nat → ClassId) (b0 : Nat) (t0 : Nat → Nat) (S : xT) (g : xG) (a0 : Nat) (a1 : Nat) (x2 : Int) (x3 : Int) (n0 : Int) (w0 nw0 : Nat) (hs_a0 : S a0 = some (9, 0)) (hs_a1 : S a1 = some (4, 0)) (hx2 : 1 ≤ x2 ∧ x2 ≤ 63) (hx3 : 0 ≤ x3 ∧ x3 ≤ 5) (hn0 : 6 ≤ n0 ∧ n0 ≤ 6) (en0 : g a0 4 = .int (iI n0)) (ew0 : g a0 3 = .ref w0) (hs_w0 : S w0 = some (13400, nw0)) (hp0 : 576 ≤ (nw0 : Int)) (hp1 : (nw0 : Int) ≤ 2147483647) : xMt l yX8_nextOf cX8_nextOf 7 (some .int) 0 0 0 0 D kA b0 t0 [] [.ref a0, .ref a1, .int (iI x2), .int (iI x3)] S g (fun (r : Option Value) (S1 : xT) (g1 : xG) => S = S1 ∧ g = g1 ∧ ∃ z : Int, r = some (.int (iI z)) ∧ (-1) ≤ z ∧ z ≤ 5) := by
  refine xEnterI (by decide) (by simp [lg_sl, Value.category]) [(0, .ref a0), (1, .ref a1), (2, .int (iI x2)), (3, .int (iI x3))] rfl ?_
  intro K E hK hret _ _ _
  refine X_aloadn hK (i := 0) 0 kd36_10.2.2.2.2.2.2.2.2.2.2.1 rfl rfl ?_
  refine X_getK hK fl_X8_21_9 hs_a0 ew0 kd36_10.2.2.2.2.2.2.2.2.2.2.2 ?_
  refine X_iloadn hK (i := 2) 2 kd36_11.1 rfl rfl ?_
  refine X_bipush hK kd36_11.2.1 (by decide) ?_
  refine X_imul hK kd36_11.2.2.1 ?_
  refine X_iloadn hK (i := 3) 3 kd36_11.2.2.2.1 rfl rfl ?_
  refine X_iadd hK kd36_11.2.2.2.2.1 ?_
  refine X_iald hK hs_w0 ⟨by decide, by decide, by omega⟩ sl_13400 (by omega) (by omega) kd36_11.2.2.2.2.2.1 (fun z1 ez1 lz1 uz1 => ?_)
  refine X_istore hK (i := 4) [(4, .int (iI z1)), (0, .ref a0), (1, .ref a1), (2, .int (iI x2)), (3, .int (iI x3))] kd36_11.2.2.2.2.2.2.1 (by decide) rfl ?_
  refine X_iconst hK kd36_11.2.2.2.2.2.2.2.1 ?_
  refine X_istore hK (i := 5) [(5, .int (iI 0)), (4, .int (iI z1)), (0, .ref a0), (1, .ref a1), (2, .int (iI x2)), (3, .int (iI x3))] kd36_11.2.2.2.2.2.2.2.2.1 (by decide) rfl ?_
  have P104 : ∀ (nP104 : Nat) (z87 : Int) (_ : 0 ≤ z87) (_ : z87 ≤ 6) (_ : 22 - z87 < (nP104 : Int)), X K E 16 [(5, .int (iI z87)), (4, .int (iI z1)), (0, .ref a0), (1, .ref a1), (2, .int (iI x2)), (3, .int (iI x3))] [] S g 0 0 := by
    intro nP104
    induction nP104 with
    | zero => intro z87 lz87 uz87 mP104; exact False.elim (by omega)
    | succ nP104 ihP104 =>
      intro z87 lz87 uz87 mP104
      refine X_iload hK (i := 5) 0 kd36_11.2.2.2.2.2.2.2.2.2.1 rfl ?_
      refine X_aloadn hK (i := 0) 2 kd36_11.2.2.2.2.2.2.2.2.2.2.1 rfl rfl ?_
      refine X_getK hK fl_X8_24_9 hs_a0 en0 kd36_11.2.2.2.2.2.2.2.2.2.2.2 ?_
      refine X_icmp_ge hK 96 (by omega) (by omega) kd36_12.1 (by decide) (fun c105 => ?_) (fun c105 => ?_)
      · refine X_iconst hK kd36_15.2.2.2.2.2.2.2.1 ?_
        exact hret _ _ _ _ _ _ _ kd36_15.2.2.2.2.2.2.2.2.1 ⟨rfl, rfl, (-1), rfl, (by omega), (by omega)⟩ (Nat.le_refl _) (Nat.le_refl _)
      · refine X_iload hK (i := 4) 1 kd36_12.2.1 rfl ?_
        refine X_ldc hK (n := 1000000) kd36_12.2.2.1 m_53_22 (by decide) ?_
        refine X_icmp_eq hK 96 (by omega) (by omega) kd36_12.2.2.2.1 (by decide) (fun c106 => ?_) (fun c106 => ?_)
        · refine X_iconst hK kd36_15.2.2.2.2.2.2.2.1 ?_
          exact hret _ _ _ _ _ _ _ kd36_15.2.2.2.2.2.2.2.2.1 ⟨rfl, rfl, (-1), rfl, (by omega), (by omega)⟩ (Nat.le_refl _) (Nat.le_refl _)
        · refine X_iload hK (i := 4) 1 kd36_12.2.2.2.2.1 rfl ?_
          refine X_aloadn hK (i := 1) 3 kd36_12.2.2.2.2.2.1 rfl rfl ?_
          refine X_getr hK 11604 10 fl_X8_62_4 hs_a1 sl_4_6 kd36_12.2.2.2.2.2.2.1 (fun b107 eb107 hs_b107 => ?_)
          refine X_aloadn hK (i := 0) 2 kd36_12.2.2.2.2.2.2.2.1 rfl rfl ?_
          refine X_getr hK 13100 9 fl_X8_11_9 hs_a0 sl_9_0 kd36_12.2.2.2.2.2.2.2.2.1 (fun b108 eb108 hs_b108 => ?_)
          refine X_iloadn hK (i := 3) 5 kd36_12.2.2.2.2.2.2.2.2.2.1 rfl rfl ?_
          refine X_iald hK hs_b108 (by decide) sl_13100 (by omega) (by omega) kd36_12.2.2.2.2.2.2.2.2.2.2.1 (fun z109 ez109 lz109 uz109 => ?_)
          refine X_aald hK 11500 10 hs_b107 (by decide) sl_11604 (by omega) (by omega) kd36_12.2.2.2.2.2.2.2.2.2.2.2 (fun b110 eb110 hs_b110 => ?_)
          refine X_aloadn hK (i := 0) 2 kd36_13.1 rfl rfl ?_
          refine X_getK hK fl_X8_11_9 hs_a0 eb108 kd36_13.2.1 ?_
          refine X_iload hK (i := 5) 0 kd36_13.2.2.1 rfl ?_
          refine X_iald hK hs_b108 (by decide) sl_13100 (by omega) (by omega) kd36_13.2.2.2.1 (fun z111 ez111 lz111 uz111 => ?_)
          refine X_iald hK hs_b110 (by decide) sl_11500 (by omega) (by omega) kd36_13.2.2.2.2.1 (fun z112 ez112 lz112 uz112 => ?_)
          refine X_iadd hK kd36_13.2.2.2.2.2.1 ?_
          refine X_norm (fun z113 ez113 lz113 uz113 => ?_)
          refine X_istore hK (i := 6) [(6, .int (iI z113)), (5, .int (iI z87)), (4, .int (iI z1)), (0, .ref a0), (1, .ref a1), (2, .int (iI x2)), (3, .int (iI x3))] kd36_13.2.2.2.2.2.2.1 (by decide) rfl ?_
          refine X_iloadn hK (i := 2) 5 kd36_13.2.2.2.2.2.2.2.1 rfl rfl ?_
          refine X_iload hK (i := 5) 1 kd36_13.2.2.2.2.2.2.2.2.1 rfl ?_
          refine X_ishr hK kd36_13.2.2.2.2.2.2.2.2.2.1 (fun z114 ez114 lz114 uz114 => ?_)
          refine X_iconst hK kd36_13.2.2.2.2.2.2.2.2.2.2.1 ?_
          refine X_iand hK kd36_13.2.2.2.2.2.2.2.2.2.2.2 (fun z115 ez115 lz115 uz115 => ?_)
          have bz115 := xandB ez115 ⟨lz115, uz115⟩ (by omega)
          refine X_if_ne hK 90 (by omega) kd36_14.1 (by decide) (fun c116 => ?_) (fun c116 => ?_)
          · refine X_iinc hK (i := 5) (z := z87) (n := 1) 1 [(5, .int (iI (z87 + 1))), (6, .int (iI z113)), (4, .int (iI z1)), (0, .ref a0), (1, .ref a1), (2, .int (iI x2)), (3, .int (iI x3))] kd36_15.2.2.2.2.2.1 rfl (by decide) rfl ?_
            refine X_goto hK 16 kd36_15.2.2.2.2.2.2.1 (by decide) ?_
            refine X_lv [(5, .int (iI (z87 + 1))), (4, .int (iI z1)), (0, .ref a0), (1, .ref a1), (2, .int (iI x2)), (3, .int (iI x3))] [0, 2, 3, 4, 5, 6] rfl ?_
            exact ihP104  (z87 + 1) (by omega) (by omega) (by omega)
          · refine X_aloadn hK (i := 0) 3 kd36_14.2.1 rfl rfl ?_
            refine X_getK hK fl_X8_21_9 hs_a0 ew0 kd36_14.2.2.1 ?_
            refine X_iloadn hK (i := 2) 5 kd36_14.2.2.2.1 rfl rfl ?_
            refine X_iconst hK kd36_14.2.2.2.2.1 ?_
            refine X_iload hK (i := 5) 1 kd36_14.2.2.2.2.2.1 rfl ?_
            refine X_ishl hK kd36_14.2.2.2.2.2.2.1 (fun z117 ez117 lz117 uz117 => ?_)
            have bz117 := xshlB 5 ez117 ⟨lz117, uz117⟩ (by omega) (by decide)
            refine X_ior hK kd36_14.2.2.2.2.2.2.2.1 (fun z118 ez118 lz118 uz118 => ?_)
            have bz118 := xiorB 6 ez118 ⟨lz118, uz118⟩ (by omega) (by omega) (by decide)
            refine X_bipush hK kd36_14.2.2.2.2.2.2.2.2.1 (by decide) ?_
            refine X_imul hK kd36_14.2.2.2.2.2.2.2.2.2.1 ?_
            refine X_iload hK (i := 5) 1 kd36_14.2.2.2.2.2.2.2.2.2.2.1 rfl ?_
            refine X_iadd hK kd36_14.2.2.2.2.2.2.2.2.2.2.2 ?_
            refine X_iald hK hs_w0 ⟨by decide, by decide, by omega⟩ sl_13400 (by omega) (by omega) kd36_15.1 (fun z119 ez119 lz119 uz119 => ?_)
            refine X_iload hK (i := 6) 0 kd36_15.2.1 rfl ?_
            refine X_icmp_ne hK 90 (by omega) (by omega) kd36_15.2.2.1 (by decide) (fun c120 => ?_) (fun c120 => ?_)
            · refine X_iinc hK (i := 5) (z := z87) (n := 1) 1 [(5, .int (iI (z87 + 1))), (6, .int (iI z113)), (4, .int (iI z1)), (0, .ref a0), (1, .ref a1), (2, .int (iI x2)), (3, .int (iI x3))] kd36_15.2.2.2.2.2.1 rfl (by decide) rfl ?_
              refine X_goto hK 16 kd36_15.2.2.2.2.2.2.1 (by decide) ?_
              refine X_lv [(5, .int (iI (z87 + 1))), (4, .int (iI z1)), (0, .ref a0), (1, .ref a1), (2, .int (iI x2)), (3, .int (iI x3))] [0, 2, 3, 4, 5, 6] rfl ?_
              exact ihP104  (z87 + 1) (by omega) (by omega) (by omega)
            · refine X_iload hK (i := 5) 1 kd36_15.2.2.2.1 rfl ?_
              exact hret _ _ _ _ _ _ _ kd36_15.2.2.2.2.1 ⟨rfl, rfl, z87, rfl, (by omega), (by omega)⟩ (Nat.le_refl _) (Nat.le_refl _)
  exact P104 ((22 - 0 : Int).toNat + 1) 0 (by omega) (by omega) (by omega)

set_option maxHeartbeats 4000000 in
set_option maxRecDepth 100000 in
theorem c_dropOthers_6 (l : Launch) (D : va_G) (kA : Nat → ClassId) (b0 : Nat) (t0 : Nat → Nat) (S : xT) (g : xG) (a0 : Nat) (a1 : Nat) (x2 : Int) (n0 : Int) (w0 nw0 : Nat) (hs_a0 : S a0 = some (9, 0)) (hs_a1 : S a1 = some (4, 0)) (hx2 : (-2147483648) ≤ x2 ∧ x2 ≤ 2147483647) (hn0 : 6 ≤ n0 ∧ n0 ≤ 6) (en0 : g a0 4 = .int (iI n0)) (ew0 : g a0 3 = .ref w0) (hs_w0 : S w0 = some (13400, nw0)) (hp0 : 576 ≤ (nw0 : Int)) (hp1 : (nw0 : Int) ≤ 2147483647) : xMt l yX8_dropOthers cX8_dropOthers 8 none 1 0 0 26 D kA b0 t0 [(13400, 0)] [.ref a0, .ref a1, .int (iI x2)] S g (fun (r : Option Value) (S1 : xT) (g1 : xG) => S = S1 ∧ r = none) := by
  refine xEnterV (by decide) (by simp [lg_sl, Value.category]) [(0, .ref a0), (1, .ref a1), (2, .int (iI x2))] rfl ?_
  intro K E hK hret _ _ _
  refine X_iconst hK kd36_0.1 ?_
  refine X_aloadn hK (i := 0) 0 kd36_0.2.1 rfl rfl ?_
  refine X_getK hK fl_X8_24_9 hs_a0 en0 kd36_0.2.2.1 ?_
  refine X_ishl hK kd36_0.2.2.2.1 (fun z1 ez1 lz1 uz1 => ?_)
  have bz1 := xshlB 6 ez1 ⟨lz1, uz1⟩ (by omega) (by decide)
  refine X_iconst hK kd36_0.2.2.2.2.1 ?_
  refine X_isub hK kd36_0.2.2.2.2.2.1 ?_
  refine X_istoren hK (i := 3) [(3, .int (iI (z1 - 1))), (0, .ref a0), (1, .ref a1), (2, .int (iI x2))] kd36_0.2.2.2.2.2.2.1 rfl (by decide) rfl ?_
  refine X_iloadn hK (i := 3) 0 kd36_0.2.2.2.2.2.2.2.1 rfl rfl ?_
  refine X_istore hK (i := 4) [(4, .int (iI (z1 - 1))), (3, .int (iI (z1 - 1))), (0, .ref a0), (1, .ref a1), (2, .int (iI x2))] kd36_0.2.2.2.2.2.2.2.2.1 (by decide) rfl ?_
  have P1541 : ∀ (nP1541 : Nat) (g1234 : xG) (_ : xM [(13400, 0)] S g g1234) (z1233 : Int) (_ : 0 ≤ z1233) (_ : z1233 ≤ 63) (_ : z1233 - (-16) < (nP1541 : Int)), X K E 12 [(4, .int (iI z1233)), (3, .int (iI (z1 - 1))), (0, .ref a0), (1, .ref a1), (2, .int (iI x2))] [] S g1234 0 0 := by
    intro nP1541
    induction nP1541 with
    | zero => intro g1234 hg1234 z1233 lz1233 uz1233 mP1541; exact False.elim (by omega)
    | succ nP1541 ihP1541 =>
      intro g1234 hg1234 z1233 lz1233 uz1233 mP1541
      refine X_iload hK (i := 4) 0 kd36_0.2.2.2.2.2.2.2.2.2.1 rfl ?_
      refine X_if_le hK 110 (by omega) kd36_0.2.2.2.2.2.2.2.2.2.2.1 (by decide) (fun c1542 => ?_) (fun c1542 => ?_)
      · exact hret _ _ _ _ _ _ kd36_4.2.2.2.2.2.2.2.2.2.2.1 ⟨rfl, rfl⟩ (Nat.le_refl _) (Nat.le_refl _)
      · refine X_iconst hK kd36_0.2.2.2.2.2.2.2.2.2.2.2 ?_
        refine X_istore hK (i := 5) [(5, .int (iI 0)), (4, .int (iI z1233)), (3, .int (iI (z1 - 1))), (0, .ref a0), (1, .ref a1), (2, .int (iI x2))] kd36_1.1 (by decide) rfl ?_
        have P1802 : ∀ (nP1802 : Nat) (g1756 : xG) (_ : xM [(13400, 0)] S g1234 g1756) (z1755 : Int) (_ : 0 ≤ z1755) (_ : z1755 ≤ 6) (_ : 22 - z1755 < (nP1802 : Int)), X K E 20 [(5, .int (iI z1755)), (4, .int (iI z1233)), (3, .int (iI (z1 - 1))), (0, .ref a0), (1, .ref a1), (2, .int (iI x2))] [] S g1756 0 0 := by
          intro nP1802
          induction nP1802 with
          | zero => intro g1756 hg1756 z1755 lz1755 uz1755 mP1802; exact False.elim (by omega)
          | succ nP1802 ihP1802 =>
            intro g1756 hg1756 z1755 lz1755 uz1755 mP1802
            refine X_iload hK (i := 5) 0 kd36_1.2.1 rfl ?_
            refine X_aloadn hK (i := 0) 3 kd36_1.2.2.1 rfl rfl ?_
            refine X_getK hK fl_X8_24_9 hs_a0 ((hg1756 a0 9 0 4 hs_a0 (by decide)).trans ((hg1234 a0 9 0 4 hs_a0 (by decide)).trans en0)) kd36_1.2.2.2.1 ?_
            refine X_icmp_ge hK 104 (by omega) (by omega) kd36_1.2.2.2.2.1 (by decide) (fun c1803 => ?_) (fun c1803 => ?_)
            · refine X_iinc hK (i := 4) (z := z1233) (n := (-1)) 1 [(4, .int (iI (z1233 + (-1)))), (5, .int (iI z1755)), (3, .int (iI (z1 - 1))), (0, .ref a0), (1, .ref a1), (2, .int (iI x2))] kd36_4.2.2.2.2.2.2.2.2.1 rfl (by decide) rfl ?_
              refine X_goto hK 12 kd36_4.2.2.2.2.2.2.2.2.2.1 (by decide) ?_
              refine X_lv [(4, .int (iI (z1233 + (-1)))), (3, .int (iI (z1 - 1))), (0, .ref a0), (1, .ref a1), (2, .int (iI x2))] [0, 2, 3, 4, 5] rfl ?_
              exact ihP1541  g1756 (xM.tr (xM.tr xM.rf xLe.rf hg1234 (by decide)) xLe.rf hg1756 (by decide)) (z1233 + (-1)) (by omega) (by omega) (by omega)
            · refine X_iload hK (i := 4) 1 kd36_1.2.2.2.2.2.1 rfl ?_
              refine X_bipush hK kd36_1.2.2.2.2.2.2.1 (by decide) ?_
              refine X_imul hK kd36_1.2.2.2.2.2.2.2.1 ?_
              refine X_iload hK (i := 5) 0 kd36_1.2.2.2.2.2.2.2.2.1 rfl ?_
              refine X_iadd hK kd36_1.2.2.2.2.2.2.2.2.2.1 ?_
              refine X_istore hK (i := 6) [(6, .int (iI ((z1233 * 9) + z1755))), (5, .int (iI z1755)), (4, .int (iI z1233)), (3, .int (iI (z1 - 1))), (0, .ref a0), (1, .ref a1), (2, .int (iI x2))] kd36_1.2.2.2.2.2.2.2.2.2.2.1 (by decide) rfl ?_
              refine X_iload hK (i := 4) 2 kd36_1.2.2.2.2.2.2.2.2.2.2.2 rfl ?_
              refine X_iloadn hK (i := 3) 3 kd36_2.1 rfl rfl ?_
              have J1835 : ∀ (z1834 : Int) (lz1834 : 0 ≤ z1834) (uz1834 : z1834 ≤ 1), X K E 82 [(6, .int (iI ((z1233 * 9) + z1755))), (5, .int (iI z1755)), (4, .int (iI z1233)), (3, .int (iI (z1 - 1))), (0, .ref a0), (1, .ref a1), (2, .int (iI x2))] [.int (iI z1834)] S g1756 0 0 := by
                intro z1834 lz1834 uz1834
                refine X_istore hK (i := 7) [(7, .int (iI z1834)), (6, .int (iI ((z1233 * 9) + z1755))), (5, .int (iI z1755)), (4, .int (iI z1233)), (3, .int (iI (z1 - 1))), (0, .ref a0), (1, .ref a1), (2, .int (iI x2))] kd36_3.2.2.2.2.2.2.2.2.2.2.1 (by decide) rfl ?_
                refine X_iload hK (i := 7) 0 kd36_3.2.2.2.2.2.2.2.2.2.2.2 rfl ?_
                have J1838 : ∀ (g1839 : xG) (hg1839 : xM [(13400, 0)] S g1756 g1839), X K E 98 [(7, .int (iI z1834)), (6, .int (iI ((z1233 * 9) + z1755))), (5, .int (iI z1755)), (4, .int (iI z1233)), (3, .int (iI (z1 - 1))), (0, .ref a0), (1, .ref a1), (2, .int (iI x2))] [] S g1839 0 0 := by
                  intro g1839 hg1839
                  refine X_iinc hK (i := 5) (z := z1755) (n := 1) 2 [(5, .int (iI (z1755 + 1))), (7, .int (iI z1834)), (6, .int (iI ((z1233 * 9) + z1755))), (4, .int (iI z1233)), (3, .int (iI (z1 - 1))), (0, .ref a0), (1, .ref a1), (2, .int (iI x2))] kd36_4.2.2.2.2.2.2.1 rfl (by decide) rfl ?_
                  refine X_goto hK 20 kd36_4.2.2.2.2.2.2.2.1 (by decide) ?_
                  refine X_lv [(5, .int (iI (z1755 + 1))), (4, .int (iI z1233)), (3, .int (iI (z1 - 1))), (0, .ref a0), (1, .ref a1), (2, .int (iI x2))] [0, 3, 4, 5, 6, 7] rfl ?_
                  exact ihP1802  g1839 (xM.tr (xM.tr xM.rf xLe.rf hg1756 (by decide)) xLe.rf hg1839 (by decide)) (z1755 + 1) (by omega) (by omega) (by omega)
                refine X_if_ne hK 98 (by omega) kd36_4.1 (by decide) (fun c1836 => ?_) (fun c1836 => ?_)
                · exact J1838 g1756 xM.rf
                · refine X_aloadn hK (i := 0) 5 kd36_4.2.1 rfl rfl ?_
                  refine X_getK hK fl_X8_21_9 hs_a0 ((hg1756 a0 9 0 3 hs_a0 (by decide)).trans ((hg1234 a0 9 0 3 hs_a0 (by decide)).trans ew0)) kd36_4.2.2.1 ?_
                  refine X_iload hK (i := 6) 1 kd36_4.2.2.2.1 rfl ?_
                  refine X_ldc hK (n := 1000000) kd36_4.2.2.2.2.1 m_53_22 (by decide) ?_
                  refine X_iast hK hs_w0 ⟨by decide, by decide, by decide, by omega⟩ (by decide) sl_13400 (by omega) (by omega) (by omega) (by omega) kd36_4.2.2.2.2.2.1 (fun g1840 hg1840 => ?_)
                  exact J1838 g1840 (xM_ua xM.rf hg1840 hs_w0 (by decide) (by decide))
              refine X_icmp_ne hK 64 (by omega) (by omega) kd36_2.2.1 (by decide) (fun c1826 => ?_) (fun c1826 => ?_)
              · refine X_aloadn hK (i := 0) 4 kd36_3.1 rfl rfl ?_
                refine X_aloadn hK (i := 1) 5 kd36_3.2.1 rfl rfl ?_
                refine X_iload hK (i := 4) 2 kd36_3.2.2.1 rfl ?_
                refine X_iload hK (i := 5) 1 kd36_3.2.2.2.1 rfl ?_
                refine X_callV hK [.ref a1, .int (iI z1233), .int (iI z1755)] [] lk_X8_74 (c_nextOf_6 _ _ _ _ _ S g1756 a0 a1 z1233 z1755 n0 w0 nw0 hs_a0 hs_a1 (by omega) (by omega) (by omega) ((hg1756 a0 9 0 4 hs_a0 (by decide)).trans ((hg1234 a0 9 0 4 hs_a0 (by decide)).trans en0)) ((hg1756 a0 9 0 3 hs_a0 (by decide)).trans ((hg1234 a0 9 0 3 hs_a0 (by decide)).trans ew0)) hs_w0 (by omega) (by omega)) hs_a0 ⟨by decide, rfl⟩ kd36_3.2.2.2.2.1 rfl rfl (by simp [Value.category]) (by decide) (by decide) (by decide) (by decide) (fun r1841 S1843 g1842 pr1841 qr1841 hg1842 => ?_)
                obtain ⟨rfl, rfl, z1844, rfl, lz1844, uz1844⟩ := pr1841
                refine X_st [.int (iI z1844)] rfl ?_
                refine X_iconst hK kd36_3.2.2.2.2.2.1 ?_
                refine X_icmp_eq hK 81 (by omega) (by omega) kd36_3.2.2.2.2.2.2.1 (by decide) (fun c1845 => ?_) (fun c1845 => ?_)
                · refine X_iconst hK kd36_3.2.2.2.2.2.2.2.2.2.1 ?_
                  exact J1835 0 (by omega) (by omega)
                · refine X_iconst hK kd36_3.2.2.2.2.2.2.2.1 ?_
                  refine X_goto hK 82 kd36_3.2.2.2.2.2.2.2.2.1 (by decide) ?_
                  exact J1835 1 (by omega) (by omega)
              · refine X_aloadn hK (i := 0) 4 kd36_2.2.2.1 rfl rfl ?_
                refine X_getK hK fl_X8_21_9 hs_a0 ((hg1756 a0 9 0 3 hs_a0 (by decide)).trans ((hg1234 a0 9 0 3 hs_a0 (by decide)).trans ew0)) kd36_2.2.2.2.1 ?_
                refine X_iload hK (i := 6) 0 kd36_2.2.2.2.2.1 rfl ?_
                refine X_iald hK hs_w0 ⟨by decide, by decide, by omega⟩ sl_13400 (by omega) (by omega) kd36_2.2.2.2.2.2.1 (fun z1846 ez1846 lz1846 uz1846 => ?_)
                refine X_iloadn hK (i := 2) 6 kd36_2.2.2.2.2.2.2.1 rfl rfl ?_
                refine X_icmp_ne hK 60 (by omega) (by omega) kd36_2.2.2.2.2.2.2.2.1 (by decide) (fun c1847 => ?_) (fun c1847 => ?_)
                · refine X_iconst hK kd36_2.2.2.2.2.2.2.2.2.2.2.1 ?_
                  refine X_goto hK 82 kd36_2.2.2.2.2.2.2.2.2.2.2.2 (by decide) ?_
                  exact J1835 0 (by omega) (by omega)
                · refine X_iconst hK kd36_2.2.2.2.2.2.2.2.2.1 ?_
                  refine X_goto hK 82 kd36_2.2.2.2.2.2.2.2.2.2.1 (by decide) ?_
                  exact J1835 1 (by omega) (by omega)
        exact P1802 ((22 - 0 : Int).toNat + 1) g1234 xM.rf 0 (by omega) (by omega) (by omega)
  exact P1541 (((z1 - 1) - (-16) : Int).toNat + 1) g xM.rf (z1 - 1) (by omega) (by omega) (by omega)

set_option maxHeartbeats 4000000 in
set_option maxRecDepth 100000 in
theorem c_walk_6 (l : Launch) (D : va_G) (kA : Nat → ClassId) (b0 : Nat) (t0 : Nat → Nat) (S : xT) (g : xG) (a0 : Nat) (a1 : Nat) (n0 : Int) (w0 nw0 : Nat) (hs_a0 : S a0 = some (9, 0)) (hs_a1 : S a1 = some (4, 0)) (hn0 : 6 ≤ n0 ∧ n0 ≤ 6) (en0 : g a0 4 = .int (iI n0)) (ew0 : g a0 3 = .ref w0) (hs_w0 : S w0 = some (13400, nw0)) (hp0 : 576 ≤ (nw0 : Int)) (hp1 : (nw0 : Int) ≤ 2147483647) : xMt l yX8_walk cX8_walk 5 none 1 0 0 26 D kA b0 t0 [(9, 5), (13300, 0)] [.ref a0, .ref a1] S g (fun (r : Option Value) (S1 : xT) (g1 : xG) => S = S1 ∧ r = none) := by
  refine xEnterV (by decide) (by simp [lg_sl, Value.category]) [(0, .ref a0), (1, .ref a1)] rfl ?_
  intro K E hK hret _ _ _
  refine X_iconst hK kd36_20.2.2.2.2.2.2.2.2.2.1 ?_
  refine X_istoren hK (i := 2) [(2, .int (iI (-1))), (0, .ref a0), (1, .ref a1)] kd36_20.2.2.2.2.2.2.2.2.2.2.1 rfl (by decide) rfl ?_
  refine X_aloadn hK (i := 0) 1 kd36_20.2.2.2.2.2.2.2.2.2.2.2 rfl rfl ?_
  refine X_getK hK fl_X8_24_9 hs_a0 en0 kd36_21.1 ?_
  refine X_iconst hK kd36_21.2.1 ?_
  refine X_isub hK kd36_21.2.2.1 ?_
  refine X_istoren hK (i := 3) [(3, .int (iI (n0 - 1))), (2, .int (iI (-1))), (0, .ref a0), (1, .ref a1)] kd36_21.2.2.2.1 rfl (by decide) rfl ?_
  have P595 : ∀ (nP595 : Nat) (z459 : Int) (_ : (-1) ≤ z459) (_ : z459 ≤ 5) (z460 : Int) (_ : (-1) ≤ z460) (_ : z460 ≤ 5) (_ : z459 - (-17) < (nP595 : Int)), X K E 9 [(3, .int (iI z459)), (2, .int (iI z460)), (0, .ref a0), (1, .ref a1)] [] S g 0 0 := by
    intro nP595
    induction nP595 with
    | zero => intro z459 lz459 uz459 z460 lz460 uz460 mP595; exact False.elim (by omega)
    | succ nP595 ihP595 =>
      intro z459 lz459 uz459 z460 lz460 uz460 mP595
      refine X_iloadn hK (i := 3) 0 kd36_21.2.2.2.2.1 rfl rfl ?_
      refine X_if_lt hK 39 (by omega) kd36_21.2.2.2.2.2.1 (by decide) (fun c596 => ?_) (fun c596 => ?_)
      · refine X_iconst hK kd36_22.2.2.2.2.2.2.2.2.2.2.1 ?_
        refine X_istoren hK (i := 3) [(3, .int (iI 0)), (2, .int (iI z460)), (0, .ref a0), (1, .ref a1)] kd36_22.2.2.2.2.2.2.2.2.2.2.2 rfl (by decide) rfl ?_
        refine X_aloadn hK (i := 0) 2 kd36_23.1 rfl rfl ?_
        refine X_iconst hK kd36_23.2.1 ?_
        refine X_puti hK fl_X8_28_9 hs_a0 (by decide) sl_9_5 (by omega) (by omega) kd36_23.2.2.1 (fun g602 hg602 => ?_)
        refine X_iconst hK kd36_23.2.2.2.1 ?_
        refine X_istore hK (i := 4) [(4, .int (iI 0)), (3, .int (iI 0)), (2, .int (iI z460)), (0, .ref a0), (1, .ref a1)] kd36_23.2.2.2.2.1 (by decide) rfl ?_
        have P710 : ∀ (nP710 : Nat) (g695 : xG) (_ : xM [(9, 5), (13300, 0)] S g602 g695) (z692 : Int) (_ : 0 ≤ z692) (_ : z692 ≤ 6) (z693 : Int) (_ : 0 ≤ z693) (_ : z693 ≤ 63) (z694 : Int) (_ : (-1) ≤ z694) (_ : z694 ≤ 5) (q696 : Int) (_ : 0 ≤ q696) (_ : q696 ≤ 9) (_ : g695 a0 5 = .int (iI q696)) (_ : q696 ≤ z692) (_ : 22 - z692 < (nP710 : Int)), X K E 49 [(4, .int (iI z692)), (3, .int (iI z693)), (2, .int (iI z694)), (0, .ref a0), (1, .ref a1)] [] S g695 0 0 := by
          intro nP710
          induction nP710 with
          | zero => intro g695 hg695 z692 lz692 uz692 z693 lz693 uz693 z694 lz694 uz694 q696 lq696 uq696 eq696 v711 mP710; exact False.elim (by omega)
          | succ nP710 ihP710 =>
            intro g695 hg695 z692 lz692 uz692 z693 lz693 uz693 z694 lz694 uz694 q696 lq696 uq696 eq696 v711 mP710
            refine X_iload hK (i := 4) 0 kd36_23.2.2.2.2.2.1 rfl ?_
            refine X_aloadn hK (i := 0) 3 kd36_23.2.2.2.2.2.2.1 rfl rfl ?_
            refine X_getK hK fl_X8_24_9 hs_a0 ((hg695 a0 9 0 4 hs_a0 (by decide)).trans ((xs_k hg602 (by decide)).trans en0)) kd36_23.2.2.2.2.2.2.2.1 ?_
            refine X_icmp_ge hK 106 (by omega) (by omega) kd36_23.2.2.2.2.2.2.2.2.1 (by decide) (fun c712 => ?_) (fun c712 => ?_)
            · exact hret _ _ _ _ _ _ kd36_26.2.2.2.2 ⟨rfl, rfl⟩ (Nat.le_refl _) (Nat.le_refl _)
            · refine X_iloadn hK (i := 2) 2 kd36_23.2.2.2.2.2.2.2.2.2.1 rfl rfl ?_
              refine X_iconst hK kd36_23.2.2.2.2.2.2.2.2.2.2.1 ?_
              refine X_icmp_eq hK 106 (by omega) (by omega) kd36_23.2.2.2.2.2.2.2.2.2.2.2 (by decide) (fun c713 => ?_) (fun c713 => ?_)
              · exact hret _ _ _ _ _ _ kd36_26.2.2.2.2 ⟨rfl, rfl⟩ (Nat.le_refl _) (Nat.le_refl _)
              · refine X_aloadn hK (i := 0) 3 kd36_24.1 rfl rfl ?_
                refine X_getr hK 13300 9 fl_X8_18_9 hs_a0 sl_9_2 kd36_24.2.1 (fun b714 eb714 hs_b714 => ?_)
                refine X_iload hK (i := 4) 0 kd36_24.2.2.1 rfl ?_
                refine X_aloadn hK (i := 0) 3 kd36_24.2.2.2.1 rfl rfl ?_
                refine X_getr hK 13100 9 fl_X8_11_9 hs_a0 sl_9_0 kd36_24.2.2.2.2.1 (fun b715 eb715 hs_b715 => ?_)
                refine X_iloadn hK (i := 2) 2 kd36_24.2.2.2.2.2.1 rfl rfl ?_
                refine X_iald hK hs_b715 (by decide) sl_13100 (by omega) (by omega) kd36_24.2.2.2.2.2.2.1 (fun z716 ez716 lz716 uz716 => ?_)
                refine X_iast hK hs_b714 (by decide) (by decide) sl_13300 (by omega) (by omega) (by omega) (by omega) kd36_24.2.2.2.2.2.2.2.1 (fun g717 hg717 => ?_)
                refine X_aloadn hK (i := 0) 3 kd36_24.2.2.2.2.2.2.2.2.1 rfl rfl ?_
                refine X_dup hK kd36_24.2.2.2.2.2.2.2.2.2.1 rfl ?_
                refine X_getK hK fl_X8_28_9 hs_a0 ((xs_a hg717 (xne hs_a0 hs_b714 (by decide))).trans eq696) kd36_24.2.2.2.2.2.2.2.2.2.2.1 ?_
                refine X_iconst hK kd36_24.2.2.2.2.2.2.2.2.2.2.2 ?_
                refine X_iadd hK kd36_25.1 ?_
                refine X_puti hK fl_X8_28_9 hs_a0 (by decide) sl_9_5 (by omega) (by omega) kd36_25.2.1 (fun g718 hg718 => ?_)
                refine X_iloadn hK (i := 3) 1 kd36_25.2.2.1 rfl rfl ?_
                refine X_iconst hK kd36_25.2.2.2.1 ?_
                refine X_iloadn hK (i := 2) 2 kd36_25.2.2.2.2.1 rfl rfl ?_
                refine X_ishl hK kd36_25.2.2.2.2.2.1 (fun z719 ez719 lz719 uz719 => ?_)
                have bz719 := xshlB 5 ez719 ⟨lz719, uz719⟩ (by omega) (by decide)
                refine X_ior hK kd36_25.2.2.2.2.2.2.1 (fun z720 ez720 lz720 uz720 => ?_)
                have bz720 := xiorB 6 ez720 ⟨lz720, uz720⟩ (by omega) (by omega) (by decide)
                have gz720 := xiorG ez720 ⟨lz720, uz720⟩ (by omega) (by omega)
                refine X_istoren hK (i := 3) [(3, .int (iI z720)), (4, .int (iI z692)), (2, .int (iI z694)), (0, .ref a0), (1, .ref a1)] kd36_25.2.2.2.2.2.2.2.1 rfl (by decide) rfl ?_
                refine X_aloadn hK (i := 0) 3 kd36_25.2.2.2.2.2.2.2.2.1 rfl rfl ?_
                refine X_aloadn hK (i := 1) 4 kd36_25.2.2.2.2.2.2.2.2.2.1 rfl rfl ?_
                refine X_iloadn hK (i := 3) 0 kd36_25.2.2.2.2.2.2.2.2.2.2.1 rfl rfl ?_
                refine X_iloadn hK (i := 2) 2 kd36_25.2.2.2.2.2.2.2.2.2.2.2 rfl rfl ?_
                refine X_callV hK [.ref a1, .int (iI z720), .int (iI z694)] [] lk_X8_74 (c_nextOf_6 _ _ _ _ _ S g718 a0 a1 z720 z694 n0 w0 nw0 hs_a0 hs_a1 (by omega) (by omega) (by omega) ((xs_k hg718 (by decide)).trans ((xs_a hg717 (xne hs_a0 hs_b714 (by decide))).trans ((hg695 a0 9 0 4 hs_a0 (by decide)).trans ((xs_k hg602 (by decide)).trans en0)))) ((xs_k hg718 (by decide)).trans ((xs_a hg717 (xne hs_a0 hs_b714 (by decide))).trans ((hg695 a0 9 0 3 hs_a0 (by decide)).trans ((xs_k hg602 (by decide)).trans ew0)))) hs_w0 (by omega) (by omega)) hs_a0 ⟨by decide, rfl⟩ kd36_26.1 rfl rfl (by simp [Value.category]) (by decide) (by decide) (by decide) (by decide) (fun r721 S723 g722 pr721 qr721 hg722 => ?_)
                obtain ⟨rfl, rfl, z724, rfl, lz724, uz724⟩ := pr721
                refine X_st [.int (iI z724)] rfl ?_
                refine X_istoren hK (i := 2) [(2, .int (iI z724)), (3, .int (iI z720)), (4, .int (iI z692)), (0, .ref a0), (1, .ref a1)] kd36_26.2.1 rfl (by decide) rfl ?_
                refine X_iinc hK (i := 4) (z := z692) (n := 1) 2 [(4, .int (iI (z692 + 1))), (2, .int (iI z724)), (3, .int (iI z720)), (0, .ref a0), (1, .ref a1)] kd36_26.2.2.1 rfl (by decide) rfl ?_
                refine X_goto hK 49 kd36_26.2.2.2.1 (by decide) ?_
                refine X_lv [(4, .int (iI (z692 + 1))), (3, .int (iI z720)), (2, .int (iI z724)), (0, .ref a0), (1, .ref a1)] [0, 2, 1, 3, 4] rfl ?_
                exact ihP710  g718 (xM_up (xM_ua (xM.tr xM.rf xLe.rf hg695 (by decide)) hg717 hs_b714 (by decide) (by decide)) hg718 hs_a0 (by decide) (by decide)) (z692 + 1) (by omega) (by omega) z720 (by omega) (by omega) z724 (by omega) (by omega) (q696 + 1) (by omega) (by omega) (xs_s hg718) (by omega) (by omega)
        exact P710 ((22 - 0 : Int).toNat + 1) g602 xM.rf 0 (by omega) (by omega) 0 (by omega) (by omega) z460 (by omega) (by omega) 0 (by omega) (by omega) (xs_s hg602) (by omega) (by omega)
      · refine X_aloadn hK (i := 0) 2 kd36_21.2.2.2.2.2.2.1 rfl rfl ?_
        refine X_getK hK fl_X8_21_9 hs_a0 ew0 kd36_21.2.2.2.2.2.2.2.1 ?_
        refine X_iconst hK kd36_21.2.2.2.2.2.2.2.2.1 ?_
        refine X_iloadn hK (i := 3) 0 kd36_21.2.2.2.2.2.2.2.2.2.1 rfl rfl ?_
        refine X_ishl hK kd36_21.2.2.2.2.2.2.2.2.2.2.1 (fun z725 ez725 lz725 uz725 => ?_)
        have bz725 := xshlB 5 ez725 ⟨lz725, uz725⟩ (by omega) (by decide)
        refine X_bipush hK kd36_21.2.2.2.2.2.2.2.2.2.2.2 (by decide) ?_
        refine X_imul hK kd36_22.1 ?_
        refine X_iloadn hK (i := 3) 0 kd36_22.2.1 rfl rfl ?_
        refine X_iadd hK kd36_22.2.2.1 ?_
        refine X_iald hK hs_w0 ⟨by decide, by decide, by omega⟩ sl_13400 (by omega) (by omega) kd36_22.2.2.2.1 (fun z726 ez726 lz726 uz726 => ?_)
        refine X_ldc hK (n := 1000000) kd36_22.2.2.2.2.1 m_53_22 (by decide) ?_
        have J729 : ∀ (z728 : Int) (lz728 : (-1) ≤ z728) (uz728 : z728 ≤ 5), X K E 33 [(3, .int (iI z459)), (2, .int (iI z728)), (0, .ref a0), (1, .ref a1)] [] S g 0 0 := by
          intro z728 lz728 uz728
          refine X_iinc hK (i := 3) (z := z459) (n := (-1)) 0 [(3, .int (iI (z459 + (-1)))), (2, .int (iI z728)), (0, .ref a0), (1, .ref a1)] kd36_22.2.2.2.2.2.2.2.2.1 rfl (by decide) rfl ?_
          refine X_goto hK 9 kd36_22.2.2.2.2.2.2.2.2.2.1 (by decide) ?_
          exact ihP595  (z459 + (-1)) (by omega) (by omega) z728 (by omega) (by omega) (by omega)
        refine X_icmp_eq hK 33 (by omega) (by omega) kd36_22.2.2.2.2.2.1 (by decide) (fun c727 => ?_) (fun c727 => ?_)
        · exact J729 z460 (by omega) (by omega)
        · refine X_iloadn hK (i := 3) 0 kd36_22.2.2.2.2.2.2.1 rfl rfl ?_
          refine X_istoren hK (i := 2) [(2, .int (iI z459)), (3, .int (iI z459)), (0, .ref a0), (1, .ref a1)] kd36_22.2.2.2.2.2.2.2.1 rfl (by decide) rfl ?_
          refine X_lv [(3, .int (iI z459)), (2, .int (iI z459)), (0, .ref a0), (1, .ref a1)] [1, 0, 2, 3] rfl ?_
          exact J729 z459 (by omega) (by omega)
  exact P595 (((n0 - 1) - (-17) : Int).toNat + 1) (n0 - 1) (by omega) (by omega) (-1) (by omega) (by omega) (by omega)

set_option maxHeartbeats 4000000 in
set_option maxRecDepth 100000 in
theorem c_soonestAt_7 (l : Launch) (D : va_G) (kA : Nat → ClassId) (b0 : Nat) (t0 : Nat → Nat) (S : xT) (g : xG) (a0 : Nat) (a1 : Nat) (x2 : Int) (x3 : Int) (n0 : Int) (w0 nw0 : Nat) (hs_a0 : S a0 = some (9, 0)) (hs_a1 : S a1 = some (4, 0)) (hx2 : 1 ≤ x2 ∧ x2 ≤ 127) (hx3 : 0 ≤ x3 ∧ x3 ≤ 6) (hn0 : 7 ≤ n0 ∧ n0 ≤ 7) (en0 : g a0 4 = .int (iI n0)) (ew0 : g a0 3 = .ref w0) (hs_w0 : S w0 = some (13400, nw0)) (hp0 : 1152 ≤ (nw0 : Int)) (hp1 : (nw0 : Int) ≤ 2147483647) : xMt l yX8_soonestAt cX8_soonestAt 8 (some .int) 1 0 0 13 D kA b0 t0 [] [.ref a0, .ref a1, .int (iI x2), .int (iI x3)] S g (fun (r : Option Value) (S1 : xT) (g1 : xG) => S = S1 ∧ g = g1 ∧ ∃ z : Int, r = some (.int (iI z)) ∧ (-2147483648) ≤ z ∧ z ≤ 1000000) := by
  refine xEnterI (by decide) (by simp [lg_sl, Value.category]) [(0, .ref a0), (1, .ref a1), (2, .int (iI x2)), (3, .int (iI x3))] rfl ?_
  intro K E hK hret _ _ _
  refine X_aloadn hK (i := 1) 1 kd36_15.2.2.2.2.2.2.2.2.2.1 rfl rfl ?_
  refine X_getr hK 11604 10 fl_X8_62_4 hs_a1 sl_4_6 kd36_15.2.2.2.2.2.2.2.2.2.2.1 (fun b1 eb1 hs_b1 => ?_)
  refine X_aloadn hK (i := 0) 0 kd36_15.2.2.2.2.2.2.2.2.2.2.2 rfl rfl ?_
  refine X_getr hK 13100 9 fl_X8_11_9 hs_a0 sl_9_0 kd36_16.1 (fun b2 eb2 hs_b2 => ?_)
  refine X_iloadn hK (i := 3) 3 kd36_16.2.1 rfl rfl ?_
  refine X_iald hK hs_b2 (by decide) sl_13100 (by omega) (by omega) kd36_16.2.2.1 (fun z3 ez3 lz3 uz3 => ?_)
  refine X_aald hK 11500 10 hs_b1 (by decide) sl_11604 (by omega) (by omega) kd36_16.2.2.2.1 (fun b4 eb4 hs_b4 => ?_)
  refine X_astore hK (i := 4) [(4, .ref b4), (0, .ref a0), (1, .ref a1), (2, .int (iI x2)), (3, .int (iI x3))] kd36_16.2.2.2.2.1 (by decide) rfl ?_
  refine X_iloadn hK (i := 2) 3 kd36_16.2.2.2.2.2.1 rfl rfl ?_
  refine X_iconst hK kd36_16.2.2.2.2.2.2.1 ?_
  refine X_iloadn hK (i := 3) 4 kd36_16.2.2.2.2.2.2.2.1 rfl rfl ?_
  refine X_ishl hK kd36_16.2.2.2.2.2.2.2.2.1 (fun z5 ez5 lz5 uz5 => ?_)
  have bz5 := xshlB 6 ez5 ⟨lz5, uz5⟩ (by omega) (by decide)
  refine X_ixor hK kd36_16.2.2.2.2.2.2.2.2.2.1 (fun z6 ez6 lz6 uz6 => ?_)
  have bz6 := xixorB 7 ez6 ⟨lz6, uz6⟩ (by omega) (by omega) (by decide)
  refine X_istore hK (i := 5) [(5, .int (iI z6)), (4, .ref b4), (0, .ref a0), (1, .ref a1), (2, .int (iI x2)), (3, .int (iI x3))] kd36_16.2.2.2.2.2.2.2.2.2.2.1 (by decide) rfl ?_
  refine X_iload hK (i := 5) 0 kd36_16.2.2.2.2.2.2.2.2.2.2.2 rfl ?_
  have J10 : ∀ (z9 : Int) (lz9 : 0 ≤ z9) (uz9 : z9 ≤ 1000000), X K E 34 [(5, .int (iI z6)), (4, .ref b4), (0, .ref a0), (1, .ref a1), (2, .int (iI x2)), (3, .int (iI x3))] [.int (iI z9)] S g 0 0 := by
    intro z9 lz9 uz9
    refine X_istore hK (i := 6) [(6, .int (iI z9)), (5, .int (iI z6)), (4, .ref b4), (0, .ref a0), (1, .ref a1), (2, .int (iI x2)), (3, .int (iI x3))] kd36_17.2.2.2.2.2.2.1 (by decide) rfl ?_
    refine X_iconst hK kd36_17.2.2.2.2.2.2.2.1 ?_
    refine X_istore hK (i := 7) [(7, .int (iI 0)), (6, .int (iI z9)), (5, .int (iI z6)), (4, .ref b4), (0, .ref a0), (1, .ref a1), (2, .int (iI x2)), (3, .int (iI x3))] kd36_17.2.2.2.2.2.2.2.2.1 (by decide) rfl ?_
    have P123 : ∀ (nP123 : Nat) (z104 : Int) (_ : 0 ≤ z104) (_ : z104 ≤ 7) (z105 : Int) (_ : (-2147483648) ≤ z105) (_ : z105 ≤ 1000000) (_ : 23 - z104 < (nP123 : Int)), X K E 39 [(7, .int (iI z104)), (6, .int (iI z105)), (5, .int (iI z6)), (4, .ref b4), (0, .ref a0), (1, .ref a1), (2, .int (iI x2)), (3, .int (iI x3))] [] S g 0 0 := by
      intro nP123
      induction nP123 with
      | zero => intro z104 lz104 uz104 z105 lz105 uz105 mP123; exact False.elim (by omega)
      | succ nP123 ihP123 =>
        intro z104 lz104 uz104 z105 lz105 uz105 mP123
        refine X_iload hK (i := 7) 0 kd36_17.2.2.2.2.2.2.2.2.2.1 rfl ?_
        refine X_aloadn hK (i := 0) 4 kd36_17.2.2.2.2.2.2.2.2.2.2.1 rfl rfl ?_
        refine X_getK hK fl_X8_24_9 hs_a0 en0 kd36_17.2.2.2.2.2.2.2.2.2.2.2 ?_
        have J131 : X K E 90 [(7, .int (iI z104)), (6, .int (iI z105)), (5, .int (iI z6)), (4, .ref b4), (0, .ref a0), (1, .ref a1), (2, .int (iI x2)), (3, .int (iI x3))] [] S g 0 0 := by
          refine X_iload hK (i := 6) 1 kd36_19.2.2.2.2.2.2.2.2.2.2.2 rfl ?_
          refine X_aloadn hK (i := 0) 4 kd36_20.1 rfl rfl ?_
          refine X_getr hK 13200 9 fl_X8_15_9 hs_a0 sl_9_1 kd36_20.2.1 (fun b132 eb132 hs_b132 => ?_)
          refine X_iloadn hK (i := 3) 7 kd36_20.2.2.1 rfl rfl ?_
          refine X_iald hK hs_b132 (by decide) sl_13200 (by omega) (by omega) kd36_20.2.2.2.1 (fun z133 ez133 lz133 uz133 => ?_)
          refine X_icmp_gt hK 106 (by omega) (by omega) kd36_20.2.2.2.2.1 (by decide) (fun c134 => ?_) (fun c134 => ?_)
          · refine X_ldc hK (n := 1000000) kd36_20.2.2.2.2.2.2.2.1 m_53_22 (by decide) ?_
            exact hret _ _ _ _ _ _ _ kd36_20.2.2.2.2.2.2.2.2.1 ⟨rfl, rfl, 1000000, rfl, (by omega), (by omega)⟩ (Nat.le_refl _) (Nat.le_refl _)
          · refine X_iload hK (i := 6) 1 kd36_20.2.2.2.2.2.1 rfl ?_
            refine X_goto hK 108 kd36_20.2.2.2.2.2.2.1 (by decide) ?_
            exact hret _ _ _ _ _ _ _ kd36_20.2.2.2.2.2.2.2.2.1 ⟨rfl, rfl, z105, rfl, (by omega), (by omega)⟩ (Nat.le_refl _) (Nat.le_refl _)
        refine X_icmp_ge hK 90 (by omega) (by omega) kd36_18.1 (by decide) (fun c124 => ?_) (fun c124 => ?_)
        · exact J131 
        · refine X_iload hK (i := 5) 2 kd36_18.2.1 rfl ?_
          refine X_if_eq hK 90 (by omega) kd36_18.2.2.1 (by decide) (fun c135 => ?_) (fun c135 => ?_)
          · exact J131 
          · refine X_iload hK (i := 6) 1 kd36_18.2.2.2.1 rfl ?_
            refine X_aloadn hK (i := 0) 4 kd36_18.2.2.2.2.1 rfl rfl ?_
            refine X_getK hK fl_X8_21_9 hs_a0 ew0 kd36_18.2.2.2.2.2.1 ?_
            refine X_iload hK (i := 5) 2 kd36_18.2.2.2.2.2.2.1 rfl ?_
            refine X_bipush hK kd36_18.2.2.2.2.2.2.2.1 (by decide) ?_
            refine X_imul hK kd36_18.2.2.2.2.2.2.2.2.1 ?_
            refine X_iload hK (i := 7) 0 kd36_18.2.2.2.2.2.2.2.2.2.1 rfl ?_
            refine X_iadd hK kd36_18.2.2.2.2.2.2.2.2.2.2.1 ?_
            refine X_iald hK hs_w0 ⟨by decide, by decide, by omega⟩ sl_13400 (by omega) (by omega) kd36_18.2.2.2.2.2.2.2.2.2.2.2 (fun z136 ez136 lz136 uz136 => ?_)
            refine X_aload hK (i := 4) 3 kd36_19.1 rfl ?_
            refine X_aloadn hK (i := 0) 4 kd36_19.2.1 rfl rfl ?_
            refine X_getK hK fl_X8_11_9 hs_a0 eb2 kd36_19.2.2.1 ?_
            refine X_iload hK (i := 7) 0 kd36_19.2.2.2.1 rfl ?_
            refine X_iald hK hs_b2 (by decide) sl_13100 (by omega) (by omega) kd36_19.2.2.2.2.1 (fun z137 ez137 lz137 uz137 => ?_)
            refine X_iald hK hs_b4 (by decide) sl_11500 (by omega) (by omega) kd36_19.2.2.2.2.2.1 (fun z138 ez138 lz138 uz138 => ?_)
            refine X_iadd hK kd36_19.2.2.2.2.2.2.1 ?_
            refine X_norm (fun z139 ez139 lz139 uz139 => ?_)
            refine X_mmin hK mm_X8_68 ⟨by decide, by simp [Value.category]⟩ (by decide) (by omega) (by omega) kd36_19.2.2.2.2.2.2.2.1 (fun z140 ez140 fz140 => ?_)
            have bz140 : (-2147483648) ≤ z140 ∧ z140 ≤ 1000000 := by omega
            refine X_istore hK (i := 6) [(6, .int (iI z140)), (7, .int (iI z104)), (5, .int (iI z6)), (4, .ref b4), (0, .ref a0), (1, .ref a1), (2, .int (iI x2)), (3, .int (iI x3))] kd36_19.2.2.2.2.2.2.2.2.1 (by decide) rfl ?_
            refine X_iinc hK (i := 7) (z := z104) (n := 1) 1 [(7, .int (iI (z104 + 1))), (6, .int (iI z140)), (5, .int (iI z6)), (4, .ref b4), (0, .ref a0), (1, .ref a1), (2, .int (iI x2)), (3, .int (iI x3))] kd36_19.2.2.2.2.2.2.2.2.2.1 rfl (by decide) rfl ?_
            refine X_goto hK 39 kd36_19.2.2.2.2.2.2.2.2.2.2.1 (by decide) ?_
            exact ihP123  (z104 + 1) (by omega) (by omega) z140 (by omega) (by omega) (by omega)
    exact P123 ((23 - 0 : Int).toNat + 1) 0 (by omega) (by omega) z9 (by omega) (by omega) (by omega)
  refine X_if_ne hK 32 (by omega) kd36_17.1 (by decide) (fun c7 => ?_) (fun c7 => ?_)
  · refine X_ldc hK (n := 1000000) kd36_17.2.2.2.2.2.1 m_53_22 (by decide) ?_
    exact J10 1000000 (by omega) (by omega)
  · refine X_aload hK (i := 4) 1 kd36_17.2.1 rfl ?_
    refine X_iconst hK kd36_17.2.2.1 ?_
    refine X_iald hK hs_b4 (by decide) sl_11500 (by omega) (by omega) kd36_17.2.2.2.1 (fun z141 ez141 lz141 uz141 => ?_)
    refine X_goto hK 34 kd36_17.2.2.2.2.1 (by decide) ?_
    exact J10 z141 (by omega) (by omega)

set_option maxHeartbeats 4000000 in
set_option maxRecDepth 100000 in
theorem c_findSoonest_7 (l : Launch) (D : va_G) (kA : Nat → ClassId) (b0 : Nat) (t0 : Nat → Nat) (S : xT) (g : xG) (a0 : Nat) (a1 : Nat) (n0 : Int) (w0 nw0 : Nat) (hs_a0 : S a0 = some (9, 0)) (hs_a1 : S a1 = some (4, 0)) (hn0 : 7 ≤ n0 ∧ n0 ≤ 7) (en0 : g a0 4 = .int (iI n0)) (ew0 : g a0 3 = .ref w0) (hs_w0 : S w0 = some (13400, nw0)) (hp0 : 1152 ≤ (nw0 : Int)) (hp1 : (nw0 : Int) ≤ 2147483647) : xMt l yX8_findSoonest cX8_findSoonest 4 none 2 0 0 40 D kA b0 t0 [(13400, 0)] [.ref a0, .ref a1] S g (fun (r : Option Value) (S1 : xT) (g1 : xG) => S = S1 ∧ r = none) := by
  refine xEnterV (by decide) (by simp [lg_sl, Value.category]) [(0, .ref a0), (1, .ref a1)] rfl ?_
  intro K E hK hret _ _ _
  refine X_iconst hK kd36_4.2.2.2.2.2.2.2.2.2.2.2 ?_
  refine X_istoren hK (i := 2) [(2, .int (iI 1)), (0, .ref a0), (1, .ref a1)] kd36_5.1 rfl (by decide) rfl ?_
  have P1230 : ∀ (nP1230 : Nat) (g1026 : xG) (_ : xM [(13400, 0)] S g g1026) (z1025 : Int) (_ : 1 ≤ z1025) (_ : z1025 ≤ 128) (_ : 144 - z1025 < (nP1230 : Int)), X K E 2 [(2, .int (iI z1025)), (0, .ref a0), (1, .ref a1)] [] S g1026 0 0 := by
    intro nP1230
    induction nP1230 with
    | zero => intro g1026 hg1026 z1025 lz1025 uz1025 mP1230; exact False.elim (by omega)
    | succ nP1230 ihP1230 =>
      intro g1026 hg1026 z1025 lz1025 uz1025 mP1230
      refine X_iloadn hK (i := 2) 0 kd36_5.2.1 rfl rfl ?_
      refine X_iconst hK kd36_5.2.2.1 ?_
      refine X_aloadn hK (i := 0) 1 kd36_5.2.2.2.1 rfl rfl ?_
      refine X_getK hK fl_X8_24_9 hs_a0 ((hg1026 a0 9 0 4 hs_a0 (by decide)).trans en0) kd36_5.2.2.2.2.1 ?_
      refine X_ishl hK kd36_5.2.2.2.2.2.1 (fun z1231 ez1231 lz1231 uz1231 => ?_)
      have bz1231 := xshlB 7 ez1231 ⟨lz1231, uz1231⟩ (by omega) (by decide)
      refine X_icmp_ge hK 66 (by omega) (by omega) kd36_5.2.2.2.2.2.2.1 (by decide) (fun c1232 => ?_) (fun c1232 => ?_)
      · exact hret _ _ _ _ _ _ kd36_8.2.2.2.1 ⟨rfl, rfl⟩ (Nat.le_refl _) (Nat.le_refl _)
      · refine X_iconst hK kd36_5.2.2.2.2.2.2.2.1 ?_
        refine X_istoren hK (i := 3) [(3, .int (iI 0)), (2, .int (iI z1025)), (0, .ref a0), (1, .ref a1)] kd36_5.2.2.2.2.2.2.2.2.1 rfl (by decide) rfl ?_
        have P1404 : ∀ (nP1404 : Nat) (g1374 : xG) (_ : xM [(13400, 0)] S g1026 g1374) (z1373 : Int) (_ : 0 ≤ z1373) (_ : z1373 ≤ 7) (_ : 23 - z1373 < (nP1404 : Int)), X K E 14 [(3, .int (iI z1373)), (2, .int (iI z1025)), (0, .ref a0), (1, .ref a1)] [] S g1374 0 0 := by
          intro nP1404
          induction nP1404 with
          | zero => intro g1374 hg1374 z1373 lz1373 uz1373 mP1404; exact False.elim (by omega)
          | succ nP1404 ihP1404 =>
            intro g1374 hg1374 z1373 lz1373 uz1373 mP1404
            refine X_iloadn hK (i := 3) 0 kd36_5.2.2.2.2.2.2.2.2.2.1 rfl rfl ?_
            refine X_aloadn hK (i := 0) 2 kd36_5.2.2.2.2.2.2.2.2.2.2.1 rfl rfl ?_
            refine X_getK hK fl_X8_24_9 hs_a0 ((hg1374 a0 9 0 4 hs_a0 (by decide)).trans ((hg1026 a0 9 0 4 hs_a0 (by decide)).trans en0)) kd36_5.2.2.2.2.2.2.2.2.2.2.2 ?_
            refine X_icmp_ge hK 60 (by omega) (by omega) kd36_6.1 (by decide) (fun c1405 => ?_) (fun c1405 => ?_)
            · refine X_iinc hK (i := 2) (z := z1025) (n := 1) 1 [(2, .int (iI (z1025 + 1))), (3, .int (iI z1373)), (0, .ref a0), (1, .ref a1)] kd36_8.2.1 rfl (by decide) rfl ?_
              refine X_goto hK 2 kd36_8.2.2.1 (by decide) ?_
              refine X_lv [(2, .int (iI (z1025 + 1))), (0, .ref a0), (1, .ref a1)] [0, 2, 3] rfl ?_
              exact ihP1230  g1374 (xM.tr (xM.tr xM.rf xLe.rf hg1026 (by decide)) xLe.rf hg1374 (by decide)) (z1025 + 1) (by omega) (by omega) (by omega)
            · refine X_aloadn hK (i := 0) 2 kd36_6.2.1 rfl rfl ?_
              refine X_getK hK fl_X8_21_9 hs_a0 ((hg1374 a0 9 0 3 hs_a0 (by decide)).trans ((hg1026 a0 9 0 3 hs_a0 (by decide)).trans ew0)) kd36_6.2.2.1 ?_
              refine X_iloadn hK (i := 2) 1 kd36_6.2.2.2.1 rfl rfl ?_
              refine X_bipush hK kd36_6.2.2.2.2.1 (by decide) ?_
              refine X_imul hK kd36_6.2.2.2.2.2.1 ?_
              refine X_iloadn hK (i := 3) 0 kd36_6.2.2.2.2.2.2.1 rfl rfl ?_
              refine X_iadd hK kd36_6.2.2.2.2.2.2.2.1 ?_
              refine X_iloadn hK (i := 2) 1 kd36_6.2.2.2.2.2.2.2.2.1 rfl rfl ?_
              refine X_iloadn hK (i := 3) 0 kd36_6.2.2.2.2.2.2.2.2.2.1 rfl rfl ?_
              refine X_ishr hK kd36_6.2.2.2.2.2.2.2.2.2.2.1 (fun z1420 ez1420 lz1420 uz1420 => ?_)
              refine X_iconst hK kd36_6.2.2.2.2.2.2.2.2.2.2.2 ?_
              refine X_iand hK kd36_7.1 (fun z1421 ez1421 lz1421 uz1421 => ?_)
              have bz1421 := xandB ez1421 ⟨lz1421, uz1421⟩ (by omega)
              refine X_iconst hK kd36_7.2.1 ?_
              have J1428 : ∀ (z1427 : Int) (lz1427 : (-2147483648) ≤ z1427) (uz1427 : z1427 ≤ 1000000), X K E 53 [(3, .int (iI z1373)), (2, .int (iI z1025)), (0, .ref a0), (1, .ref a1)] [.int (iI z1427), .int (iI ((z1025 * 9) + z1373)), .ref w0] S g1374 0 0 := by
                intro z1427 lz1427 uz1427
                refine X_iast hK hs_w0 ⟨by decide, by decide, by decide, by omega⟩ (by decide) sl_13400 (by omega) (by omega) (by omega) (by omega) kd36_7.2.2.2.2.2.2.2.2.2.2.1 (fun g1429 hg1429 => ?_)
                refine X_iinc hK (i := 3) (z := z1373) (n := 1) 0 [(3, .int (iI (z1373 + 1))), (2, .int (iI z1025)), (0, .ref a0), (1, .ref a1)] kd36_7.2.2.2.2.2.2.2.2.2.2.2 rfl (by decide) rfl ?_
                refine X_goto hK 14 kd36_8.1 (by decide) ?_
                exact ihP1404  g1429 (xM_ua (xM.tr xM.rf xLe.rf hg1374 (by decide)) hg1429 hs_w0 (by decide) (by decide)) (z1373 + 1) (by omega) (by omega) (by omega)
              refine X_icmp_ne hK 51 (by omega) (by omega) kd36_7.2.2.1 (by decide) (fun c1422 => ?_) (fun c1422 => ?_)
              · refine X_ldc hK (n := 1000000) kd36_7.2.2.2.2.2.2.2.2.2.1 m_53_22 (by decide) ?_
                exact J1428 1000000 (by omega) (by omega)
              · refine X_aloadn hK (i := 0) 2 kd36_7.2.2.2.1 rfl rfl ?_
                refine X_aloadn hK (i := 1) 3 kd36_7.2.2.2.2.1 rfl rfl ?_
                refine X_iloadn hK (i := 2) 1 kd36_7.2.2.2.2.2.1 rfl rfl ?_
                refine X_iloadn hK (i := 3) 0 kd36_7.2.2.2.2.2.2.1 rfl rfl ?_
                refine X_callV hK [.ref a1, .int (iI z1025), .int (iI z1373)] [.int (iI ((z1025 * 9) + z1373)), .ref w0] lk_X8_58 (c_soonestAt_7 _ _ _ _ _ S g1374 a0 a1 z1025 z1373 n0 w0 nw0 hs_a0 hs_a1 (by omega) (by omega) (by omega) ((hg1374 a0 9 0 4 hs_a0 (by decide)).trans ((hg1026 a0 9 0 4 hs_a0 (by decide)).trans en0)) ((hg1374 a0 9 0 3 hs_a0 (by decide)).trans ((hg1026 a0 9 0 3 hs_a0 (by decide)).trans ew0)) hs_w0 (by omega) (by omega)) hs_a0 ⟨by decide, rfl⟩ kd36_7.2.2.2.2.2.2.2.1 rfl rfl (by simp [Value.category]) (by decide) (by decide) (by decide) (by decide) (fun r1430 S1432 g1431 pr1430 qr1430 hg1431 => ?_)
                obtain ⟨rfl, rfl, z1433, rfl, lz1433, uz1433⟩ := pr1430
                refine X_st [.int (iI z1433), .int (iI ((z1025 * 9) + z1373)), .ref w0] rfl ?_
                refine X_goto hK 53 kd36_7.2.2.2.2.2.2.2.2.1 (by decide) ?_
                exact J1428 z1433 (by omega) (by omega)
        exact P1404 ((23 - 0 : Int).toNat + 1) g1026 xM.rf 0 (by omega) (by omega) (by omega)
  exact P1230 ((144 - 1 : Int).toNat + 1) g xM.rf 1 (by omega) (by omega) (by omega)

set_option maxHeartbeats 4000000 in
set_option maxRecDepth 100000 in
theorem c_firstAtEnd_7 (l : Launch) (D : va_G) (kA : Nat → ClassId) (b0 : Nat) (t0 : Nat → Nat) (S : xT) (g : xG) (a0 : Nat) (n0 : Int) (w0 nw0 : Nat) (hs_a0 : S a0 = some (9, 0)) (hn0 : 7 ≤ n0 ∧ n0 ≤ 7) (en0 : g a0 4 = .int (iI n0)) (ew0 : g a0 3 = .ref w0) (hs_w0 : S w0 = some (13400, nw0)) (hp0 : 1152 ≤ (nw0 : Int)) (hp1 : (nw0 : Int) ≤ 2147483647) : xMt l yX8_firstAtEnd cX8_firstAtEnd 4 (some .int) 1 0 0 13 D kA b0 t0 [] [.ref a0] S g (fun (r : Option Value) (S1 : xT) (g1 : xG) => S = S1 ∧ g = g1 ∧ ∃ z : Int, r = some (.int (iI z)) ∧ (-2147483648) ≤ z ∧ z ≤ 1000000) := by
  refine xEnterI (by decide) (by simp [lg_sl, Value.category]) [(0, .ref a0)] rfl ?_
  intro K E hK hret _ _ _
  refine X_iconst hK kd36_8.2.2.2.2.1 ?_
  refine X_aloadn hK (i := 0) 0 kd36_8.2.2.2.2.2.1 rfl rfl ?_
  refine X_getK hK fl_X8_24_9 hs_a0 en0 kd36_8.2.2.2.2.2.2.1 ?_
  refine X_ishl hK kd36_8.2.2.2.2.2.2.2.1 (fun z1 ez1 lz1 uz1 => ?_)
  have bz1 := xshlB 7 ez1 ⟨lz1, uz1⟩ (by omega) (by decide)
  refine X_iconst hK kd36_8.2.2.2.2.2.2.2.2.1 ?_
  refine X_isub hK kd36_8.2.2.2.2.2.2.2.2.2.1 ?_
  refine X_istoren hK (i := 1) [(1, .int (iI (z1 - 1))), (0, .ref a0)] kd36_8.2.2.2.2.2.2.2.2.2.2.1 rfl (by decide) rfl ?_
  refine X_ldc hK (n := 1000000) kd36_8.2.2.2.2.2.2.2.2.2.2.2 m_53_22 (by decide) ?_
  refine X_istoren hK (i := 2) [(2, .int (iI 1000000)), (1, .int (iI (z1 - 1))), (0, .ref a0)] kd36_9.1 rfl (by decide) rfl ?_
  refine X_iconst hK kd36_9.2.1 ?_
  refine X_istoren hK (i := 3) [(3, .int (iI 0)), (2, .int (iI 1000000)), (1, .int (iI (z1 - 1))), (0, .ref a0)] kd36_9.2.2.1 rfl (by decide) rfl ?_
  have P32 : ∀ (nP32 : Nat) (z27 : Int) (_ : 0 ≤ z27) (_ : z27 ≤ 7) (z28 : Int) (_ : (-2147483648) ≤ z28) (_ : z28 ≤ 1000000) (_ : 23 - z27 < (nP32 : Int)), X K E 14 [(3, .int (iI z27)), (2, .int (iI z28)), (1, .int (iI (z1 - 1))), (0, .ref a0)] [] S g 0 0 := by
    intro nP32
    induction nP32 with
    | zero => intro z27 lz27 uz27 z28 lz28 uz28 mP32; exact False.elim (by omega)
    | succ nP32 ihP32 =>
      intro z27 lz27 uz27 z28 lz28 uz28 mP32
      refine X_iloadn hK (i := 3) 0 kd36_9.2.2.2.1 rfl rfl ?_
      refine X_aloadn hK (i := 0) 3 kd36_9.2.2.2.2.1 rfl rfl ?_
      refine X_getK hK fl_X8_24_9 hs_a0 en0 kd36_9.2.2.2.2.2.1 ?_
      refine X_icmp_ge hK 44 (by omega) (by omega) kd36_9.2.2.2.2.2.2.1 (by decide) (fun c33 => ?_) (fun c33 => ?_)
      · refine X_iloadn hK (i := 2) 1 kd36_10.2.2.2.2.2.2.2.2.1 rfl rfl ?_
        exact hret _ _ _ _ _ _ _ kd36_10.2.2.2.2.2.2.2.2.2.1 ⟨rfl, rfl, z28, rfl, (by omega), (by omega)⟩ (Nat.le_refl _) (Nat.le_refl _)
      · refine X_iloadn hK (i := 2) 1 kd36_9.2.2.2.2.2.2.2.1 rfl rfl ?_
        refine X_aloadn hK (i := 0) 3 kd36_9.2.2.2.2.2.2.2.2.1 rfl rfl ?_
        refine X_getK hK fl_X8_21_9 hs_a0 ew0 kd36_9.2.2.2.2.2.2.2.2.2.1 ?_
        refine X_iloadn hK (i := 1) 2 kd36_9.2.2.2.2.2.2.2.2.2.2.1 rfl rfl ?_
        refine X_bipush hK kd36_9.2.2.2.2.2.2.2.2.2.2.2 (by decide) ?_
        refine X_imul hK kd36_10.1 ?_
        refine X_iloadn hK (i := 3) 0 kd36_10.2.1 rfl rfl ?_
        refine X_iadd hK kd36_10.2.2.1 ?_
        refine X_iald hK hs_w0 ⟨by decide, by decide, by omega⟩ sl_13400 (by omega) (by omega) kd36_10.2.2.2.1 (fun z34 ez34 lz34 uz34 => ?_)
        refine X_mmin hK mm_X8_68 ⟨by decide, by simp [Value.category]⟩ (by decide) (by omega) (by omega) kd36_10.2.2.2.2.1 (fun z35 ez35 fz35 => ?_)
        have bz35 : (-2147483648) ≤ z35 ∧ z35 ≤ 1000000 := by omega
        refine X_istoren hK (i := 2) [(2, .int (iI z35)), (3, .int (iI z27)), (1, .int (iI (z1 - 1))), (0, .ref a0)] kd36_10.2.2.2.2.2.1 rfl (by decide) rfl ?_
        refine X_iinc hK (i := 3) (z := z27) (n := 1) 1 [(3, .int (iI (z27 + 1))), (2, .int (iI z35)), (1, .int (iI (z1 - 1))), (0, .ref a0)] kd36_10.2.2.2.2.2.2.1 rfl (by decide) rfl ?_
        refine X_goto hK 14 kd36_10.2.2.2.2.2.2.2.1 (by decide) ?_
        exact ihP32  (z27 + 1) (by omega) (by omega) z35 (by omega) (by omega) (by omega)
  exact P32 ((23 - 0 : Int).toNat + 1) 0 (by omega) (by omega) 1000000 (by omega) (by omega) (by omega)

set_option maxHeartbeats 4000000 in
set_option maxRecDepth 100000 in
theorem c_nextOf_7 (l : Launch) (D : va_G) (kA : Nat → ClassId) (b0 : Nat) (t0 : Nat → Nat) (S : xT) (g : xG) (a0 : Nat) (a1 : Nat) (x2 : Int) (x3 : Int) (n0 : Int) (w0 nw0 : Nat) (hs_a0 : S a0 = some (9, 0)) (hs_a1 : S a1 = some (4, 0)) (hx2 : 1 ≤ x2 ∧ x2 ≤ 127) (hx3 : 0 ≤ x3 ∧ x3 ≤ 6) (hn0 : 7 ≤ n0 ∧ n0 ≤ 7) (en0 : g a0 4 = .int (iI n0)) (ew0 : g a0 3 = .ref w0) (hs_w0 : S w0 = some (13400, nw0)) (hp0 : 1152 ≤ (nw0 : Int)) (hp1 : (nw0 : Int) ≤ 2147483647) : xMt l yX8_nextOf cX8_nextOf 7 (some .int) 0 0 0 0 D kA b0 t0 [] [.ref a0, .ref a1, .int (iI x2), .int (iI x3)] S g (fun (r : Option Value) (S1 : xT) (g1 : xG) => S = S1 ∧ g = g1 ∧ ∃ z : Int, r = some (.int (iI z)) ∧ (-1) ≤ z ∧ z ≤ 6) := by
  refine xEnterI (by decide) (by simp [lg_sl, Value.category]) [(0, .ref a0), (1, .ref a1), (2, .int (iI x2)), (3, .int (iI x3))] rfl ?_
  intro K E hK hret _ _ _
  refine X_aloadn hK (i := 0) 0 kd36_10.2.2.2.2.2.2.2.2.2.2.1 rfl rfl ?_
  refine X_getK hK fl_X8_21_9 hs_a0 ew0 kd36_10.2.2.2.2.2.2.2.2.2.2.2 ?_
  refine X_iloadn hK (i := 2) 2 kd36_11.1 rfl rfl ?_
  refine X_bipush hK kd36_11.2.1 (by decide) ?_
  refine X_imul hK kd36_11.2.2.1 ?_
  refine X_iloadn hK (i := 3) 3 kd36_11.2.2.2.1 rfl rfl ?_
  refine X_iadd hK kd36_11.2.2.2.2.1 ?_
  refine X_iald hK hs_w0 ⟨by decide, by decide, by omega⟩ sl_13400 (by omega) (by omega) kd36_11.2.2.2.2.2.1 (fun z1 ez1 lz1 uz1 => ?_)
  refine X_istore hK (i := 4) [(4, .int (iI z1)), (0, .ref a0), (1, .ref a1), (2, .int (iI x2)), (3, .int (iI x3))] kd36_11.2.2.2.2.2.2.1 (by decide) rfl ?_
  refine X_iconst hK kd36_11.2.2.2.2.2.2.2.1 ?_
  refine X_istore hK (i := 5) [(5, .int (iI 0)), (4, .int (iI z1)), (0, .ref a0), (1, .ref a1), (2, .int (iI x2)), (3, .int (iI x3))] kd36_11.2.2.2.2.2.2.2.2.1 (by decide) rfl ?_
  have P104 : ∀ (nP104 : Nat) (z87 : Int) (_ : 0 ≤ z87) (_ : z87 ≤ 7) (_ : 23 - z87 < (nP104 : Int)), X K E 16 [(5, .int (iI z87)), (4, .int (iI z1)), (0, .ref a0), (1, .ref a1), (2, .int (iI x2)), (3, .int (iI x3))] [] S g 0 0 := by
    intro nP104
    induction nP104 with
    | zero => intro z87 lz87 uz87 mP104; exact False.elim (by omega)
    | succ nP104 ihP104 =>
      intro z87 lz87 uz87 mP104
      refine X_iload hK (i := 5) 0 kd36_11.2.2.2.2.2.2.2.2.2.1 rfl ?_
      refine X_aloadn hK (i := 0) 2 kd36_11.2.2.2.2.2.2.2.2.2.2.1 rfl rfl ?_
      refine X_getK hK fl_X8_24_9 hs_a0 en0 kd36_11.2.2.2.2.2.2.2.2.2.2.2 ?_
      refine X_icmp_ge hK 96 (by omega) (by omega) kd36_12.1 (by decide) (fun c105 => ?_) (fun c105 => ?_)
      · refine X_iconst hK kd36_15.2.2.2.2.2.2.2.1 ?_
        exact hret _ _ _ _ _ _ _ kd36_15.2.2.2.2.2.2.2.2.1 ⟨rfl, rfl, (-1), rfl, (by omega), (by omega)⟩ (Nat.le_refl _) (Nat.le_refl _)
      · refine X_iload hK (i := 4) 1 kd36_12.2.1 rfl ?_
        refine X_ldc hK (n := 1000000) kd36_12.2.2.1 m_53_22 (by decide) ?_
        refine X_icmp_eq hK 96 (by omega) (by omega) kd36_12.2.2.2.1 (by decide) (fun c106 => ?_) (fun c106 => ?_)
        · refine X_iconst hK kd36_15.2.2.2.2.2.2.2.1 ?_
          exact hret _ _ _ _ _ _ _ kd36_15.2.2.2.2.2.2.2.2.1 ⟨rfl, rfl, (-1), rfl, (by omega), (by omega)⟩ (Nat.le_refl _) (Nat.le_refl _)
        · refine X_iload hK (i := 4) 1 kd36_12.2.2.2.2.1 rfl ?_
          refine X_aloadn hK (i := 1) 3 kd36_12.2.2.2.2.2.1 rfl rfl ?_
          refine X_getr hK 11604 10 fl_X8_62_4 hs_a1 sl_4_6 kd36_12.2.2.2.2.2.2.1 (fun b107 eb107 hs_b107 => ?_)
          refine X_aloadn hK (i := 0) 2 kd36_12.2.2.2.2.2.2.2.1 rfl rfl ?_
          refine X_getr hK 13100 9 fl_X8_11_9 hs_a0 sl_9_0 kd36_12.2.2.2.2.2.2.2.2.1 (fun b108 eb108 hs_b108 => ?_)
          refine X_iloadn hK (i := 3) 5 kd36_12.2.2.2.2.2.2.2.2.2.1 rfl rfl ?_
          refine X_iald hK hs_b108 (by decide) sl_13100 (by omega) (by omega) kd36_12.2.2.2.2.2.2.2.2.2.2.1 (fun z109 ez109 lz109 uz109 => ?_)
          refine X_aald hK 11500 10 hs_b107 (by decide) sl_11604 (by omega) (by omega) kd36_12.2.2.2.2.2.2.2.2.2.2.2 (fun b110 eb110 hs_b110 => ?_)
          refine X_aloadn hK (i := 0) 2 kd36_13.1 rfl rfl ?_
          refine X_getK hK fl_X8_11_9 hs_a0 eb108 kd36_13.2.1 ?_
          refine X_iload hK (i := 5) 0 kd36_13.2.2.1 rfl ?_
          refine X_iald hK hs_b108 (by decide) sl_13100 (by omega) (by omega) kd36_13.2.2.2.1 (fun z111 ez111 lz111 uz111 => ?_)
          refine X_iald hK hs_b110 (by decide) sl_11500 (by omega) (by omega) kd36_13.2.2.2.2.1 (fun z112 ez112 lz112 uz112 => ?_)
          refine X_iadd hK kd36_13.2.2.2.2.2.1 ?_
          refine X_norm (fun z113 ez113 lz113 uz113 => ?_)
          refine X_istore hK (i := 6) [(6, .int (iI z113)), (5, .int (iI z87)), (4, .int (iI z1)), (0, .ref a0), (1, .ref a1), (2, .int (iI x2)), (3, .int (iI x3))] kd36_13.2.2.2.2.2.2.1 (by decide) rfl ?_
          refine X_iloadn hK (i := 2) 5 kd36_13.2.2.2.2.2.2.2.1 rfl rfl ?_
          refine X_iload hK (i := 5) 1 kd36_13.2.2.2.2.2.2.2.2.1 rfl ?_
          refine X_ishr hK kd36_13.2.2.2.2.2.2.2.2.2.1 (fun z114 ez114 lz114 uz114 => ?_)
          refine X_iconst hK kd36_13.2.2.2.2.2.2.2.2.2.2.1 ?_
          refine X_iand hK kd36_13.2.2.2.2.2.2.2.2.2.2.2 (fun z115 ez115 lz115 uz115 => ?_)
          have bz115 := xandB ez115 ⟨lz115, uz115⟩ (by omega)
          refine X_if_ne hK 90 (by omega) kd36_14.1 (by decide) (fun c116 => ?_) (fun c116 => ?_)
          · refine X_iinc hK (i := 5) (z := z87) (n := 1) 1 [(5, .int (iI (z87 + 1))), (6, .int (iI z113)), (4, .int (iI z1)), (0, .ref a0), (1, .ref a1), (2, .int (iI x2)), (3, .int (iI x3))] kd36_15.2.2.2.2.2.1 rfl (by decide) rfl ?_
            refine X_goto hK 16 kd36_15.2.2.2.2.2.2.1 (by decide) ?_
            refine X_lv [(5, .int (iI (z87 + 1))), (4, .int (iI z1)), (0, .ref a0), (1, .ref a1), (2, .int (iI x2)), (3, .int (iI x3))] [0, 2, 3, 4, 5, 6] rfl ?_
            exact ihP104  (z87 + 1) (by omega) (by omega) (by omega)
          · refine X_aloadn hK (i := 0) 3 kd36_14.2.1 rfl rfl ?_
            refine X_getK hK fl_X8_21_9 hs_a0 ew0 kd36_14.2.2.1 ?_
            refine X_iloadn hK (i := 2) 5 kd36_14.2.2.2.1 rfl rfl ?_
            refine X_iconst hK kd36_14.2.2.2.2.1 ?_
            refine X_iload hK (i := 5) 1 kd36_14.2.2.2.2.2.1 rfl ?_
            refine X_ishl hK kd36_14.2.2.2.2.2.2.1 (fun z117 ez117 lz117 uz117 => ?_)
            have bz117 := xshlB 6 ez117 ⟨lz117, uz117⟩ (by omega) (by decide)
            refine X_ior hK kd36_14.2.2.2.2.2.2.2.1 (fun z118 ez118 lz118 uz118 => ?_)
            have bz118 := xiorB 7 ez118 ⟨lz118, uz118⟩ (by omega) (by omega) (by decide)
            refine X_bipush hK kd36_14.2.2.2.2.2.2.2.2.1 (by decide) ?_
            refine X_imul hK kd36_14.2.2.2.2.2.2.2.2.2.1 ?_
            refine X_iload hK (i := 5) 1 kd36_14.2.2.2.2.2.2.2.2.2.2.1 rfl ?_
            refine X_iadd hK kd36_14.2.2.2.2.2.2.2.2.2.2.2 ?_
            refine X_iald hK hs_w0 ⟨by decide, by decide, by omega⟩ sl_13400 (by omega) (by omega) kd36_15.1 (fun z119 ez119 lz119 uz119 => ?_)
            refine X_iload hK (i := 6) 0 kd36_15.2.1 rfl ?_
            refine X_icmp_ne hK 90 (by omega) (by omega) kd36_15.2.2.1 (by decide) (fun c120 => ?_) (fun c120 => ?_)
            · refine X_iinc hK (i := 5) (z := z87) (n := 1) 1 [(5, .int (iI (z87 + 1))), (6, .int (iI z113)), (4, .int (iI z1)), (0, .ref a0), (1, .ref a1), (2, .int (iI x2)), (3, .int (iI x3))] kd36_15.2.2.2.2.2.1 rfl (by decide) rfl ?_
              refine X_goto hK 16 kd36_15.2.2.2.2.2.2.1 (by decide) ?_
              refine X_lv [(5, .int (iI (z87 + 1))), (4, .int (iI z1)), (0, .ref a0), (1, .ref a1), (2, .int (iI x2)), (3, .int (iI x3))] [0, 2, 3, 4, 5, 6] rfl ?_
              exact ihP104  (z87 + 1) (by omega) (by omega) (by omega)
            · refine X_iload hK (i := 5) 1 kd36_15.2.2.2.1 rfl ?_
              exact hret _ _ _ _ _ _ _ kd36_15.2.2.2.2.1 ⟨rfl, rfl, z87, rfl, (by omega), (by omega)⟩ (Nat.le_refl _) (Nat.le_refl _)
  exact P104 ((23 - 0 : Int).toNat + 1) 0 (by omega) (by omega) (by omega)

set_option maxHeartbeats 4000000 in
set_option maxRecDepth 100000 in
theorem c_dropOthers_7 (l : Launch) (D : va_G) (kA : Nat → ClassId) (b0 : Nat) (t0 : Nat → Nat) (S : xT) (g : xG) (a0 : Nat) (a1 : Nat) (x2 : Int) (n0 : Int) (w0 nw0 : Nat) (hs_a0 : S a0 = some (9, 0)) (hs_a1 : S a1 = some (4, 0)) (hx2 : (-2147483648) ≤ x2 ∧ x2 ≤ 2147483647) (hn0 : 7 ≤ n0 ∧ n0 ≤ 7) (en0 : g a0 4 = .int (iI n0)) (ew0 : g a0 3 = .ref w0) (hs_w0 : S w0 = some (13400, nw0)) (hp0 : 1152 ≤ (nw0 : Int)) (hp1 : (nw0 : Int) ≤ 2147483647) : xMt l yX8_dropOthers cX8_dropOthers 8 none 1 0 0 26 D kA b0 t0 [(13400, 0)] [.ref a0, .ref a1, .int (iI x2)] S g (fun (r : Option Value) (S1 : xT) (g1 : xG) => S = S1 ∧ r = none) := by
  refine xEnterV (by decide) (by simp [lg_sl, Value.category]) [(0, .ref a0), (1, .ref a1), (2, .int (iI x2))] rfl ?_
  intro K E hK hret _ _ _
  refine X_iconst hK kd36_0.1 ?_
  refine X_aloadn hK (i := 0) 0 kd36_0.2.1 rfl rfl ?_
  refine X_getK hK fl_X8_24_9 hs_a0 en0 kd36_0.2.2.1 ?_
  refine X_ishl hK kd36_0.2.2.2.1 (fun z1 ez1 lz1 uz1 => ?_)
  have bz1 := xshlB 7 ez1 ⟨lz1, uz1⟩ (by omega) (by decide)
  refine X_iconst hK kd36_0.2.2.2.2.1 ?_
  refine X_isub hK kd36_0.2.2.2.2.2.1 ?_
  refine X_istoren hK (i := 3) [(3, .int (iI (z1 - 1))), (0, .ref a0), (1, .ref a1), (2, .int (iI x2))] kd36_0.2.2.2.2.2.2.1 rfl (by decide) rfl ?_
  refine X_iloadn hK (i := 3) 0 kd36_0.2.2.2.2.2.2.2.1 rfl rfl ?_
  refine X_istore hK (i := 4) [(4, .int (iI (z1 - 1))), (3, .int (iI (z1 - 1))), (0, .ref a0), (1, .ref a1), (2, .int (iI x2))] kd36_0.2.2.2.2.2.2.2.2.1 (by decide) rfl ?_
  have P1541 : ∀ (nP1541 : Nat) (g1234 : xG) (_ : xM [(13400, 0)] S g g1234) (z1233 : Int) (_ : 0 ≤ z1233) (_ : z1233 ≤ 127) (_ : z1233 - (-16) < (nP1541 : Int)), X K E 12 [(4, .int (iI z1233)), (3, .int (iI (z1 - 1))), (0, .ref a0), (1, .ref a1), (2, .int (iI x2))] [] S g1234 0 0 := by
    intro nP1541
    induction nP1541 with
    | zero => intro g1234 hg1234 z1233 lz1233 uz1233 mP1541; exact False.elim (by omega)
    | succ nP1541 ihP1541 =>
      intro g1234 hg1234 z1233 lz1233 uz1233 mP1541
      refine X_iload hK (i := 4) 0 kd36_0.2.2.2.2.2.2.2.2.2.1 rfl ?_
      refine X_if_le hK 110 (by omega) kd36_0.2.2.2.2.2.2.2.2.2.2.1 (by decide) (fun c1542 => ?_) (fun c1542 => ?_)
      · exact hret _ _ _ _ _ _ kd36_4.2.2.2.2.2.2.2.2.2.2.1 ⟨rfl, rfl⟩ (Nat.le_refl _) (Nat.le_refl _)
      · refine X_iconst hK kd36_0.2.2.2.2.2.2.2.2.2.2.2 ?_
        refine X_istore hK (i := 5) [(5, .int (iI 0)), (4, .int (iI z1233)), (3, .int (iI (z1 - 1))), (0, .ref a0), (1, .ref a1), (2, .int (iI x2))] kd36_1.1 (by decide) rfl ?_
        have P1802 : ∀ (nP1802 : Nat) (g1756 : xG) (_ : xM [(13400, 0)] S g1234 g1756) (z1755 : Int) (_ : 0 ≤ z1755) (_ : z1755 ≤ 7) (_ : 23 - z1755 < (nP1802 : Int)), X K E 20 [(5, .int (iI z1755)), (4, .int (iI z1233)), (3, .int (iI (z1 - 1))), (0, .ref a0), (1, .ref a1), (2, .int (iI x2))] [] S g1756 0 0 := by
          intro nP1802
          induction nP1802 with
          | zero => intro g1756 hg1756 z1755 lz1755 uz1755 mP1802; exact False.elim (by omega)
          | succ nP1802 ihP1802 =>
            intro g1756 hg1756 z1755 lz1755 uz1755 mP1802
            refine X_iload hK (i := 5) 0 kd36_1.2.1 rfl ?_
            refine X_aloadn hK (i := 0) 3 kd36_1.2.2.1 rfl rfl ?_
            refine X_getK hK fl_X8_24_9 hs_a0 ((hg1756 a0 9 0 4 hs_a0 (by decide)).trans ((hg1234 a0 9 0 4 hs_a0 (by decide)).trans en0)) kd36_1.2.2.2.1 ?_
            refine X_icmp_ge hK 104 (by omega) (by omega) kd36_1.2.2.2.2.1 (by decide) (fun c1803 => ?_) (fun c1803 => ?_)
            · refine X_iinc hK (i := 4) (z := z1233) (n := (-1)) 1 [(4, .int (iI (z1233 + (-1)))), (5, .int (iI z1755)), (3, .int (iI (z1 - 1))), (0, .ref a0), (1, .ref a1), (2, .int (iI x2))] kd36_4.2.2.2.2.2.2.2.2.1 rfl (by decide) rfl ?_
              refine X_goto hK 12 kd36_4.2.2.2.2.2.2.2.2.2.1 (by decide) ?_
              refine X_lv [(4, .int (iI (z1233 + (-1)))), (3, .int (iI (z1 - 1))), (0, .ref a0), (1, .ref a1), (2, .int (iI x2))] [0, 2, 3, 4, 5] rfl ?_
              exact ihP1541  g1756 (xM.tr (xM.tr xM.rf xLe.rf hg1234 (by decide)) xLe.rf hg1756 (by decide)) (z1233 + (-1)) (by omega) (by omega) (by omega)
            · refine X_iload hK (i := 4) 1 kd36_1.2.2.2.2.2.1 rfl ?_
              refine X_bipush hK kd36_1.2.2.2.2.2.2.1 (by decide) ?_
              refine X_imul hK kd36_1.2.2.2.2.2.2.2.1 ?_
              refine X_iload hK (i := 5) 0 kd36_1.2.2.2.2.2.2.2.2.1 rfl ?_
              refine X_iadd hK kd36_1.2.2.2.2.2.2.2.2.2.1 ?_
              refine X_istore hK (i := 6) [(6, .int (iI ((z1233 * 9) + z1755))), (5, .int (iI z1755)), (4, .int (iI z1233)), (3, .int (iI (z1 - 1))), (0, .ref a0), (1, .ref a1), (2, .int (iI x2))] kd36_1.2.2.2.2.2.2.2.2.2.2.1 (by decide) rfl ?_
              refine X_iload hK (i := 4) 2 kd36_1.2.2.2.2.2.2.2.2.2.2.2 rfl ?_
              refine X_iloadn hK (i := 3) 3 kd36_2.1 rfl rfl ?_
              have J1835 : ∀ (z1834 : Int) (lz1834 : 0 ≤ z1834) (uz1834 : z1834 ≤ 1), X K E 82 [(6, .int (iI ((z1233 * 9) + z1755))), (5, .int (iI z1755)), (4, .int (iI z1233)), (3, .int (iI (z1 - 1))), (0, .ref a0), (1, .ref a1), (2, .int (iI x2))] [.int (iI z1834)] S g1756 0 0 := by
                intro z1834 lz1834 uz1834
                refine X_istore hK (i := 7) [(7, .int (iI z1834)), (6, .int (iI ((z1233 * 9) + z1755))), (5, .int (iI z1755)), (4, .int (iI z1233)), (3, .int (iI (z1 - 1))), (0, .ref a0), (1, .ref a1), (2, .int (iI x2))] kd36_3.2.2.2.2.2.2.2.2.2.2.1 (by decide) rfl ?_
                refine X_iload hK (i := 7) 0 kd36_3.2.2.2.2.2.2.2.2.2.2.2 rfl ?_
                have J1838 : ∀ (g1839 : xG) (hg1839 : xM [(13400, 0)] S g1756 g1839), X K E 98 [(7, .int (iI z1834)), (6, .int (iI ((z1233 * 9) + z1755))), (5, .int (iI z1755)), (4, .int (iI z1233)), (3, .int (iI (z1 - 1))), (0, .ref a0), (1, .ref a1), (2, .int (iI x2))] [] S g1839 0 0 := by
                  intro g1839 hg1839
                  refine X_iinc hK (i := 5) (z := z1755) (n := 1) 2 [(5, .int (iI (z1755 + 1))), (7, .int (iI z1834)), (6, .int (iI ((z1233 * 9) + z1755))), (4, .int (iI z1233)), (3, .int (iI (z1 - 1))), (0, .ref a0), (1, .ref a1), (2, .int (iI x2))] kd36_4.2.2.2.2.2.2.1 rfl (by decide) rfl ?_
                  refine X_goto hK 20 kd36_4.2.2.2.2.2.2.2.1 (by decide) ?_
                  refine X_lv [(5, .int (iI (z1755 + 1))), (4, .int (iI z1233)), (3, .int (iI (z1 - 1))), (0, .ref a0), (1, .ref a1), (2, .int (iI x2))] [0, 3, 4, 5, 6, 7] rfl ?_
                  exact ihP1802  g1839 (xM.tr (xM.tr xM.rf xLe.rf hg1756 (by decide)) xLe.rf hg1839 (by decide)) (z1755 + 1) (by omega) (by omega) (by omega)
                refine X_if_ne hK 98 (by omega) kd36_4.1 (by decide) (fun c1836 => ?_) (fun c1836 => ?_)
                · exact J1838 g1756 xM.rf
                · refine X_aloadn hK (i := 0) 5 kd36_4.2.1 rfl rfl ?_
                  refine X_getK hK fl_X8_21_9 hs_a0 ((hg1756 a0 9 0 3 hs_a0 (by decide)).trans ((hg1234 a0 9 0 3 hs_a0 (by decide)).trans ew0)) kd36_4.2.2.1 ?_
                  refine X_iload hK (i := 6) 1 kd36_4.2.2.2.1 rfl ?_
                  refine X_ldc hK (n := 1000000) kd36_4.2.2.2.2.1 m_53_22 (by decide) ?_
                  refine X_iast hK hs_w0 ⟨by decide, by decide, by decide, by omega⟩ (by decide) sl_13400 (by omega) (by omega) (by omega) (by omega) kd36_4.2.2.2.2.2.1 (fun g1840 hg1840 => ?_)
                  exact J1838 g1840 (xM_ua xM.rf hg1840 hs_w0 (by decide) (by decide))
              refine X_icmp_ne hK 64 (by omega) (by omega) kd36_2.2.1 (by decide) (fun c1826 => ?_) (fun c1826 => ?_)
              · refine X_aloadn hK (i := 0) 4 kd36_3.1 rfl rfl ?_
                refine X_aloadn hK (i := 1) 5 kd36_3.2.1 rfl rfl ?_
                refine X_iload hK (i := 4) 2 kd36_3.2.2.1 rfl ?_
                refine X_iload hK (i := 5) 1 kd36_3.2.2.2.1 rfl ?_
                refine X_callV hK [.ref a1, .int (iI z1233), .int (iI z1755)] [] lk_X8_74 (c_nextOf_7 _ _ _ _ _ S g1756 a0 a1 z1233 z1755 n0 w0 nw0 hs_a0 hs_a1 (by omega) (by omega) (by omega) ((hg1756 a0 9 0 4 hs_a0 (by decide)).trans ((hg1234 a0 9 0 4 hs_a0 (by decide)).trans en0)) ((hg1756 a0 9 0 3 hs_a0 (by decide)).trans ((hg1234 a0 9 0 3 hs_a0 (by decide)).trans ew0)) hs_w0 (by omega) (by omega)) hs_a0 ⟨by decide, rfl⟩ kd36_3.2.2.2.2.1 rfl rfl (by simp [Value.category]) (by decide) (by decide) (by decide) (by decide) (fun r1841 S1843 g1842 pr1841 qr1841 hg1842 => ?_)
                obtain ⟨rfl, rfl, z1844, rfl, lz1844, uz1844⟩ := pr1841
                refine X_st [.int (iI z1844)] rfl ?_
                refine X_iconst hK kd36_3.2.2.2.2.2.1 ?_
                refine X_icmp_eq hK 81 (by omega) (by omega) kd36_3.2.2.2.2.2.2.1 (by decide) (fun c1845 => ?_) (fun c1845 => ?_)
                · refine X_iconst hK kd36_3.2.2.2.2.2.2.2.2.2.1 ?_
                  exact J1835 0 (by omega) (by omega)
                · refine X_iconst hK kd36_3.2.2.2.2.2.2.2.1 ?_
                  refine X_goto hK 82 kd36_3.2.2.2.2.2.2.2.2.1 (by decide) ?_
                  exact J1835 1 (by omega) (by omega)
              · refine X_aloadn hK (i := 0) 4 kd36_2.2.2.1 rfl rfl ?_
                refine X_getK hK fl_X8_21_9 hs_a0 ((hg1756 a0 9 0 3 hs_a0 (by decide)).trans ((hg1234 a0 9 0 3 hs_a0 (by decide)).trans ew0)) kd36_2.2.2.2.1 ?_
                refine X_iload hK (i := 6) 0 kd36_2.2.2.2.2.1 rfl ?_
                refine X_iald hK hs_w0 ⟨by decide, by decide, by omega⟩ sl_13400 (by omega) (by omega) kd36_2.2.2.2.2.2.1 (fun z1846 ez1846 lz1846 uz1846 => ?_)
                refine X_iloadn hK (i := 2) 6 kd36_2.2.2.2.2.2.2.1 rfl rfl ?_
                refine X_icmp_ne hK 60 (by omega) (by omega) kd36_2.2.2.2.2.2.2.2.1 (by decide) (fun c1847 => ?_) (fun c1847 => ?_)
                · refine X_iconst hK kd36_2.2.2.2.2.2.2.2.2.2.2.1 ?_
                  refine X_goto hK 82 kd36_2.2.2.2.2.2.2.2.2.2.2.2 (by decide) ?_
                  exact J1835 0 (by omega) (by omega)
                · refine X_iconst hK kd36_2.2.2.2.2.2.2.2.2.1 ?_
                  refine X_goto hK 82 kd36_2.2.2.2.2.2.2.2.2.2.1 (by decide) ?_
                  exact J1835 1 (by omega) (by omega)
        exact P1802 ((23 - 0 : Int).toNat + 1) g1234 xM.rf 0 (by omega) (by omega) (by omega)
  exact P1541 (((z1 - 1) - (-16) : Int).toNat + 1) g xM.rf (z1 - 1) (by omega) (by omega) (by omega)

set_option maxHeartbeats 4000000 in
set_option maxRecDepth 100000 in
theorem c_walk_7 (l : Launch) (D : va_G) (kA : Nat → ClassId) (b0 : Nat) (t0 : Nat → Nat) (S : xT) (g : xG) (a0 : Nat) (a1 : Nat) (n0 : Int) (w0 nw0 : Nat) (hs_a0 : S a0 = some (9, 0)) (hs_a1 : S a1 = some (4, 0)) (hn0 : 7 ≤ n0 ∧ n0 ≤ 7) (en0 : g a0 4 = .int (iI n0)) (ew0 : g a0 3 = .ref w0) (hs_w0 : S w0 = some (13400, nw0)) (hp0 : 1152 ≤ (nw0 : Int)) (hp1 : (nw0 : Int) ≤ 2147483647) : xMt l yX8_walk cX8_walk 5 none 1 0 0 26 D kA b0 t0 [(9, 5), (13300, 0)] [.ref a0, .ref a1] S g (fun (r : Option Value) (S1 : xT) (g1 : xG) => S = S1 ∧ r = none) := by
  refine xEnterV (by decide) (by simp [lg_sl, Value.category]) [(0, .ref a0), (1, .ref a1)] rfl ?_
  intro K E hK hret _ _ _
  refine X_iconst hK kd36_20.2.2.2.2.2.2.2.2.2.1 ?_
  refine X_istoren hK (i := 2) [(2, .int (iI (-1))), (0, .ref a0), (1, .ref a1)] kd36_20.2.2.2.2.2.2.2.2.2.2.1 rfl (by decide) rfl ?_
  refine X_aloadn hK (i := 0) 1 kd36_20.2.2.2.2.2.2.2.2.2.2.2 rfl rfl ?_
  refine X_getK hK fl_X8_24_9 hs_a0 en0 kd36_21.1 ?_
  refine X_iconst hK kd36_21.2.1 ?_
  refine X_isub hK kd36_21.2.2.1 ?_
  refine X_istoren hK (i := 3) [(3, .int (iI (n0 - 1))), (2, .int (iI (-1))), (0, .ref a0), (1, .ref a1)] kd36_21.2.2.2.1 rfl (by decide) rfl ?_
  have P595 : ∀ (nP595 : Nat) (z459 : Int) (_ : (-1) ≤ z459) (_ : z459 ≤ 6) (z460 : Int) (_ : (-1) ≤ z460) (_ : z460 ≤ 6) (_ : z459 - (-17) < (nP595 : Int)), X K E 9 [(3, .int (iI z459)), (2, .int (iI z460)), (0, .ref a0), (1, .ref a1)] [] S g 0 0 := by
    intro nP595
    induction nP595 with
    | zero => intro z459 lz459 uz459 z460 lz460 uz460 mP595; exact False.elim (by omega)
    | succ nP595 ihP595 =>
      intro z459 lz459 uz459 z460 lz460 uz460 mP595
      refine X_iloadn hK (i := 3) 0 kd36_21.2.2.2.2.1 rfl rfl ?_
      refine X_if_lt hK 39 (by omega) kd36_21.2.2.2.2.2.1 (by decide) (fun c596 => ?_) (fun c596 => ?_)
      · refine X_iconst hK kd36_22.2.2.2.2.2.2.2.2.2.2.1 ?_
        refine X_istoren hK (i := 3) [(3, .int (iI 0)), (2, .int (iI z460)), (0, .ref a0), (1, .ref a1)] kd36_22.2.2.2.2.2.2.2.2.2.2.2 rfl (by decide) rfl ?_
        refine X_aloadn hK (i := 0) 2 kd36_23.1 rfl rfl ?_
        refine X_iconst hK kd36_23.2.1 ?_
        refine X_puti hK fl_X8_28_9 hs_a0 (by decide) sl_9_5 (by omega) (by omega) kd36_23.2.2.1 (fun g602 hg602 => ?_)
        refine X_iconst hK kd36_23.2.2.2.1 ?_
        refine X_istore hK (i := 4) [(4, .int (iI 0)), (3, .int (iI 0)), (2, .int (iI z460)), (0, .ref a0), (1, .ref a1)] kd36_23.2.2.2.2.1 (by decide) rfl ?_
        have P710 : ∀ (nP710 : Nat) (g695 : xG) (_ : xM [(9, 5), (13300, 0)] S g602 g695) (z692 : Int) (_ : 0 ≤ z692) (_ : z692 ≤ 7) (z693 : Int) (_ : 0 ≤ z693) (_ : z693 ≤ 127) (z694 : Int) (_ : (-1) ≤ z694) (_ : z694 ≤ 6) (q696 : Int) (_ : 0 ≤ q696) (_ : q696 ≤ 9) (_ : g695 a0 5 = .int (iI q696)) (_ : q696 ≤ z692) (_ : 23 - z692 < (nP710 : Int)), X K E 49 [(4, .int (iI z692)), (3, .int (iI z693)), (2, .int (iI z694)), (0, .ref a0), (1, .ref a1)] [] S g695 0 0 := by
          intro nP710
          induction nP710 with
          | zero => intro g695 hg695 z692 lz692 uz692 z693 lz693 uz693 z694 lz694 uz694 q696 lq696 uq696 eq696 v711 mP710; exact False.elim (by omega)
          | succ nP710 ihP710 =>
            intro g695 hg695 z692 lz692 uz692 z693 lz693 uz693 z694 lz694 uz694 q696 lq696 uq696 eq696 v711 mP710
            refine X_iload hK (i := 4) 0 kd36_23.2.2.2.2.2.1 rfl ?_
            refine X_aloadn hK (i := 0) 3 kd36_23.2.2.2.2.2.2.1 rfl rfl ?_
            refine X_getK hK fl_X8_24_9 hs_a0 ((hg695 a0 9 0 4 hs_a0 (by decide)).trans ((xs_k hg602 (by decide)).trans en0)) kd36_23.2.2.2.2.2.2.2.1 ?_
            refine X_icmp_ge hK 106 (by omega) (by omega) kd36_23.2.2.2.2.2.2.2.2.1 (by decide) (fun c712 => ?_) (fun c712 => ?_)
            · exact hret _ _ _ _ _ _ kd36_26.2.2.2.2 ⟨rfl, rfl⟩ (Nat.le_refl _) (Nat.le_refl _)
            · refine X_iloadn hK (i := 2) 2 kd36_23.2.2.2.2.2.2.2.2.2.1 rfl rfl ?_
              refine X_iconst hK kd36_23.2.2.2.2.2.2.2.2.2.2.1 ?_
              refine X_icmp_eq hK 106 (by omega) (by omega) kd36_23.2.2.2.2.2.2.2.2.2.2.2 (by decide) (fun c713 => ?_) (fun c713 => ?_)
              · exact hret _ _ _ _ _ _ kd36_26.2.2.2.2 ⟨rfl, rfl⟩ (Nat.le_refl _) (Nat.le_refl _)
              · refine X_aloadn hK (i := 0) 3 kd36_24.1 rfl rfl ?_
                refine X_getr hK 13300 9 fl_X8_18_9 hs_a0 sl_9_2 kd36_24.2.1 (fun b714 eb714 hs_b714 => ?_)
                refine X_iload hK (i := 4) 0 kd36_24.2.2.1 rfl ?_
                refine X_aloadn hK (i := 0) 3 kd36_24.2.2.2.1 rfl rfl ?_
                refine X_getr hK 13100 9 fl_X8_11_9 hs_a0 sl_9_0 kd36_24.2.2.2.2.1 (fun b715 eb715 hs_b715 => ?_)
                refine X_iloadn hK (i := 2) 2 kd36_24.2.2.2.2.2.1 rfl rfl ?_
                refine X_iald hK hs_b715 (by decide) sl_13100 (by omega) (by omega) kd36_24.2.2.2.2.2.2.1 (fun z716 ez716 lz716 uz716 => ?_)
                refine X_iast hK hs_b714 (by decide) (by decide) sl_13300 (by omega) (by omega) (by omega) (by omega) kd36_24.2.2.2.2.2.2.2.1 (fun g717 hg717 => ?_)
                refine X_aloadn hK (i := 0) 3 kd36_24.2.2.2.2.2.2.2.2.1 rfl rfl ?_
                refine X_dup hK kd36_24.2.2.2.2.2.2.2.2.2.1 rfl ?_
                refine X_getK hK fl_X8_28_9 hs_a0 ((xs_a hg717 (xne hs_a0 hs_b714 (by decide))).trans eq696) kd36_24.2.2.2.2.2.2.2.2.2.2.1 ?_
                refine X_iconst hK kd36_24.2.2.2.2.2.2.2.2.2.2.2 ?_
                refine X_iadd hK kd36_25.1 ?_
                refine X_puti hK fl_X8_28_9 hs_a0 (by decide) sl_9_5 (by omega) (by omega) kd36_25.2.1 (fun g718 hg718 => ?_)
                refine X_iloadn hK (i := 3) 1 kd36_25.2.2.1 rfl rfl ?_
                refine X_iconst hK kd36_25.2.2.2.1 ?_
                refine X_iloadn hK (i := 2) 2 kd36_25.2.2.2.2.1 rfl rfl ?_
                refine X_ishl hK kd36_25.2.2.2.2.2.1 (fun z719 ez719 lz719 uz719 => ?_)
                have bz719 := xshlB 6 ez719 ⟨lz719, uz719⟩ (by omega) (by decide)
                refine X_ior hK kd36_25.2.2.2.2.2.2.1 (fun z720 ez720 lz720 uz720 => ?_)
                have bz720 := xiorB 7 ez720 ⟨lz720, uz720⟩ (by omega) (by omega) (by decide)
                have gz720 := xiorG ez720 ⟨lz720, uz720⟩ (by omega) (by omega)
                refine X_istoren hK (i := 3) [(3, .int (iI z720)), (4, .int (iI z692)), (2, .int (iI z694)), (0, .ref a0), (1, .ref a1)] kd36_25.2.2.2.2.2.2.2.1 rfl (by decide) rfl ?_
                refine X_aloadn hK (i := 0) 3 kd36_25.2.2.2.2.2.2.2.2.1 rfl rfl ?_
                refine X_aloadn hK (i := 1) 4 kd36_25.2.2.2.2.2.2.2.2.2.1 rfl rfl ?_
                refine X_iloadn hK (i := 3) 0 kd36_25.2.2.2.2.2.2.2.2.2.2.1 rfl rfl ?_
                refine X_iloadn hK (i := 2) 2 kd36_25.2.2.2.2.2.2.2.2.2.2.2 rfl rfl ?_
                refine X_callV hK [.ref a1, .int (iI z720), .int (iI z694)] [] lk_X8_74 (c_nextOf_7 _ _ _ _ _ S g718 a0 a1 z720 z694 n0 w0 nw0 hs_a0 hs_a1 (by omega) (by omega) (by omega) ((xs_k hg718 (by decide)).trans ((xs_a hg717 (xne hs_a0 hs_b714 (by decide))).trans ((hg695 a0 9 0 4 hs_a0 (by decide)).trans ((xs_k hg602 (by decide)).trans en0)))) ((xs_k hg718 (by decide)).trans ((xs_a hg717 (xne hs_a0 hs_b714 (by decide))).trans ((hg695 a0 9 0 3 hs_a0 (by decide)).trans ((xs_k hg602 (by decide)).trans ew0)))) hs_w0 (by omega) (by omega)) hs_a0 ⟨by decide, rfl⟩ kd36_26.1 rfl rfl (by simp [Value.category]) (by decide) (by decide) (by decide) (by decide) (fun r721 S723 g722 pr721 qr721 hg722 => ?_)
                obtain ⟨rfl, rfl, z724, rfl, lz724, uz724⟩ := pr721
                refine X_st [.int (iI z724)] rfl ?_
                refine X_istoren hK (i := 2) [(2, .int (iI z724)), (3, .int (iI z720)), (4, .int (iI z692)), (0, .ref a0), (1, .ref a1)] kd36_26.2.1 rfl (by decide) rfl ?_
                refine X_iinc hK (i := 4) (z := z692) (n := 1) 2 [(4, .int (iI (z692 + 1))), (2, .int (iI z724)), (3, .int (iI z720)), (0, .ref a0), (1, .ref a1)] kd36_26.2.2.1 rfl (by decide) rfl ?_
                refine X_goto hK 49 kd36_26.2.2.2.1 (by decide) ?_
                refine X_lv [(4, .int (iI (z692 + 1))), (3, .int (iI z720)), (2, .int (iI z724)), (0, .ref a0), (1, .ref a1)] [0, 2, 1, 3, 4] rfl ?_
                exact ihP710  g718 (xM_up (xM_ua (xM.tr xM.rf xLe.rf hg695 (by decide)) hg717 hs_b714 (by decide) (by decide)) hg718 hs_a0 (by decide) (by decide)) (z692 + 1) (by omega) (by omega) z720 (by omega) (by omega) z724 (by omega) (by omega) (q696 + 1) (by omega) (by omega) (xs_s hg718) (by omega) (by omega)
        exact P710 ((23 - 0 : Int).toNat + 1) g602 xM.rf 0 (by omega) (by omega) 0 (by omega) (by omega) z460 (by omega) (by omega) 0 (by omega) (by omega) (xs_s hg602) (by omega) (by omega)
      · refine X_aloadn hK (i := 0) 2 kd36_21.2.2.2.2.2.2.1 rfl rfl ?_
        refine X_getK hK fl_X8_21_9 hs_a0 ew0 kd36_21.2.2.2.2.2.2.2.1 ?_
        refine X_iconst hK kd36_21.2.2.2.2.2.2.2.2.1 ?_
        refine X_iloadn hK (i := 3) 0 kd36_21.2.2.2.2.2.2.2.2.2.1 rfl rfl ?_
        refine X_ishl hK kd36_21.2.2.2.2.2.2.2.2.2.2.1 (fun z725 ez725 lz725 uz725 => ?_)
        have bz725 := xshlB 6 ez725 ⟨lz725, uz725⟩ (by omega) (by decide)
        refine X_bipush hK kd36_21.2.2.2.2.2.2.2.2.2.2.2 (by decide) ?_
        refine X_imul hK kd36_22.1 ?_
        refine X_iloadn hK (i := 3) 0 kd36_22.2.1 rfl rfl ?_
        refine X_iadd hK kd36_22.2.2.1 ?_
        refine X_iald hK hs_w0 ⟨by decide, by decide, by omega⟩ sl_13400 (by omega) (by omega) kd36_22.2.2.2.1 (fun z726 ez726 lz726 uz726 => ?_)
        refine X_ldc hK (n := 1000000) kd36_22.2.2.2.2.1 m_53_22 (by decide) ?_
        have J729 : ∀ (z728 : Int) (lz728 : (-1) ≤ z728) (uz728 : z728 ≤ 6), X K E 33 [(3, .int (iI z459)), (2, .int (iI z728)), (0, .ref a0), (1, .ref a1)] [] S g 0 0 := by
          intro z728 lz728 uz728
          refine X_iinc hK (i := 3) (z := z459) (n := (-1)) 0 [(3, .int (iI (z459 + (-1)))), (2, .int (iI z728)), (0, .ref a0), (1, .ref a1)] kd36_22.2.2.2.2.2.2.2.2.1 rfl (by decide) rfl ?_
          refine X_goto hK 9 kd36_22.2.2.2.2.2.2.2.2.2.1 (by decide) ?_
          exact ihP595  (z459 + (-1)) (by omega) (by omega) z728 (by omega) (by omega) (by omega)
        refine X_icmp_eq hK 33 (by omega) (by omega) kd36_22.2.2.2.2.2.1 (by decide) (fun c727 => ?_) (fun c727 => ?_)
        · exact J729 z460 (by omega) (by omega)
        · refine X_iloadn hK (i := 3) 0 kd36_22.2.2.2.2.2.2.1 rfl rfl ?_
          refine X_istoren hK (i := 2) [(2, .int (iI z459)), (3, .int (iI z459)), (0, .ref a0), (1, .ref a1)] kd36_22.2.2.2.2.2.2.2.1 rfl (by decide) rfl ?_
          refine X_lv [(3, .int (iI z459)), (2, .int (iI z459)), (0, .ref a0), (1, .ref a1)] [1, 0, 2, 3] rfl ?_
          exact J729 z459 (by omega) (by omega)
  exact P595 (((n0 - 1) - (-17) : Int).toNat + 1) (n0 - 1) (by omega) (by omega) (-1) (by omega) (by omega) (by omega)

set_option maxHeartbeats 4000000 in
set_option maxRecDepth 100000 in
theorem c_soonestAt_8 (l : Launch) (D : va_G) (kA : Nat → ClassId) (b0 : Nat) (t0 : Nat → Nat) (S : xT) (g : xG) (a0 : Nat) (a1 : Nat) (x2 : Int) (x3 : Int) (n0 : Int) (w0 nw0 : Nat) (hs_a0 : S a0 = some (9, 0)) (hs_a1 : S a1 = some (4, 0)) (hx2 : 1 ≤ x2 ∧ x2 ≤ 255) (hx3 : 0 ≤ x3 ∧ x3 ≤ 7) (hn0 : 8 ≤ n0 ∧ n0 ≤ 8) (en0 : g a0 4 = .int (iI n0)) (ew0 : g a0 3 = .ref w0) (hs_w0 : S w0 = some (13400, nw0)) (hp0 : 2304 ≤ (nw0 : Int)) (hp1 : (nw0 : Int) ≤ 2147483647) : xMt l yX8_soonestAt cX8_soonestAt 8 (some .int) 1 0 0 13 D kA b0 t0 [] [.ref a0, .ref a1, .int (iI x2), .int (iI x3)] S g (fun (r : Option Value) (S1 : xT) (g1 : xG) => S = S1 ∧ g = g1 ∧ ∃ z : Int, r = some (.int (iI z)) ∧ (-2147483648) ≤ z ∧ z ≤ 1000000) := by
  refine xEnterI (by decide) (by simp [lg_sl, Value.category]) [(0, .ref a0), (1, .ref a1), (2, .int (iI x2)), (3, .int (iI x3))] rfl ?_
  intro K E hK hret _ _ _
  refine X_aloadn hK (i := 1) 1 kd36_15.2.2.2.2.2.2.2.2.2.1 rfl rfl ?_
  refine X_getr hK 11604 10 fl_X8_62_4 hs_a1 sl_4_6 kd36_15.2.2.2.2.2.2.2.2.2.2.1 (fun b1 eb1 hs_b1 => ?_)
  refine X_aloadn hK (i := 0) 0 kd36_15.2.2.2.2.2.2.2.2.2.2.2 rfl rfl ?_
  refine X_getr hK 13100 9 fl_X8_11_9 hs_a0 sl_9_0 kd36_16.1 (fun b2 eb2 hs_b2 => ?_)
  refine X_iloadn hK (i := 3) 3 kd36_16.2.1 rfl rfl ?_
  refine X_iald hK hs_b2 (by decide) sl_13100 (by omega) (by omega) kd36_16.2.2.1 (fun z3 ez3 lz3 uz3 => ?_)
  refine X_aald hK 11500 10 hs_b1 (by decide) sl_11604 (by omega) (by omega) kd36_16.2.2.2.1 (fun b4 eb4 hs_b4 => ?_)
  refine X_astore hK (i := 4) [(4, .ref b4), (0, .ref a0), (1, .ref a1), (2, .int (iI x2)), (3, .int (iI x3))] kd36_16.2.2.2.2.1 (by decide) rfl ?_
  refine X_iloadn hK (i := 2) 3 kd36_16.2.2.2.2.2.1 rfl rfl ?_
  refine X_iconst hK kd36_16.2.2.2.2.2.2.1 ?_
  refine X_iloadn hK (i := 3) 4 kd36_16.2.2.2.2.2.2.2.1 rfl rfl ?_
  refine X_ishl hK kd36_16.2.2.2.2.2.2.2.2.1 (fun z5 ez5 lz5 uz5 => ?_)
  have bz5 := xshlB 7 ez5 ⟨lz5, uz5⟩ (by omega) (by decide)
  refine X_ixor hK kd36_16.2.2.2.2.2.2.2.2.2.1 (fun z6 ez6 lz6 uz6 => ?_)
  have bz6 := xixorB 8 ez6 ⟨lz6, uz6⟩ (by omega) (by omega) (by decide)
  refine X_istore hK (i := 5) [(5, .int (iI z6)), (4, .ref b4), (0, .ref a0), (1, .ref a1), (2, .int (iI x2)), (3, .int (iI x3))] kd36_16.2.2.2.2.2.2.2.2.2.2.1 (by decide) rfl ?_
  refine X_iload hK (i := 5) 0 kd36_16.2.2.2.2.2.2.2.2.2.2.2 rfl ?_
  have J10 : ∀ (z9 : Int) (lz9 : 0 ≤ z9) (uz9 : z9 ≤ 1000000), X K E 34 [(5, .int (iI z6)), (4, .ref b4), (0, .ref a0), (1, .ref a1), (2, .int (iI x2)), (3, .int (iI x3))] [.int (iI z9)] S g 0 0 := by
    intro z9 lz9 uz9
    refine X_istore hK (i := 6) [(6, .int (iI z9)), (5, .int (iI z6)), (4, .ref b4), (0, .ref a0), (1, .ref a1), (2, .int (iI x2)), (3, .int (iI x3))] kd36_17.2.2.2.2.2.2.1 (by decide) rfl ?_
    refine X_iconst hK kd36_17.2.2.2.2.2.2.2.1 ?_
    refine X_istore hK (i := 7) [(7, .int (iI 0)), (6, .int (iI z9)), (5, .int (iI z6)), (4, .ref b4), (0, .ref a0), (1, .ref a1), (2, .int (iI x2)), (3, .int (iI x3))] kd36_17.2.2.2.2.2.2.2.2.1 (by decide) rfl ?_
    have P123 : ∀ (nP123 : Nat) (z104 : Int) (_ : 0 ≤ z104) (_ : z104 ≤ 8) (z105 : Int) (_ : (-2147483648) ≤ z105) (_ : z105 ≤ 1000000) (_ : 24 - z104 < (nP123 : Int)), X K E 39 [(7, .int (iI z104)), (6, .int (iI z105)), (5, .int (iI z6)), (4, .ref b4), (0, .ref a0), (1, .ref a1), (2, .int (iI x2)), (3, .int (iI x3))] [] S g 0 0 := by
      intro nP123
      induction nP123 with
      | zero => intro z104 lz104 uz104 z105 lz105 uz105 mP123; exact False.elim (by omega)
      | succ nP123 ihP123 =>
        intro z104 lz104 uz104 z105 lz105 uz105 mP123
        refine X_iload hK (i := 7) 0 kd36_17.2.2.2.2.2.2.2.2.2.1 rfl ?_
        refine X_aloadn hK (i := 0) 4 kd36_17.2.2.2.2.2.2.2.2.2.2.1 rfl rfl ?_
        refine X_getK hK fl_X8_24_9 hs_a0 en0 kd36_17.2.2.2.2.2.2.2.2.2.2.2 ?_
        have J131 : X K E 90 [(7, .int (iI z104)), (6, .int (iI z105)), (5, .int (iI z6)), (4, .ref b4), (0, .ref a0), (1, .ref a1), (2, .int (iI x2)), (3, .int (iI x3))] [] S g 0 0 := by
          refine X_iload hK (i := 6) 1 kd36_19.2.2.2.2.2.2.2.2.2.2.2 rfl ?_
          refine X_aloadn hK (i := 0) 4 kd36_20.1 rfl rfl ?_
          refine X_getr hK 13200 9 fl_X8_15_9 hs_a0 sl_9_1 kd36_20.2.1 (fun b132 eb132 hs_b132 => ?_)
          refine X_iloadn hK (i := 3) 7 kd36_20.2.2.1 rfl rfl ?_
          refine X_iald hK hs_b132 (by decide) sl_13200 (by omega) (by omega) kd36_20.2.2.2.1 (fun z133 ez133 lz133 uz133 => ?_)
          refine X_icmp_gt hK 106 (by omega) (by omega) kd36_20.2.2.2.2.1 (by decide) (fun c134 => ?_) (fun c134 => ?_)
          · refine X_ldc hK (n := 1000000) kd36_20.2.2.2.2.2.2.2.1 m_53_22 (by decide) ?_
            exact hret _ _ _ _ _ _ _ kd36_20.2.2.2.2.2.2.2.2.1 ⟨rfl, rfl, 1000000, rfl, (by omega), (by omega)⟩ (Nat.le_refl _) (Nat.le_refl _)
          · refine X_iload hK (i := 6) 1 kd36_20.2.2.2.2.2.1 rfl ?_
            refine X_goto hK 108 kd36_20.2.2.2.2.2.2.1 (by decide) ?_
            exact hret _ _ _ _ _ _ _ kd36_20.2.2.2.2.2.2.2.2.1 ⟨rfl, rfl, z105, rfl, (by omega), (by omega)⟩ (Nat.le_refl _) (Nat.le_refl _)
        refine X_icmp_ge hK 90 (by omega) (by omega) kd36_18.1 (by decide) (fun c124 => ?_) (fun c124 => ?_)
        · exact J131 
        · refine X_iload hK (i := 5) 2 kd36_18.2.1 rfl ?_
          refine X_if_eq hK 90 (by omega) kd36_18.2.2.1 (by decide) (fun c135 => ?_) (fun c135 => ?_)
          · exact J131 
          · refine X_iload hK (i := 6) 1 kd36_18.2.2.2.1 rfl ?_
            refine X_aloadn hK (i := 0) 4 kd36_18.2.2.2.2.1 rfl rfl ?_
            refine X_getK hK fl_X8_21_9 hs_a0 ew0 kd36_18.2.2.2.2.2.1 ?_
            refine X_iload hK (i := 5) 2 kd36_18.2.2.2.2.2.2.1 rfl ?_
            refine X_bipush hK kd36_18.2.2.2.2.2.2.2.1 (by decide) ?_
            refine X_imul hK kd36_18.2.2.2.2.2.2.2.2.1 ?_
            refine X_iload hK (i := 7) 0 kd36_18.2.2.2.2.2.2.2.2.2.1 rfl ?_
            refine X_iadd hK kd36_18.2.2.2.2.2.2.2.2.2.2.1 ?_
            refine X_iald hK hs_w0 ⟨by decide, by decide, by omega⟩ sl_13400 (by omega) (by omega) kd36_18.2.2.2.2.2.2.2.2.2.2.2 (fun z136 ez136 lz136 uz136 => ?_)
            refine X_aload hK (i := 4) 3 kd36_19.1 rfl ?_
            refine X_aloadn hK (i := 0) 4 kd36_19.2.1 rfl rfl ?_
            refine X_getK hK fl_X8_11_9 hs_a0 eb2 kd36_19.2.2.1 ?_
            refine X_iload hK (i := 7) 0 kd36_19.2.2.2.1 rfl ?_
            refine X_iald hK hs_b2 (by decide) sl_13100 (by omega) (by omega) kd36_19.2.2.2.2.1 (fun z137 ez137 lz137 uz137 => ?_)
            refine X_iald hK hs_b4 (by decide) sl_11500 (by omega) (by omega) kd36_19.2.2.2.2.2.1 (fun z138 ez138 lz138 uz138 => ?_)
            refine X_iadd hK kd36_19.2.2.2.2.2.2.1 ?_
            refine X_norm (fun z139 ez139 lz139 uz139 => ?_)
            refine X_mmin hK mm_X8_68 ⟨by decide, by simp [Value.category]⟩ (by decide) (by omega) (by omega) kd36_19.2.2.2.2.2.2.2.1 (fun z140 ez140 fz140 => ?_)
            have bz140 : (-2147483648) ≤ z140 ∧ z140 ≤ 1000000 := by omega
            refine X_istore hK (i := 6) [(6, .int (iI z140)), (7, .int (iI z104)), (5, .int (iI z6)), (4, .ref b4), (0, .ref a0), (1, .ref a1), (2, .int (iI x2)), (3, .int (iI x3))] kd36_19.2.2.2.2.2.2.2.2.1 (by decide) rfl ?_
            refine X_iinc hK (i := 7) (z := z104) (n := 1) 1 [(7, .int (iI (z104 + 1))), (6, .int (iI z140)), (5, .int (iI z6)), (4, .ref b4), (0, .ref a0), (1, .ref a1), (2, .int (iI x2)), (3, .int (iI x3))] kd36_19.2.2.2.2.2.2.2.2.2.1 rfl (by decide) rfl ?_
            refine X_goto hK 39 kd36_19.2.2.2.2.2.2.2.2.2.2.1 (by decide) ?_
            exact ihP123  (z104 + 1) (by omega) (by omega) z140 (by omega) (by omega) (by omega)
    exact P123 ((24 - 0 : Int).toNat + 1) 0 (by omega) (by omega) z9 (by omega) (by omega) (by omega)
  refine X_if_ne hK 32 (by omega) kd36_17.1 (by decide) (fun c7 => ?_) (fun c7 => ?_)
  · refine X_ldc hK (n := 1000000) kd36_17.2.2.2.2.2.1 m_53_22 (by decide) ?_
    exact J10 1000000 (by omega) (by omega)
  · refine X_aload hK (i := 4) 1 kd36_17.2.1 rfl ?_
    refine X_iconst hK kd36_17.2.2.1 ?_
    refine X_iald hK hs_b4 (by decide) sl_11500 (by omega) (by omega) kd36_17.2.2.2.1 (fun z141 ez141 lz141 uz141 => ?_)
    refine X_goto hK 34 kd36_17.2.2.2.2.1 (by decide) ?_
    exact J10 z141 (by omega) (by omega)

set_option maxHeartbeats 4000000 in
set_option maxRecDepth 100000 in
theorem c_findSoonest_8 (l : Launch) (D : va_G) (kA : Nat → ClassId) (b0 : Nat) (t0 : Nat → Nat) (S : xT) (g : xG) (a0 : Nat) (a1 : Nat) (n0 : Int) (w0 nw0 : Nat) (hs_a0 : S a0 = some (9, 0)) (hs_a1 : S a1 = some (4, 0)) (hn0 : 8 ≤ n0 ∧ n0 ≤ 8) (en0 : g a0 4 = .int (iI n0)) (ew0 : g a0 3 = .ref w0) (hs_w0 : S w0 = some (13400, nw0)) (hp0 : 2304 ≤ (nw0 : Int)) (hp1 : (nw0 : Int) ≤ 2147483647) : xMt l yX8_findSoonest cX8_findSoonest 4 none 2 0 0 40 D kA b0 t0 [(13400, 0)] [.ref a0, .ref a1] S g (fun (r : Option Value) (S1 : xT) (g1 : xG) => S = S1 ∧ r = none) := by
  refine xEnterV (by decide) (by simp [lg_sl, Value.category]) [(0, .ref a0), (1, .ref a1)] rfl ?_
  intro K E hK hret _ _ _
  refine X_iconst hK kd36_4.2.2.2.2.2.2.2.2.2.2.2 ?_
  refine X_istoren hK (i := 2) [(2, .int (iI 1)), (0, .ref a0), (1, .ref a1)] kd36_5.1 rfl (by decide) rfl ?_
  have P1230 : ∀ (nP1230 : Nat) (g1026 : xG) (_ : xM [(13400, 0)] S g g1026) (z1025 : Int) (_ : 1 ≤ z1025) (_ : z1025 ≤ 256) (_ : 272 - z1025 < (nP1230 : Int)), X K E 2 [(2, .int (iI z1025)), (0, .ref a0), (1, .ref a1)] [] S g1026 0 0 := by
    intro nP1230
    induction nP1230 with
    | zero => intro g1026 hg1026 z1025 lz1025 uz1025 mP1230; exact False.elim (by omega)
    | succ nP1230 ihP1230 =>
      intro g1026 hg1026 z1025 lz1025 uz1025 mP1230
      refine X_iloadn hK (i := 2) 0 kd36_5.2.1 rfl rfl ?_
      refine X_iconst hK kd36_5.2.2.1 ?_
      refine X_aloadn hK (i := 0) 1 kd36_5.2.2.2.1 rfl rfl ?_
      refine X_getK hK fl_X8_24_9 hs_a0 ((hg1026 a0 9 0 4 hs_a0 (by decide)).trans en0) kd36_5.2.2.2.2.1 ?_
      refine X_ishl hK kd36_5.2.2.2.2.2.1 (fun z1231 ez1231 lz1231 uz1231 => ?_)
      have bz1231 := xshlB 8 ez1231 ⟨lz1231, uz1231⟩ (by omega) (by decide)
      refine X_icmp_ge hK 66 (by omega) (by omega) kd36_5.2.2.2.2.2.2.1 (by decide) (fun c1232 => ?_) (fun c1232 => ?_)
      · exact hret _ _ _ _ _ _ kd36_8.2.2.2.1 ⟨rfl, rfl⟩ (Nat.le_refl _) (Nat.le_refl _)
      · refine X_iconst hK kd36_5.2.2.2.2.2.2.2.1 ?_
        refine X_istoren hK (i := 3) [(3, .int (iI 0)), (2, .int (iI z1025)), (0, .ref a0), (1, .ref a1)] kd36_5.2.2.2.2.2.2.2.2.1 rfl (by decide) rfl ?_
        have P1404 : ∀ (nP1404 : Nat) (g1374 : xG) (_ : xM [(13400, 0)] S g1026 g1374) (z1373 : Int) (_ : 0 ≤ z1373) (_ : z1373 ≤ 8) (_ : 24 - z1373 < (nP1404 : Int)), X K E 14 [(3, .int (iI z1373)), (2, .int (iI z1025)), (0, .ref a0), (1, .ref a1)] [] S g1374 0 0 := by
          intro nP1404
          induction nP1404 with
          | zero => intro g1374 hg1374 z1373 lz1373 uz1373 mP1404; exact False.elim (by omega)
          | succ nP1404 ihP1404 =>
            intro g1374 hg1374 z1373 lz1373 uz1373 mP1404
            refine X_iloadn hK (i := 3) 0 kd36_5.2.2.2.2.2.2.2.2.2.1 rfl rfl ?_
            refine X_aloadn hK (i := 0) 2 kd36_5.2.2.2.2.2.2.2.2.2.2.1 rfl rfl ?_
            refine X_getK hK fl_X8_24_9 hs_a0 ((hg1374 a0 9 0 4 hs_a0 (by decide)).trans ((hg1026 a0 9 0 4 hs_a0 (by decide)).trans en0)) kd36_5.2.2.2.2.2.2.2.2.2.2.2 ?_
            refine X_icmp_ge hK 60 (by omega) (by omega) kd36_6.1 (by decide) (fun c1405 => ?_) (fun c1405 => ?_)
            · refine X_iinc hK (i := 2) (z := z1025) (n := 1) 1 [(2, .int (iI (z1025 + 1))), (3, .int (iI z1373)), (0, .ref a0), (1, .ref a1)] kd36_8.2.1 rfl (by decide) rfl ?_
              refine X_goto hK 2 kd36_8.2.2.1 (by decide) ?_
              refine X_lv [(2, .int (iI (z1025 + 1))), (0, .ref a0), (1, .ref a1)] [0, 2, 3] rfl ?_
              exact ihP1230  g1374 (xM.tr (xM.tr xM.rf xLe.rf hg1026 (by decide)) xLe.rf hg1374 (by decide)) (z1025 + 1) (by omega) (by omega) (by omega)
            · refine X_aloadn hK (i := 0) 2 kd36_6.2.1 rfl rfl ?_
              refine X_getK hK fl_X8_21_9 hs_a0 ((hg1374 a0 9 0 3 hs_a0 (by decide)).trans ((hg1026 a0 9 0 3 hs_a0 (by decide)).trans ew0)) kd36_6.2.2.1 ?_
              refine X_iloadn hK (i := 2) 1 kd36_6.2.2.2.1 rfl rfl ?_
              refine X_bipush hK kd36_6.2.2.2.2.1 (by decide) ?_
              refine X_imul hK kd36_6.2.2.2.2.2.1 ?_
              refine X_iloadn hK (i := 3) 0 kd36_6.2.2.2.2.2.2.1 rfl rfl ?_
              refine X_iadd hK kd36_6.2.2.2.2.2.2.2.1 ?_
              refine X_iloadn hK (i := 2) 1 kd36_6.2.2.2.2.2.2.2.2.1 rfl rfl ?_
              refine X_iloadn hK (i := 3) 0 kd36_6.2.2.2.2.2.2.2.2.2.1 rfl rfl ?_
              refine X_ishr hK kd36_6.2.2.2.2.2.2.2.2.2.2.1 (fun z1420 ez1420 lz1420 uz1420 => ?_)
              refine X_iconst hK kd36_6.2.2.2.2.2.2.2.2.2.2.2 ?_
              refine X_iand hK kd36_7.1 (fun z1421 ez1421 lz1421 uz1421 => ?_)
              have bz1421 := xandB ez1421 ⟨lz1421, uz1421⟩ (by omega)
              refine X_iconst hK kd36_7.2.1 ?_
              have J1428 : ∀ (z1427 : Int) (lz1427 : (-2147483648) ≤ z1427) (uz1427 : z1427 ≤ 1000000), X K E 53 [(3, .int (iI z1373)), (2, .int (iI z1025)), (0, .ref a0), (1, .ref a1)] [.int (iI z1427), .int (iI ((z1025 * 9) + z1373)), .ref w0] S g1374 0 0 := by
                intro z1427 lz1427 uz1427
                refine X_iast hK hs_w0 ⟨by decide, by decide, by decide, by omega⟩ (by decide) sl_13400 (by omega) (by omega) (by omega) (by omega) kd36_7.2.2.2.2.2.2.2.2.2.2.1 (fun g1429 hg1429 => ?_)
                refine X_iinc hK (i := 3) (z := z1373) (n := 1) 0 [(3, .int (iI (z1373 + 1))), (2, .int (iI z1025)), (0, .ref a0), (1, .ref a1)] kd36_7.2.2.2.2.2.2.2.2.2.2.2 rfl (by decide) rfl ?_
                refine X_goto hK 14 kd36_8.1 (by decide) ?_
                exact ihP1404  g1429 (xM_ua (xM.tr xM.rf xLe.rf hg1374 (by decide)) hg1429 hs_w0 (by decide) (by decide)) (z1373 + 1) (by omega) (by omega) (by omega)
              refine X_icmp_ne hK 51 (by omega) (by omega) kd36_7.2.2.1 (by decide) (fun c1422 => ?_) (fun c1422 => ?_)
              · refine X_ldc hK (n := 1000000) kd36_7.2.2.2.2.2.2.2.2.2.1 m_53_22 (by decide) ?_
                exact J1428 1000000 (by omega) (by omega)
              · refine X_aloadn hK (i := 0) 2 kd36_7.2.2.2.1 rfl rfl ?_
                refine X_aloadn hK (i := 1) 3 kd36_7.2.2.2.2.1 rfl rfl ?_
                refine X_iloadn hK (i := 2) 1 kd36_7.2.2.2.2.2.1 rfl rfl ?_
                refine X_iloadn hK (i := 3) 0 kd36_7.2.2.2.2.2.2.1 rfl rfl ?_
                refine X_callV hK [.ref a1, .int (iI z1025), .int (iI z1373)] [.int (iI ((z1025 * 9) + z1373)), .ref w0] lk_X8_58 (c_soonestAt_8 _ _ _ _ _ S g1374 a0 a1 z1025 z1373 n0 w0 nw0 hs_a0 hs_a1 (by omega) (by omega) (by omega) ((hg1374 a0 9 0 4 hs_a0 (by decide)).trans ((hg1026 a0 9 0 4 hs_a0 (by decide)).trans en0)) ((hg1374 a0 9 0 3 hs_a0 (by decide)).trans ((hg1026 a0 9 0 3 hs_a0 (by decide)).trans ew0)) hs_w0 (by omega) (by omega)) hs_a0 ⟨by decide, rfl⟩ kd36_7.2.2.2.2.2.2.2.1 rfl rfl (by simp [Value.category]) (by decide) (by decide) (by decide) (by decide) (fun r1430 S1432 g1431 pr1430 qr1430 hg1431 => ?_)
                obtain ⟨rfl, rfl, z1433, rfl, lz1433, uz1433⟩ := pr1430
                refine X_st [.int (iI z1433), .int (iI ((z1025 * 9) + z1373)), .ref w0] rfl ?_
                refine X_goto hK 53 kd36_7.2.2.2.2.2.2.2.2.1 (by decide) ?_
                exact J1428 z1433 (by omega) (by omega)
        exact P1404 ((24 - 0 : Int).toNat + 1) g1026 xM.rf 0 (by omega) (by omega) (by omega)
  exact P1230 ((272 - 1 : Int).toNat + 1) g xM.rf 1 (by omega) (by omega) (by omega)

set_option maxHeartbeats 4000000 in
set_option maxRecDepth 100000 in
theorem c_firstAtEnd_8 (l : Launch) (D : va_G) (kA : Nat → ClassId) (b0 : Nat) (t0 : Nat → Nat) (S : xT) (g : xG) (a0 : Nat) (n0 : Int) (w0 nw0 : Nat) (hs_a0 : S a0 = some (9, 0)) (hn0 : 8 ≤ n0 ∧ n0 ≤ 8) (en0 : g a0 4 = .int (iI n0)) (ew0 : g a0 3 = .ref w0) (hs_w0 : S w0 = some (13400, nw0)) (hp0 : 2304 ≤ (nw0 : Int)) (hp1 : (nw0 : Int) ≤ 2147483647) : xMt l yX8_firstAtEnd cX8_firstAtEnd 4 (some .int) 1 0 0 13 D kA b0 t0 [] [.ref a0] S g (fun (r : Option Value) (S1 : xT) (g1 : xG) => S = S1 ∧ g = g1 ∧ ∃ z : Int, r = some (.int (iI z)) ∧ (-2147483648) ≤ z ∧ z ≤ 1000000) := by
  refine xEnterI (by decide) (by simp [lg_sl, Value.category]) [(0, .ref a0)] rfl ?_
  intro K E hK hret _ _ _
  refine X_iconst hK kd36_8.2.2.2.2.1 ?_
  refine X_aloadn hK (i := 0) 0 kd36_8.2.2.2.2.2.1 rfl rfl ?_
  refine X_getK hK fl_X8_24_9 hs_a0 en0 kd36_8.2.2.2.2.2.2.1 ?_
  refine X_ishl hK kd36_8.2.2.2.2.2.2.2.1 (fun z1 ez1 lz1 uz1 => ?_)
  have bz1 := xshlB 8 ez1 ⟨lz1, uz1⟩ (by omega) (by decide)
  refine X_iconst hK kd36_8.2.2.2.2.2.2.2.2.1 ?_
  refine X_isub hK kd36_8.2.2.2.2.2.2.2.2.2.1 ?_
  refine X_istoren hK (i := 1) [(1, .int (iI (z1 - 1))), (0, .ref a0)] kd36_8.2.2.2.2.2.2.2.2.2.2.1 rfl (by decide) rfl ?_
  refine X_ldc hK (n := 1000000) kd36_8.2.2.2.2.2.2.2.2.2.2.2 m_53_22 (by decide) ?_
  refine X_istoren hK (i := 2) [(2, .int (iI 1000000)), (1, .int (iI (z1 - 1))), (0, .ref a0)] kd36_9.1 rfl (by decide) rfl ?_
  refine X_iconst hK kd36_9.2.1 ?_
  refine X_istoren hK (i := 3) [(3, .int (iI 0)), (2, .int (iI 1000000)), (1, .int (iI (z1 - 1))), (0, .ref a0)] kd36_9.2.2.1 rfl (by decide) rfl ?_
  have P32 : ∀ (nP32 : Nat) (z27 : Int) (_ : 0 ≤ z27) (_ : z27 ≤ 8) (z28 : Int) (_ : (-2147483648) ≤ z28) (_ : z28 ≤ 1000000) (_ : 24 - z27 < (nP32 : Int)), X K E 14 [(3, .int (iI z27)), (2, .int (iI z28)), (1, .int (iI (z1 - 1))), (0, .ref a0)] [] S g 0 0 := by
    intro nP32
    induction nP32 with
    | zero => intro z27 lz27 uz27 z28 lz28 uz28 mP32; exact False.elim (by omega)
    | succ nP32 ihP32 =>
      intro z27 lz27 uz27 z28 lz28 uz28 mP32
      refine X_iloadn hK (i := 3) 0 kd36_9.2.2.2.1 rfl rfl ?_
      refine X_aloadn hK (i := 0) 3 kd36_9.2.2.2.2.1 rfl rfl ?_
      refine X_getK hK fl_X8_24_9 hs_a0 en0 kd36_9.2.2.2.2.2.1 ?_
      refine X_icmp_ge hK 44 (by omega) (by omega) kd36_9.2.2.2.2.2.2.1 (by decide) (fun c33 => ?_) (fun c33 => ?_)
      · refine X_iloadn hK (i := 2) 1 kd36_10.2.2.2.2.2.2.2.2.1 rfl rfl ?_
        exact hret _ _ _ _ _ _ _ kd36_10.2.2.2.2.2.2.2.2.2.1 ⟨rfl, rfl, z28, rfl, (by omega), (by omega)⟩ (Nat.le_refl _) (Nat.le_refl _)
      · refine X_iloadn hK (i := 2) 1 kd36_9.2.2.2.2.2.2.2.1 rfl rfl ?_
        refine X_aloadn hK (i := 0) 3 kd36_9.2.2.2.2.2.2.2.2.1 rfl rfl ?_
        refine X_getK hK fl_X8_21_9 hs_a0 ew0 kd36_9.2.2.2.2.2.2.2.2.2.1 ?_
        refine X_iloadn hK (i := 1) 2 kd36_9.2.2.2.2.2.2.2.2.2.2.1 rfl rfl ?_
        refine X_bipush hK kd36_9.2.2.2.2.2.2.2.2.2.2.2 (by decide) ?_
        refine X_imul hK kd36_10.1 ?_
        refine X_iloadn hK (i := 3) 0 kd36_10.2.1 rfl rfl ?_
        refine X_iadd hK kd36_10.2.2.1 ?_
        refine X_iald hK hs_w0 ⟨by decide, by decide, by omega⟩ sl_13400 (by omega) (by omega) kd36_10.2.2.2.1 (fun z34 ez34 lz34 uz34 => ?_)
        refine X_mmin hK mm_X8_68 ⟨by decide, by simp [Value.category]⟩ (by decide) (by omega) (by omega) kd36_10.2.2.2.2.1 (fun z35 ez35 fz35 => ?_)
        have bz35 : (-2147483648) ≤ z35 ∧ z35 ≤ 1000000 := by omega
        refine X_istoren hK (i := 2) [(2, .int (iI z35)), (3, .int (iI z27)), (1, .int (iI (z1 - 1))), (0, .ref a0)] kd36_10.2.2.2.2.2.1 rfl (by decide) rfl ?_
        refine X_iinc hK (i := 3) (z := z27) (n := 1) 1 [(3, .int (iI (z27 + 1))), (2, .int (iI z35)), (1, .int (iI (z1 - 1))), (0, .ref a0)] kd36_10.2.2.2.2.2.2.1 rfl (by decide) rfl ?_
        refine X_goto hK 14 kd36_10.2.2.2.2.2.2.2.1 (by decide) ?_
        exact ihP32  (z27 + 1) (by omega) (by omega) z35 (by omega) (by omega) (by omega)
  exact P32 ((24 - 0 : Int).toNat + 1) 0 (by omega) (by omega) 1000000 (by omega) (by omega) (by omega)

set_option maxHeartbeats 4000000 in
set_option maxRecDepth 100000 in
theorem c_nextOf_8 (l : Launch) (D : va_G) (kA : Nat → ClassId) (b0 : Nat) (t0 : Nat → Nat) (S : xT) (g : xG) (a0 : Nat) (a1 : Nat) (x2 : Int) (x3 : Int) (n0 : Int) (w0 nw0 : Nat) (hs_a0 : S a0 = some (9, 0)) (hs_a1 : S a1 = some (4, 0)) (hx2 : 1 ≤ x2 ∧ x2 ≤ 255) (hx3 : 0 ≤ x3 ∧ x3 ≤ 7) (hn0 : 8 ≤ n0 ∧ n0 ≤ 8) (en0 : g a0 4 = .int (iI n0)) (ew0 : g a0 3 = .ref w0) (hs_w0 : S w0 = some (13400, nw0)) (hp0 : 2304 ≤ (nw0 : Int)) (hp1 : (nw0 : Int) ≤ 2147483647) : xMt l yX8_nextOf cX8_nextOf 7 (some .int) 0 0 0 0 D kA b0 t0 [] [.ref a0, .ref a1, .int (iI x2), .int (iI x3)] S g (fun (r : Option Value) (S1 : xT) (g1 : xG) => S = S1 ∧ g = g1 ∧ ∃ z : Int, r = some (.int (iI z)) ∧ (-1) ≤ z ∧ z ≤ 7) := by
  refine xEnterI (by decide) (by simp [lg_sl, Value.category]) [(0, .ref a0), (1, .ref a1), (2, .int (iI x2)), (3, .int (iI x3))] rfl ?_
  intro K E hK hret _ _ _
  refine X_aloadn hK (i := 0) 0 kd36_10.2.2.2.2.2.2.2.2.2.2.1 rfl rfl ?_
  refine X_getK hK fl_X8_21_9 hs_a0 ew0 kd36_10.2.2.2.2.2.2.2.2.2.2.2 ?_
  refine X_iloadn hK (i := 2) 2 kd36_11.1 rfl rfl ?_
  refine X_bipush hK kd36_11.2.1 (by decide) ?_
  refine X_imul hK kd36_11.2.2.1 ?_
  refine X_iloadn hK (i := 3) 3 kd36_11.2.2.2.1 rfl rfl ?_
  refine X_iadd hK kd36_11.2.2.2.2.1 ?_
  refine X_iald hK hs_w0 ⟨by decide, by decide, by omega⟩ sl_13400 (by omega) (by omega) kd36_11.2.2.2.2.2.1 (fun z1 ez1 lz1 uz1 => ?_)
  refine X_istore hK (i := 4) [(4, .int (iI z1)), (0, .ref a0), (1, .ref a1), (2, .int (iI x2)), (3, .int (iI x3))] kd36_11.2.2.2.2.2.2.1 (by decide) rfl ?_
  refine X_iconst hK kd36_11.2.2.2.2.2.2.2.1 ?_
  refine X_istore hK (i := 5) [(5, .int (iI 0)), (4, .int (iI z1)), (0, .ref a0), (1, .ref a1), (2, .int (iI x2)), (3, .int (iI x3))] kd36_11.2.2.2.2.2.2.2.2.1 (by decide) rfl ?_
  have P104 : ∀ (nP104 : Nat) (z87 : Int) (_ : 0 ≤ z87) (_ : z87 ≤ 8) (_ : 24 - z87 < (nP104 : Int)), X K E 16 [(5, .int (iI z87)), (4, .int (iI z1)), (0, .ref a0), (1, .ref a1), (2, .int (iI x2)), (3, .int (iI x3))] [] S g 0 0 := by
    intro nP104
    induction nP104 with
    | zero => intro z87 lz87 uz87 mP104; exact False.elim (by omega)
    | succ nP104 ihP104 =>
      intro z87 lz87 uz87 mP104
      refine X_iload hK (i := 5) 0 kd36_11.2.2.2.2.2.2.2.2.2.1 rfl ?_
      refine X_aloadn hK (i := 0) 2 kd36_11.2.2.2.2.2.2.2.2.2.2.1 rfl rfl ?_
      refine X_getK hK fl_X8_24_9 hs_a0 en0 kd36_11.2.2.2.2.2.2.2.2.2.2.2 ?_
      refine X_icmp_ge hK 96 (by omega) (by omega) kd36_12.1 (by decide) (fun c105 => ?_) (fun c105 => ?_)
      · refine X_iconst hK kd36_15.2.2.2.2.2.2.2.1 ?_
        exact hret _ _ _ _ _ _ _ kd36_15.2.2.2.2.2.2.2.2.1 ⟨rfl, rfl, (-1), rfl, (by omega), (by omega)⟩ (Nat.le_refl _) (Nat.le_refl _)
      · refine X_iload hK (i := 4) 1 kd36_12.2.1 rfl ?_
        refine X_ldc hK (n := 1000000) kd36_12.2.2.1 m_53_22 (by decide) ?_
        refine X_icmp_eq hK 96 (by omega) (by omega) kd36_12.2.2.2.1 (by decide) (fun c106 => ?_) (fun c106 => ?_)
        · refine X_iconst hK kd36_15.2.2.2.2.2.2.2.1 ?_
          exact hret _ _ _ _ _ _ _ kd36_15.2.2.2.2.2.2.2.2.1 ⟨rfl, rfl, (-1), rfl, (by omega), (by omega)⟩ (Nat.le_refl _) (Nat.le_refl _)
        · refine X_iload hK (i := 4) 1 kd36_12.2.2.2.2.1 rfl ?_
          refine X_aloadn hK (i := 1) 3 kd36_12.2.2.2.2.2.1 rfl rfl ?_
          refine X_getr hK 11604 10 fl_X8_62_4 hs_a1 sl_4_6 kd36_12.2.2.2.2.2.2.1 (fun b107 eb107 hs_b107 => ?_)
          refine X_aloadn hK (i := 0) 2 kd36_12.2.2.2.2.2.2.2.1 rfl rfl ?_
          refine X_getr hK 13100 9 fl_X8_11_9 hs_a0 sl_9_0 kd36_12.2.2.2.2.2.2.2.2.1 (fun b108 eb108 hs_b108 => ?_)
          refine X_iloadn hK (i := 3) 5 kd36_12.2.2.2.2.2.2.2.2.2.1 rfl rfl ?_
          refine X_iald hK hs_b108 (by decide) sl_13100 (by omega) (by omega) kd36_12.2.2.2.2.2.2.2.2.2.2.1 (fun z109 ez109 lz109 uz109 => ?_)
          refine X_aald hK 11500 10 hs_b107 (by decide) sl_11604 (by omega) (by omega) kd36_12.2.2.2.2.2.2.2.2.2.2.2 (fun b110 eb110 hs_b110 => ?_)
          refine X_aloadn hK (i := 0) 2 kd36_13.1 rfl rfl ?_
          refine X_getK hK fl_X8_11_9 hs_a0 eb108 kd36_13.2.1 ?_
          refine X_iload hK (i := 5) 0 kd36_13.2.2.1 rfl ?_
          refine X_iald hK hs_b108 (by decide) sl_13100 (by omega) (by omega) kd36_13.2.2.2.1 (fun z111 ez111 lz111 uz111 => ?_)
          refine X_iald hK hs_b110 (by decide) sl_11500 (by omega) (by omega) kd36_13.2.2.2.2.1 (fun z112 ez112 lz112 uz112 => ?_)
          refine X_iadd hK kd36_13.2.2.2.2.2.1 ?_
          refine X_norm (fun z113 ez113 lz113 uz113 => ?_)
          refine X_istore hK (i := 6) [(6, .int (iI z113)), (5, .int (iI z87)), (4, .int (iI z1)), (0, .ref a0), (1, .ref a1), (2, .int (iI x2)), (3, .int (iI x3))] kd36_13.2.2.2.2.2.2.1 (by decide) rfl ?_
          refine X_iloadn hK (i := 2) 5 kd36_13.2.2.2.2.2.2.2.1 rfl rfl ?_
          refine X_iload hK (i := 5) 1 kd36_13.2.2.2.2.2.2.2.2.1 rfl ?_
          refine X_ishr hK kd36_13.2.2.2.2.2.2.2.2.2.1 (fun z114 ez114 lz114 uz114 => ?_)
          refine X_iconst hK kd36_13.2.2.2.2.2.2.2.2.2.2.1 ?_
          refine X_iand hK kd36_13.2.2.2.2.2.2.2.2.2.2.2 (fun z115 ez115 lz115 uz115 => ?_)
          have bz115 := xandB ez115 ⟨lz115, uz115⟩ (by omega)
          refine X_if_ne hK 90 (by omega) kd36_14.1 (by decide) (fun c116 => ?_) (fun c116 => ?_)
          · refine X_iinc hK (i := 5) (z := z87) (n := 1) 1 [(5, .int (iI (z87 + 1))), (6, .int (iI z113)), (4, .int (iI z1)), (0, .ref a0), (1, .ref a1), (2, .int (iI x2)), (3, .int (iI x3))] kd36_15.2.2.2.2.2.1 rfl (by decide) rfl ?_
            refine X_goto hK 16 kd36_15.2.2.2.2.2.2.1 (by decide) ?_
            refine X_lv [(5, .int (iI (z87 + 1))), (4, .int (iI z1)), (0, .ref a0), (1, .ref a1), (2, .int (iI x2)), (3, .int (iI x3))] [0, 2, 3, 4, 5, 6] rfl ?_
            exact ihP104  (z87 + 1) (by omega) (by omega) (by omega)
          · refine X_aloadn hK (i := 0) 3 kd36_14.2.1 rfl rfl ?_
            refine X_getK hK fl_X8_21_9 hs_a0 ew0 kd36_14.2.2.1 ?_
            refine X_iloadn hK (i := 2) 5 kd36_14.2.2.2.1 rfl rfl ?_
            refine X_iconst hK kd36_14.2.2.2.2.1 ?_
            refine X_iload hK (i := 5) 1 kd36_14.2.2.2.2.2.1 rfl ?_
            refine X_ishl hK kd36_14.2.2.2.2.2.2.1 (fun z117 ez117 lz117 uz117 => ?_)
            have bz117 := xshlB 7 ez117 ⟨lz117, uz117⟩ (by omega) (by decide)
            refine X_ior hK kd36_14.2.2.2.2.2.2.2.1 (fun z118 ez118 lz118 uz118 => ?_)
            have bz118 := xiorB 8 ez118 ⟨lz118, uz118⟩ (by omega) (by omega) (by decide)
            refine X_bipush hK kd36_14.2.2.2.2.2.2.2.2.1 (by decide) ?_
            refine X_imul hK kd36_14.2.2.2.2.2.2.2.2.2.1 ?_
            refine X_iload hK (i := 5) 1 kd36_14.2.2.2.2.2.2.2.2.2.2.1 rfl ?_
            refine X_iadd hK kd36_14.2.2.2.2.2.2.2.2.2.2.2 ?_
            refine X_iald hK hs_w0 ⟨by decide, by decide, by omega⟩ sl_13400 (by omega) (by omega) kd36_15.1 (fun z119 ez119 lz119 uz119 => ?_)
            refine X_iload hK (i := 6) 0 kd36_15.2.1 rfl ?_
            refine X_icmp_ne hK 90 (by omega) (by omega) kd36_15.2.2.1 (by decide) (fun c120 => ?_) (fun c120 => ?_)
            · refine X_iinc hK (i := 5) (z := z87) (n := 1) 1 [(5, .int (iI (z87 + 1))), (6, .int (iI z113)), (4, .int (iI z1)), (0, .ref a0), (1, .ref a1), (2, .int (iI x2)), (3, .int (iI x3))] kd36_15.2.2.2.2.2.1 rfl (by decide) rfl ?_
              refine X_goto hK 16 kd36_15.2.2.2.2.2.2.1 (by decide) ?_
              refine X_lv [(5, .int (iI (z87 + 1))), (4, .int (iI z1)), (0, .ref a0), (1, .ref a1), (2, .int (iI x2)), (3, .int (iI x3))] [0, 2, 3, 4, 5, 6] rfl ?_
              exact ihP104  (z87 + 1) (by omega) (by omega) (by omega)
            · refine X_iload hK (i := 5) 1 kd36_15.2.2.2.1 rfl ?_
              exact hret _ _ _ _ _ _ _ kd36_15.2.2.2.2.1 ⟨rfl, rfl, z87, rfl, (by omega), (by omega)⟩ (Nat.le_refl _) (Nat.le_refl _)
  exact P104 ((24 - 0 : Int).toNat + 1) 0 (by omega) (by omega) (by omega)

set_option maxHeartbeats 4000000 in
set_option maxRecDepth 100000 in
theorem c_dropOthers_8 (l : Launch) (D : va_G) (kA : Nat → ClassId) (b0 : Nat) (t0 : Nat → Nat) (S : xT) (g : xG) (a0 : Nat) (a1 : Nat) (x2 : Int) (n0 : Int) (w0 nw0 : Nat) (hs_a0 : S a0 = some (9, 0)) (hs_a1 : S a1 = some (4, 0)) (hx2 : (-2147483648) ≤ x2 ∧ x2 ≤ 2147483647) (hn0 : 8 ≤ n0 ∧ n0 ≤ 8) (en0 : g a0 4 = .int (iI n0)) (ew0 : g a0 3 = .ref w0) (hs_w0 : S w0 = some (13400, nw0)) (hp0 : 2304 ≤ (nw0 : Int)) (hp1 : (nw0 : Int) ≤ 2147483647) : xMt l yX8_dropOthers cX8_dropOthers 8 none 1 0 0 26 D kA b0 t0 [(13400, 0)] [.ref a0, .ref a1, .int (iI x2)] S g (fun (r : Option Value) (S1 : xT) (g1 : xG) => S = S1 ∧ r = none) := by
  refine xEnterV (by decide) (by simp [lg_sl, Value.category]) [(0, .ref a0), (1, .ref a1), (2, .int (iI x2))] rfl ?_
  intro K E hK hret _ _ _
  refine X_iconst hK kd36_0.1 ?_
  refine X_aloadn hK (i := 0) 0 kd36_0.2.1 rfl rfl ?_
  refine X_getK hK fl_X8_24_9 hs_a0 en0 kd36_0.2.2.1 ?_
  refine X_ishl hK kd36_0.2.2.2.1 (fun z1 ez1 lz1 uz1 => ?_)
  have bz1 := xshlB 8 ez1 ⟨lz1, uz1⟩ (by omega) (by decide)
  refine X_iconst hK kd36_0.2.2.2.2.1 ?_
  refine X_isub hK kd36_0.2.2.2.2.2.1 ?_
  refine X_istoren hK (i := 3) [(3, .int (iI (z1 - 1))), (0, .ref a0), (1, .ref a1), (2, .int (iI x2))] kd36_0.2.2.2.2.2.2.1 rfl (by decide) rfl ?_
  refine X_iloadn hK (i := 3) 0 kd36_0.2.2.2.2.2.2.2.1 rfl rfl ?_
  refine X_istore hK (i := 4) [(4, .int (iI (z1 - 1))), (3, .int (iI (z1 - 1))), (0, .ref a0), (1, .ref a1), (2, .int (iI x2))] kd36_0.2.2.2.2.2.2.2.2.1 (by decide) rfl ?_
  have P1541 : ∀ (nP1541 : Nat) (g1234 : xG) (_ : xM [(13400, 0)] S g g1234) (z1233 : Int) (_ : 0 ≤ z1233) (_ : z1233 ≤ 255) (_ : z1233 - (-16) < (nP1541 : Int)), X K E 12 [(4, .int (iI z1233)), (3, .int (iI (z1 - 1))), (0, .ref a0), (1, .ref a1), (2, .int (iI x2))] [] S g1234 0 0 := by
    intro nP1541
    induction nP1541 with
    | zero => intro g1234 hg1234 z1233 lz1233 uz1233 mP1541; exact False.elim (by omega)
    | succ nP1541 ihP1541 =>
      intro g1234 hg1234 z1233 lz1233 uz1233 mP1541
      refine X_iload hK (i := 4) 0 kd36_0.2.2.2.2.2.2.2.2.2.1 rfl ?_
      refine X_if_le hK 110 (by omega) kd36_0.2.2.2.2.2.2.2.2.2.2.1 (by decide) (fun c1542 => ?_) (fun c1542 => ?_)
      · exact hret _ _ _ _ _ _ kd36_4.2.2.2.2.2.2.2.2.2.2.1 ⟨rfl, rfl⟩ (Nat.le_refl _) (Nat.le_refl _)
      · refine X_iconst hK kd36_0.2.2.2.2.2.2.2.2.2.2.2 ?_
        refine X_istore hK (i := 5) [(5, .int (iI 0)), (4, .int (iI z1233)), (3, .int (iI (z1 - 1))), (0, .ref a0), (1, .ref a1), (2, .int (iI x2))] kd36_1.1 (by decide) rfl ?_
        have P1802 : ∀ (nP1802 : Nat) (g1756 : xG) (_ : xM [(13400, 0)] S g1234 g1756) (z1755 : Int) (_ : 0 ≤ z1755) (_ : z1755 ≤ 8) (_ : 24 - z1755 < (nP1802 : Int)), X K E 20 [(5, .int (iI z1755)), (4, .int (iI z1233)), (3, .int (iI (z1 - 1))), (0, .ref a0), (1, .ref a1), (2, .int (iI x2))] [] S g1756 0 0 := by
          intro nP1802
          induction nP1802 with
          | zero => intro g1756 hg1756 z1755 lz1755 uz1755 mP1802; exact False.elim (by omega)
          | succ nP1802 ihP1802 =>
            intro g1756 hg1756 z1755 lz1755 uz1755 mP1802
            refine X_iload hK (i := 5) 0 kd36_1.2.1 rfl ?_
            refine X_aloadn hK (i := 0) 3 kd36_1.2.2.1 rfl rfl ?_
            refine X_getK hK fl_X8_24_9 hs_a0 ((hg1756 a0 9 0 4 hs_a0 (by decide)).trans ((hg1234 a0 9 0 4 hs_a0 (by decide)).trans en0)) kd36_1.2.2.2.1 ?_
            refine X_icmp_ge hK 104 (by omega) (by omega) kd36_1.2.2.2.2.1 (by decide) (fun c1803 => ?_) (fun c1803 => ?_)
            · refine X_iinc hK (i := 4) (z := z1233) (n := (-1)) 1 [(4, .int (iI (z1233 + (-1)))), (5, .int (iI z1755)), (3, .int (iI (z1 - 1))), (0, .ref a0), (1, .ref a1), (2, .int (iI x2))] kd36_4.2.2.2.2.2.2.2.2.1 rfl (by decide) rfl ?_
              refine X_goto hK 12 kd36_4.2.2.2.2.2.2.2.2.2.1 (by decide) ?_
              refine X_lv [(4, .int (iI (z1233 + (-1)))), (3, .int (iI (z1 - 1))), (0, .ref a0), (1, .ref a1), (2, .int (iI x2))] [0, 2, 3, 4, 5] rfl ?_
              exact ihP1541  g1756 (xM.tr (xM.tr xM.rf xLe.rf hg1234 (by decide)) xLe.rf hg1756 (by decide)) (z1233 + (-1)) (by omega) (by omega) (by omega)
            · refine X_iload hK (i := 4) 1 kd36_1.2.2.2.2.2.1 rfl ?_
              refine X_bipush hK kd36_1.2.2.2.2.2.2.1 (by decide) ?_
              refine X_imul hK kd36_1.2.2.2.2.2.2.2.1 ?_
              refine X_iload hK (i := 5) 0 kd36_1.2.2.2.2.2.2.2.2.1 rfl ?_
              refine X_iadd hK kd36_1.2.2.2.2.2.2.2.2.2.1 ?_
              refine X_istore hK (i := 6) [(6, .int (iI ((z1233 * 9) + z1755))), (5, .int (iI z1755)), (4, .int (iI z1233)), (3, .int (iI (z1 - 1))), (0, .ref a0), (1, .ref a1), (2, .int (iI x2))] kd36_1.2.2.2.2.2.2.2.2.2.2.1 (by decide) rfl ?_
              refine X_iload hK (i := 4) 2 kd36_1.2.2.2.2.2.2.2.2.2.2.2 rfl ?_
              refine X_iloadn hK (i := 3) 3 kd36_2.1 rfl rfl ?_
              have J1835 : ∀ (z1834 : Int) (lz1834 : 0 ≤ z1834) (uz1834 : z1834 ≤ 1), X K E 82 [(6, .int (iI ((z1233 * 9) + z1755))), (5, .int (iI z1755)), (4, .int (iI z1233)), (3, .int (iI (z1 - 1))), (0, .ref a0), (1, .ref a1), (2, .int (iI x2))] [.int (iI z1834)] S g1756 0 0 := by
                intro z1834 lz1834 uz1834
                refine X_istore hK (i := 7) [(7, .int (iI z1834)), (6, .int (iI ((z1233 * 9) + z1755))), (5, .int (iI z1755)), (4, .int (iI z1233)), (3, .int (iI (z1 - 1))), (0, .ref a0), (1, .ref a1), (2, .int (iI x2))] kd36_3.2.2.2.2.2.2.2.2.2.2.1 (by decide) rfl ?_
                refine X_iload hK (i := 7) 0 kd36_3.2.2.2.2.2.2.2.2.2.2.2 rfl ?_
                have J1838 : ∀ (g1839 : xG) (hg1839 : xM [(13400, 0)] S g1756 g1839), X K E 98 [(7, .int (iI z1834)), (6, .int (iI ((z1233 * 9) + z1755))), (5, .int (iI z1755)), (4, .int (iI z1233)), (3, .int (iI (z1 - 1))), (0, .ref a0), (1, .ref a1), (2, .int (iI x2))] [] S g1839 0 0 := by
                  intro g1839 hg1839
                  refine X_iinc hK (i := 5) (z := z1755) (n := 1) 2 [(5, .int (iI (z1755 + 1))), (7, .int (iI z1834)), (6, .int (iI ((z1233 * 9) + z1755))), (4, .int (iI z1233)), (3, .int (iI (z1 - 1))), (0, .ref a0), (1, .ref a1), (2, .int (iI x2))] kd36_4.2.2.2.2.2.2.1 rfl (by decide) rfl ?_
                  refine X_goto hK 20 kd36_4.2.2.2.2.2.2.2.1 (by decide) ?_
                  refine X_lv [(5, .int (iI (z1755 + 1))), (4, .int (iI z1233)), (3, .int (iI (z1 - 1))), (0, .ref a0), (1, .ref a1), (2, .int (iI x2))] [0, 3, 4, 5, 6, 7] rfl ?_
                  exact ihP1802  g1839 (xM.tr (xM.tr xM.rf xLe.rf hg1756 (by decide)) xLe.rf hg1839 (by decide)) (z1755 + 1) (by omega) (by omega) (by omega)
                refine X_if_ne hK 98 (by omega) kd36_4.1 (by decide) (fun c1836 => ?_) (fun c1836 => ?_)
                · exact J1838 g1756 xM.rf
                · refine X_aloadn hK (i := 0) 5 kd36_4.2.1 rfl rfl ?_
                  refine X_getK hK fl_X8_21_9 hs_a0 ((hg1756 a0 9 0 3 hs_a0 (by decide)).trans ((hg1234 a0 9 0 3 hs_a0 (by decide)).trans ew0)) kd36_4.2.2.1 ?_
                  refine X_iload hK (i := 6) 1 kd36_4.2.2.2.1 rfl ?_
                  refine X_ldc hK (n := 1000000) kd36_4.2.2.2.2.1 m_53_22 (by decide) ?_
                  refine X_iast hK hs_w0 ⟨by decide, by decide, by decide, by omega⟩ (by decide) sl_13400 (by omega) (by omega) (by omega) (by omega) kd36_4.2.2.2.2.2.1 (fun g1840 hg1840 => ?_)
                  exact J1838 g1840 (xM_ua xM.rf hg1840 hs_w0 (by decide) (by decide))
              refine X_icmp_ne hK 64 (by omega) (by omega) kd36_2.2.1 (by decide) (fun c1826 => ?_) (fun c1826 => ?_)
              · refine X_aloadn hK (i := 0) 4 kd36_3.1 rfl rfl ?_
                refine X_aloadn hK (i := 1) 5 kd36_3.2.1 rfl rfl ?_
                refine X_iload hK (i := 4) 2 kd36_3.2.2.1 rfl ?_
                refine X_iload hK (i := 5) 1 kd36_3.2.2.2.1 rfl ?_
                refine X_callV hK [.ref a1, .int (iI z1233), .int (iI z1755)] [] lk_X8_74 (c_nextOf_8 _ _ _ _ _ S g1756 a0 a1 z1233 z1755 n0 w0 nw0 hs_a0 hs_a1 (by omega) (by omega) (by omega) ((hg1756 a0 9 0 4 hs_a0 (by decide)).trans ((hg1234 a0 9 0 4 hs_a0 (by decide)).trans en0)) ((hg1756 a0 9 0 3 hs_a0 (by decide)).trans ((hg1234 a0 9 0 3 hs_a0 (by decide)).trans ew0)) hs_w0 (by omega) (by omega)) hs_a0 ⟨by decide, rfl⟩ kd36_3.2.2.2.2.1 rfl rfl (by simp [Value.category]) (by decide) (by decide) (by decide) (by decide) (fun r1841 S1843 g1842 pr1841 qr1841 hg1842 => ?_)
                obtain ⟨rfl, rfl, z1844, rfl, lz1844, uz1844⟩ := pr1841
                refine X_st [.int (iI z1844)] rfl ?_
                refine X_iconst hK kd36_3.2.2.2.2.2.1 ?_
                refine X_icmp_eq hK 81 (by omega) (by omega) kd36_3.2.2.2.2.2.2.1 (by decide) (fun c1845 => ?_) (fun c1845 => ?_)
                · refine X_iconst hK kd36_3.2.2.2.2.2.2.2.2.2.1 ?_
                  exact J1835 0 (by omega) (by omega)
                · refine X_iconst hK kd36_3.2.2.2.2.2.2.2.1 ?_
                  refine X_goto hK 82 kd36_3.2.2.2.2.2.2.2.2.1 (by decide) ?_
                  exact J1835 1 (by omega) (by omega)
              · refine X_aloadn hK (i := 0) 4 kd36_2.2.2.1 rfl rfl ?_
                refine X_getK hK fl_X8_21_9 hs_a0 ((hg1756 a0 9 0 3 hs_a0 (by decide)).trans ((hg1234 a0 9 0 3 hs_a0 (by decide)).trans ew0)) kd36_2.2.2.2.1 ?_
                refine X_iload hK (i := 6) 0 kd36_2.2.2.2.2.1 rfl ?_
                refine X_iald hK hs_w0 ⟨by decide, by decide, by omega⟩ sl_13400 (by omega) (by omega) kd36_2.2.2.2.2.2.1 (fun z1846 ez1846 lz1846 uz1846 => ?_)
                refine X_iloadn hK (i := 2) 6 kd36_2.2.2.2.2.2.2.1 rfl rfl ?_
                refine X_icmp_ne hK 60 (by omega) (by omega) kd36_2.2.2.2.2.2.2.2.1 (by decide) (fun c1847 => ?_) (fun c1847 => ?_)
                · refine X_iconst hK kd36_2.2.2.2.2.2.2.2.2.2.2.1 ?_
                  refine X_goto hK 82 kd36_2.2.2.2.2.2.2.2.2.2.2.2 (by decide) ?_
                  exact J1835 0 (by omega) (by omega)
                · refine X_iconst hK kd36_2.2.2.2.2.2.2.2.2.1 ?_
                  refine X_goto hK 82 kd36_2.2.2.2.2.2.2.2.2.2.1 (by decide) ?_
                  exact J1835 1 (by omega) (by omega)
        exact P1802 ((24 - 0 : Int).toNat + 1) g1234 xM.rf 0 (by omega) (by omega) (by omega)
  exact P1541 (((z1 - 1) - (-16) : Int).toNat + 1) g xM.rf (z1 - 1) (by omega) (by omega) (by omega)

set_option maxHeartbeats 4000000 in
set_option maxRecDepth 100000 in
theorem c_walk_8 (l : Launch) (D : va_G) (kA : Nat → ClassId) (b0 : Nat) (t0 : Nat → Nat) (S : xT) (g : xG) (a0 : Nat) (a1 : Nat) (n0 : Int) (w0 nw0 : Nat) (hs_a0 : S a0 = some (9, 0)) (hs_a1 : S a1 = some (4, 0)) (hn0 : 8 ≤ n0 ∧ n0 ≤ 8) (en0 : g a0 4 = .int (iI n0)) (ew0 : g a0 3 = .ref w0) (hs_w0 : S w0 = some (13400, nw0)) (hp0 : 2304 ≤ (nw0 : Int)) (hp1 : (nw0 : Int) ≤ 2147483647) : xMt l yX8_walk cX8_walk 5 none 1 0 0 26 D kA b0 t0 [(9, 5), (13300, 0)] [.ref a0, .ref a1] S g (fun (r : Option Value) (S1 : xT) (g1 : xG) => S = S1 ∧ r = none) := by
  refine xEnterV (by decide) (by simp [lg_sl, Value.category]) [(0, .ref a0), (1, .ref a1)] rfl ?_
  intro K E hK hret _ _ _
  refine X_iconst hK kd36_20.2.2.2.2.2.2.2.2.2.1 ?_
  refine X_istoren hK (i := 2) [(2, .int (iI (-1))), (0, .ref a0), (1, .ref a1)] kd36_20.2.2.2.2.2.2.2.2.2.2.1 rfl (by decide) rfl ?_
  refine X_aloadn hK (i := 0) 1 kd36_20.2.2.2.2.2.2.2.2.2.2.2 rfl rfl ?_
  refine X_getK hK fl_X8_24_9 hs_a0 en0 kd36_21.1 ?_
  refine X_iconst hK kd36_21.2.1 ?_
  refine X_isub hK kd36_21.2.2.1 ?_
  refine X_istoren hK (i := 3) [(3, .int (iI (n0 - 1))), (2, .int (iI (-1))), (0, .ref a0), (1, .ref a1)] kd36_21.2.2.2.1 rfl (by decide) rfl ?_
  have P595 : ∀ (nP595 : Nat) (z459 : Int) (_ : (-1) ≤ z459) (_ : z459 ≤ 7) (z460 : Int) (_ : (-1) ≤ z460) (_ : z460 ≤ 7) (_ : z459 - (-17) < (nP595 : Int)), X K E 9 [(3, .int (iI z459)), (2, .int (iI z460)), (0, .ref a0), (1, .ref a1)] [] S g 0 0 := by
    intro nP595
    induction nP595 with
    | zero => intro z459 lz459 uz459 z460 lz460 uz460 mP595; exact False.elim (by omega)
    | succ nP595 ihP595 =>
      intro z459 lz459 uz459 z460 lz460 uz460 mP595
      refine X_iloadn hK (i := 3) 0 kd36_21.2.2.2.2.1 rfl rfl ?_
      refine X_if_lt hK 39 (by omega) kd36_21.2.2.2.2.2.1 (by decide) (fun c596 => ?_) (fun c596 => ?_)
      · refine X_iconst hK kd36_22.2.2.2.2.2.2.2.2.2.2.1 ?_
        refine X_istoren hK (i := 3) [(3, .int (iI 0)), (2, .int (iI z460)), (0, .ref a0), (1, .ref a1)] kd36_22.2.2.2.2.2.2.2.2.2.2.2 rfl (by decide) rfl ?_
        refine X_aloadn hK (i := 0) 2 kd36_23.1 rfl rfl ?_
        refine X_iconst hK kd36_23.2.1 ?_
        refine X_puti hK fl_X8_28_9 hs_a0 (by decide) sl_9_5 (by omega) (by omega) kd36_23.2.2.1 (fun g602 hg602 => ?_)
        refine X_iconst hK kd36_23.2.2.2.1 ?_
        refine X_istore hK (i := 4) [(4, .int (iI 0)), (3, .int (iI 0)), (2, .int (iI z460)), (0, .ref a0), (1, .ref a1)] kd36_23.2.2.2.2.1 (by decide) rfl ?_
        have P710 : ∀ (nP710 : Nat) (g695 : xG) (_ : xM [(9, 5), (13300, 0)] S g602 g695) (z692 : Int) (_ : 0 ≤ z692) (_ : z692 ≤ 8) (z693 : Int) (_ : 0 ≤ z693) (_ : z693 ≤ 255) (z694 : Int) (_ : (-1) ≤ z694) (_ : z694 ≤ 7) (q696 : Int) (_ : 0 ≤ q696) (_ : q696 ≤ 9) (_ : g695 a0 5 = .int (iI q696)) (_ : q696 ≤ z692) (_ : 24 - z692 < (nP710 : Int)), X K E 49 [(4, .int (iI z692)), (3, .int (iI z693)), (2, .int (iI z694)), (0, .ref a0), (1, .ref a1)] [] S g695 0 0 := by
          intro nP710
          induction nP710 with
          | zero => intro g695 hg695 z692 lz692 uz692 z693 lz693 uz693 z694 lz694 uz694 q696 lq696 uq696 eq696 v711 mP710; exact False.elim (by omega)
          | succ nP710 ihP710 =>
            intro g695 hg695 z692 lz692 uz692 z693 lz693 uz693 z694 lz694 uz694 q696 lq696 uq696 eq696 v711 mP710
            refine X_iload hK (i := 4) 0 kd36_23.2.2.2.2.2.1 rfl ?_
            refine X_aloadn hK (i := 0) 3 kd36_23.2.2.2.2.2.2.1 rfl rfl ?_
            refine X_getK hK fl_X8_24_9 hs_a0 ((hg695 a0 9 0 4 hs_a0 (by decide)).trans ((xs_k hg602 (by decide)).trans en0)) kd36_23.2.2.2.2.2.2.2.1 ?_
            refine X_icmp_ge hK 106 (by omega) (by omega) kd36_23.2.2.2.2.2.2.2.2.1 (by decide) (fun c712 => ?_) (fun c712 => ?_)
            · exact hret _ _ _ _ _ _ kd36_26.2.2.2.2 ⟨rfl, rfl⟩ (Nat.le_refl _) (Nat.le_refl _)
            · refine X_iloadn hK (i := 2) 2 kd36_23.2.2.2.2.2.2.2.2.2.1 rfl rfl ?_
              refine X_iconst hK kd36_23.2.2.2.2.2.2.2.2.2.2.1 ?_
              refine X_icmp_eq hK 106 (by omega) (by omega) kd36_23.2.2.2.2.2.2.2.2.2.2.2 (by decide) (fun c713 => ?_) (fun c713 => ?_)
              · exact hret _ _ _ _ _ _ kd36_26.2.2.2.2 ⟨rfl, rfl⟩ (Nat.le_refl _) (Nat.le_refl _)
              · refine X_aloadn hK (i := 0) 3 kd36_24.1 rfl rfl ?_
                refine X_getr hK 13300 9 fl_X8_18_9 hs_a0 sl_9_2 kd36_24.2.1 (fun b714 eb714 hs_b714 => ?_)
                refine X_iload hK (i := 4) 0 kd36_24.2.2.1 rfl ?_
                refine X_aloadn hK (i := 0) 3 kd36_24.2.2.2.1 rfl rfl ?_
                refine X_getr hK 13100 9 fl_X8_11_9 hs_a0 sl_9_0 kd36_24.2.2.2.2.1 (fun b715 eb715 hs_b715 => ?_)
                refine X_iloadn hK (i := 2) 2 kd36_24.2.2.2.2.2.1 rfl rfl ?_
                refine X_iald hK hs_b715 (by decide) sl_13100 (by omega) (by omega) kd36_24.2.2.2.2.2.2.1 (fun z716 ez716 lz716 uz716 => ?_)
                refine X_iast hK hs_b714 (by decide) (by decide) sl_13300 (by omega) (by omega) (by omega) (by omega) kd36_24.2.2.2.2.2.2.2.1 (fun g717 hg717 => ?_)
                refine X_aloadn hK (i := 0) 3 kd36_24.2.2.2.2.2.2.2.2.1 rfl rfl ?_
                refine X_dup hK kd36_24.2.2.2.2.2.2.2.2.2.1 rfl ?_
                refine X_getK hK fl_X8_28_9 hs_a0 ((xs_a hg717 (xne hs_a0 hs_b714 (by decide))).trans eq696) kd36_24.2.2.2.2.2.2.2.2.2.2.1 ?_
                refine X_iconst hK kd36_24.2.2.2.2.2.2.2.2.2.2.2 ?_
                refine X_iadd hK kd36_25.1 ?_
                refine X_puti hK fl_X8_28_9 hs_a0 (by decide) sl_9_5 (by omega) (by omega) kd36_25.2.1 (fun g718 hg718 => ?_)
                refine X_iloadn hK (i := 3) 1 kd36_25.2.2.1 rfl rfl ?_
                refine X_iconst hK kd36_25.2.2.2.1 ?_
                refine X_iloadn hK (i := 2) 2 kd36_25.2.2.2.2.1 rfl rfl ?_
                refine X_ishl hK kd36_25.2.2.2.2.2.1 (fun z719 ez719 lz719 uz719 => ?_)
                have bz719 := xshlB 7 ez719 ⟨lz719, uz719⟩ (by omega) (by decide)
                refine X_ior hK kd36_25.2.2.2.2.2.2.1 (fun z720 ez720 lz720 uz720 => ?_)
                have bz720 := xiorB 8 ez720 ⟨lz720, uz720⟩ (by omega) (by omega) (by decide)
                have gz720 := xiorG ez720 ⟨lz720, uz720⟩ (by omega) (by omega)
                refine X_istoren hK (i := 3) [(3, .int (iI z720)), (4, .int (iI z692)), (2, .int (iI z694)), (0, .ref a0), (1, .ref a1)] kd36_25.2.2.2.2.2.2.2.1 rfl (by decide) rfl ?_
                refine X_aloadn hK (i := 0) 3 kd36_25.2.2.2.2.2.2.2.2.1 rfl rfl ?_
                refine X_aloadn hK (i := 1) 4 kd36_25.2.2.2.2.2.2.2.2.2.1 rfl rfl ?_
                refine X_iloadn hK (i := 3) 0 kd36_25.2.2.2.2.2.2.2.2.2.2.1 rfl rfl ?_
                refine X_iloadn hK (i := 2) 2 kd36_25.2.2.2.2.2.2.2.2.2.2.2 rfl rfl ?_
                refine X_callV hK [.ref a1, .int (iI z720), .int (iI z694)] [] lk_X8_74 (c_nextOf_8 _ _ _ _ _ S g718 a0 a1 z720 z694 n0 w0 nw0 hs_a0 hs_a1 (by omega) (by omega) (by omega) ((xs_k hg718 (by decide)).trans ((xs_a hg717 (xne hs_a0 hs_b714 (by decide))).trans ((hg695 a0 9 0 4 hs_a0 (by decide)).trans ((xs_k hg602 (by decide)).trans en0)))) ((xs_k hg718 (by decide)).trans ((xs_a hg717 (xne hs_a0 hs_b714 (by decide))).trans ((hg695 a0 9 0 3 hs_a0 (by decide)).trans ((xs_k hg602 (by decide)).trans ew0)))) hs_w0 (by omega) (by omega)) hs_a0 ⟨by decide, rfl⟩ kd36_26.1 rfl rfl (by simp [Value.category]) (by decide) (by decide) (by decide) (by decide) (fun r721 S723 g722 pr721 qr721 hg722 => ?_)
                obtain ⟨rfl, rfl, z724, rfl, lz724, uz724⟩ := pr721
                refine X_st [.int (iI z724)] rfl ?_
                refine X_istoren hK (i := 2) [(2, .int (iI z724)), (3, .int (iI z720)), (4, .int (iI z692)), (0, .ref a0), (1, .ref a1)] kd36_26.2.1 rfl (by decide) rfl ?_
                refine X_iinc hK (i := 4) (z := z692) (n := 1) 2 [(4, .int (iI (z692 + 1))), (2, .int (iI z724)), (3, .int (iI z720)), (0, .ref a0), (1, .ref a1)] kd36_26.2.2.1 rfl (by decide) rfl ?_
                refine X_goto hK 49 kd36_26.2.2.2.1 (by decide) ?_
                refine X_lv [(4, .int (iI (z692 + 1))), (3, .int (iI z720)), (2, .int (iI z724)), (0, .ref a0), (1, .ref a1)] [0, 2, 1, 3, 4] rfl ?_
                exact ihP710  g718 (xM_up (xM_ua (xM.tr xM.rf xLe.rf hg695 (by decide)) hg717 hs_b714 (by decide) (by decide)) hg718 hs_a0 (by decide) (by decide)) (z692 + 1) (by omega) (by omega) z720 (by omega) (by omega) z724 (by omega) (by omega) (q696 + 1) (by omega) (by omega) (xs_s hg718) (by omega) (by omega)
        exact P710 ((24 - 0 : Int).toNat + 1) g602 xM.rf 0 (by omega) (by omega) 0 (by omega) (by omega) z460 (by omega) (by omega) 0 (by omega) (by omega) (xs_s hg602) (by omega) (by omega)
      · refine X_aloadn hK (i := 0) 2 kd36_21.2.2.2.2.2.2.1 rfl rfl ?_
        refine X_getK hK fl_X8_21_9 hs_a0 ew0 kd36_21.2.2.2.2.2.2.2.1 ?_
        refine X_iconst hK kd36_21.2.2.2.2.2.2.2.2.1 ?_
        refine X_iloadn hK (i := 3) 0 kd36_21.2.2.2.2.2.2.2.2.2.1 rfl rfl ?_
        refine X_ishl hK kd36_21.2.2.2.2.2.2.2.2.2.2.1 (fun z725 ez725 lz725 uz725 => ?_)
        have bz725 := xshlB 7 ez725 ⟨lz725, uz725⟩ (by omega) (by decide)
        refine X_bipush hK kd36_21.2.2.2.2.2.2.2.2.2.2.2 (by decide) ?_
        refine X_imul hK kd36_22.1 ?_
        refine X_iloadn hK (i := 3) 0 kd36_22.2.1 rfl rfl ?_
        refine X_iadd hK kd36_22.2.2.1 ?_
        refine X_iald hK hs_w0 ⟨by decide, by decide, by omega⟩ sl_13400 (by omega) (by omega) kd36_22.2.2.2.1 (fun z726 ez726 lz726 uz726 => ?_)
        refine X_ldc hK (n := 1000000) kd36_22.2.2.2.2.1 m_53_22 (by decide) ?_
        have J729 : ∀ (z728 : Int) (lz728 : (-1) ≤ z728) (uz728 : z728 ≤ 7), X K E 33 [(3, .int (iI z459)), (2, .int (iI z728)), (0, .ref a0), (1, .ref a1)] [] S g 0 0 := by
          intro z728 lz728 uz728
          refine X_iinc hK (i := 3) (z := z459) (n := (-1)) 0 [(3, .int (iI (z459 + (-1)))), (2, .int (iI z728)), (0, .ref a0), (1, .ref a1)] kd36_22.2.2.2.2.2.2.2.2.1 rfl (by decide) rfl ?_
          refine X_goto hK 9 kd36_22.2.2.2.2.2.2.2.2.2.1 (by decide) ?_
          exact ihP595  (z459 + (-1)) (by omega) (by omega) z728 (by omega) (by omega) (by omega)
        refine X_icmp_eq hK 33 (by omega) (by omega) kd36_22.2.2.2.2.2.1 (by decide) (fun c727 => ?_) (fun c727 => ?_)
        · exact J729 z460 (by omega) (by omega)
        · refine X_iloadn hK (i := 3) 0 kd36_22.2.2.2.2.2.2.1 rfl rfl ?_
          refine X_istoren hK (i := 2) [(2, .int (iI z459)), (3, .int (iI z459)), (0, .ref a0), (1, .ref a1)] kd36_22.2.2.2.2.2.2.2.1 rfl (by decide) rfl ?_
          refine X_lv [(3, .int (iI z459)), (2, .int (iI z459)), (0, .ref a0), (1, .ref a1)] [1, 0, 2, 3] rfl ?_
          exact J729 z459 (by omega) (by omega)
  exact P595 (((n0 - 1) - (-17) : Int).toNat + 1) (n0 - 1) (by omega) (by omega) (-1) (by omega) (by omega) (by omega)

set_option maxHeartbeats 4000000 in
set_option maxRecDepth 100000 in
theorem c_soonestAt_9 (l : Launch) (D : va_G) (kA : Nat → ClassId) (b0 : Nat) (t0 : Nat → Nat) (S : xT) (g : xG) (a0 : Nat) (a1 : Nat) (x2 : Int) (x3 : Int) (n0 : Int) (w0 nw0 : Nat) (hs_a0 : S a0 = some (9, 0)) (hs_a1 : S a1 = some (4, 0)) (hx2 : 1 ≤ x2 ∧ x2 ≤ 511) (hx3 : 0 ≤ x3 ∧ x3 ≤ 8) (hn0 : 9 ≤ n0 ∧ n0 ≤ 9) (en0 : g a0 4 = .int (iI n0)) (ew0 : g a0 3 = .ref w0) (hs_w0 : S w0 = some (13400, nw0)) (hp0 : 4608 ≤ (nw0 : Int)) (hp1 : (nw0 : Int) ≤ 2147483647) : xMt l yX8_soonestAt cX8_soonestAt 8 (some .int) 1 0 0 13 D kA b0 t0 [] [.ref a0, .ref a1, .int (iI x2), .int (iI x3)] S g (fun (r : Option Value) (S1 : xT) (g1 : xG) => S = S1 ∧ g = g1 ∧ ∃ z : Int, r = some (.int (iI z)) ∧ (-2147483648) ≤ z ∧ z ≤ 1000000) := by
  refine xEnterI (by decide) (by simp [lg_sl, Value.category]) [(0, .ref a0), (1, .ref a1), (2, .int (iI x2)), (3, .int (iI x3))] rfl ?_
  intro K E hK hret _ _ _
  refine X_aloadn hK (i := 1) 1 kd36_15.2.2.2.2.2.2.2.2.2.1 rfl rfl ?_
  refine X_getr hK 11604 10 fl_X8_62_4 hs_a1 sl_4_6 kd36_15.2.2.2.2.2.2.2.2.2.2.1 (fun b1 eb1 hs_b1 => ?_)
  refine X_aloadn hK (i := 0) 0 kd36_15.2.2.2.2.2.2.2.2.2.2.2 rfl rfl ?_
  refine X_getr hK 13100 9 fl_X8_11_9 hs_a0 sl_9_0 kd36_16.1 (fun b2 eb2 hs_b2 => ?_)
  refine X_iloadn hK (i := 3) 3 kd36_16.2.1 rfl rfl ?_
  refine X_iald hK hs_b2 (by decide) sl_13100 (by omega) (by omega) kd36_16.2.2.1 (fun z3 ez3 lz3 uz3 => ?_)
  refine X_aald hK 11500 10 hs_b1 (by decide) sl_11604 (by omega) (by omega) kd36_16.2.2.2.1 (fun b4 eb4 hs_b4 => ?_)
  refine X_astore hK (i := 4) [(4, .ref b4), (0, .ref a0), (1, .ref a1), (2, .int (iI x2)), (3, .int (iI x3))] kd36_16.2.2.2.2.1 (by decide) rfl ?_
  refine X_iloadn hK (i := 2) 3 kd36_16.2.2.2.2.2.1 rfl rfl ?_
  refine X_iconst hK kd36_16.2.2.2.2.2.2.1 ?_
  refine X_iloadn hK (i := 3) 4 kd36_16.2.2.2.2.2.2.2.1 rfl rfl ?_
  refine X_ishl hK kd36_16.2.2.2.2.2.2.2.2.1 (fun z5 ez5 lz5 uz5 => ?_)
  have bz5 := xshlB 8 ez5 ⟨lz5, uz5⟩ (by omega) (by decide)
  refine X_ixor hK kd36_16.2.2.2.2.2.2.2.2.2.1 (fun z6 ez6 lz6 uz6 => ?_)
  have bz6 := xixorB 9 ez6 ⟨lz6, uz6⟩ (by omega) (by omega) (by decide)
  refine X_istore hK (i := 5) [(5, .int (iI z6)), (4, .ref b4), (0, .ref a0), (1, .ref a1), (2, .int (iI x2)), (3, .int (iI x3))] kd36_16.2.2.2.2.2.2.2.2.2.2.1 (by decide) rfl ?_
  refine X_iload hK (i := 5) 0 kd36_16.2.2.2.2.2.2.2.2.2.2.2 rfl ?_
  have J10 : ∀ (z9 : Int) (lz9 : 0 ≤ z9) (uz9 : z9 ≤ 1000000), X K E 34 [(5, .int (iI z6)), (4, .ref b4), (0, .ref a0), (1, .ref a1), (2, .int (iI x2)), (3, .int (iI x3))] [.int (iI z9)] S g 0 0 := by
    intro z9 lz9 uz9
    refine X_istore hK (i := 6) [(6, .int (iI z9)), (5, .int (iI z6)), (4, .ref b4), (0, .ref a0), (1, .ref a1), (2, .int (iI x2)), (3, .int (iI x3))] kd36_17.2.2.2.2.2.2.1 (by decide) rfl ?_
    refine X_iconst hK kd36_17.2.2.2.2.2.2.2.1 ?_
    refine X_istore hK (i := 7) [(7, .int (iI 0)), (6, .int (iI z9)), (5, .int (iI z6)), (4, .ref b4), (0, .ref a0), (1, .ref a1), (2, .int (iI x2)), (3, .int (iI x3))] kd36_17.2.2.2.2.2.2.2.2.1 (by decide) rfl ?_
    have P123 : ∀ (nP123 : Nat) (z104 : Int) (_ : 0 ≤ z104) (_ : z104 ≤ 9) (z105 : Int) (_ : (-2147483648) ≤ z105) (_ : z105 ≤ 1000000) (_ : 25 - z104 < (nP123 : Int)), X K E 39 [(7, .int (iI z104)), (6, .int (iI z105)), (5, .int (iI z6)), (4, .ref b4), (0, .ref a0), (1, .ref a1), (2, .int (iI x2)), (3, .int (iI x3))] [] S g 0 0 := by
      intro nP123
      induction nP123 with
      | zero => intro z104 lz104 uz104 z105 lz105 uz105 mP123; exact False.elim (by omega)
      | succ nP123 ihP123 =>
        intro z104 lz104 uz104 z105 lz105 uz105 mP123
        refine X_iload hK (i := 7) 0 kd36_17.2.2.2.2.2.2.2.2.2.1 rfl ?_
        refine X_aloadn hK (i := 0) 4 kd36_17.2.2.2.2.2.2.2.2.2.2.1 rfl rfl ?_
        refine X_getK hK fl_X8_24_9 hs_a0 en0 kd36_17.2.2.2.2.2.2.2.2.2.2.2 ?_
        have J131 : X K E 90 [(7, .int (iI z104)), (6, .int (iI z105)), (5, .int (iI z6)), (4, .ref b4), (0, .ref a0), (1, .ref a1), (2, .int (iI x2)), (3, .int (iI x3))] [] S g 0 0 := by
          refine X_iload hK (i := 6) 1 kd36_19.2.2.2.2.2.2.2.2.2.2.2 rfl ?_
          refine X_aloadn hK (i := 0) 4 kd36_20.1 rfl rfl ?_
          refine X_getr hK 13200 9 fl_X8_15_9 hs_a0 sl_9_1 kd36_20.2.1 (fun b132 eb132 hs_b132 => ?_)
          refine X_iloadn hK (i := 3) 7 kd36_20.2.2.1 rfl rfl ?_
          refine X_iald hK hs_b132 (by decide) sl_13200 (by omega) (by omega) kd36_20.2.2.2.1 (fun z133 ez133 lz133 uz133 => ?_)
          refine X_icmp_gt hK 106 (by omega) (by omega) kd36_20.2.2.2.2.1 (by decide) (fun c134 => ?_) (fun c134 => ?_)
          · refine X_ldc hK (n := 1000000) kd36_20.2.2.2.2.2.2.2.1 m_53_22 (by decide) ?_
            exact hret _ _ _ _ _ _ _ kd36_20.2.2.2.2.2.2.2.2.1 ⟨rfl, rfl, 1000000, rfl, (by omega), (by omega)⟩ (Nat.le_refl _) (Nat.le_refl _)
          · refine X_iload hK (i := 6) 1 kd36_20.2.2.2.2.2.1 rfl ?_
            refine X_goto hK 108 kd36_20.2.2.2.2.2.2.1 (by decide) ?_
            exact hret _ _ _ _ _ _ _ kd36_20.2.2.2.2.2.2.2.2.1 ⟨rfl, rfl, z105, rfl, (by omega), (by omega)⟩ (Nat.le_refl _) (Nat.le_refl _)
        refine X_icmp_ge hK 90 (by omega) (by omega) kd36_18.1 (by decide) (fun c124 => ?_) (fun c124 => ?_)
        · exact J131 
        · refine X_iload hK (i := 5) 2 kd36_18.2.1 rfl ?_
          refine X_if_eq hK 90 (by omega) kd36_18.2.2.1 (by decide) (fun c135 => ?_) (fun c135 => ?_)
          · exact J131 
          · refine X_iload hK (i := 6) 1 kd36_18.2.2.2.1 rfl ?_
            refine X_aloadn hK (i := 0) 4 kd36_18.2.2.2.2.1 rfl rfl ?_
            refine X_getK hK fl_X8_21_9 hs_a0 ew0 kd36_18.2.2.2.2.2.1 ?_
            refine X_iload hK (i := 5) 2 kd36_18.2.2.2.2.2.2.1 rfl ?_
            refine X_bipush hK kd36_18.2.2.2.2.2.2.2.1 (by decide) ?_
            refine X_imul hK kd36_18.2.2.2.2.2.2.2.2.1 ?_
            refine X_iload hK (i := 7) 0 kd36_18.2.2.2.2.2.2.2.2.2.1 rfl ?_
            refine X_iadd hK kd36_18.2.2.2.2.2.2.2.2.2.2.1 ?_
            refine X_iald hK hs_w0 ⟨by decide, by decide, by omega⟩ sl_13400 (by omega) (by omega) kd36_18.2.2.2.2.2.2.2.2.2.2.2 (fun z136 ez136 lz136 uz136 => ?_)
            refine X_aload hK (i := 4) 3 kd36_19.1 rfl ?_
            refine X_aloadn hK (i := 0) 4 kd36_19.2.1 rfl rfl ?_
            refine X_getK hK fl_X8_11_9 hs_a0 eb2 kd36_19.2.2.1 ?_
            refine X_iload hK (i := 7) 0 kd36_19.2.2.2.1 rfl ?_
            refine X_iald hK hs_b2 (by decide) sl_13100 (by omega) (by omega) kd36_19.2.2.2.2.1 (fun z137 ez137 lz137 uz137 => ?_)
            refine X_iald hK hs_b4 (by decide) sl_11500 (by omega) (by omega) kd36_19.2.2.2.2.2.1 (fun z138 ez138 lz138 uz138 => ?_)
            refine X_iadd hK kd36_19.2.2.2.2.2.2.1 ?_
            refine X_norm (fun z139 ez139 lz139 uz139 => ?_)
            refine X_mmin hK mm_X8_68 ⟨by decide, by simp [Value.category]⟩ (by decide) (by omega) (by omega) kd36_19.2.2.2.2.2.2.2.1 (fun z140 ez140 fz140 => ?_)
            have bz140 : (-2147483648) ≤ z140 ∧ z140 ≤ 1000000 := by omega
            refine X_istore hK (i := 6) [(6, .int (iI z140)), (7, .int (iI z104)), (5, .int (iI z6)), (4, .ref b4), (0, .ref a0), (1, .ref a1), (2, .int (iI x2)), (3, .int (iI x3))] kd36_19.2.2.2.2.2.2.2.2.1 (by decide) rfl ?_
            refine X_iinc hK (i := 7) (z := z104) (n := 1) 1 [(7, .int (iI (z104 + 1))), (6, .int (iI z140)), (5, .int (iI z6)), (4, .ref b4), (0, .ref a0), (1, .ref a1), (2, .int (iI x2)), (3, .int (iI x3))] kd36_19.2.2.2.2.2.2.2.2.2.1 rfl (by decide) rfl ?_
            refine X_goto hK 39 kd36_19.2.2.2.2.2.2.2.2.2.2.1 (by decide) ?_
            exact ihP123  (z104 + 1) (by omega) (by omega) z140 (by omega) (by omega) (by omega)
    exact P123 ((25 - 0 : Int).toNat + 1) 0 (by omega) (by omega) z9 (by omega) (by omega) (by omega)
  refine X_if_ne hK 32 (by omega) kd36_17.1 (by decide) (fun c7 => ?_) (fun c7 => ?_)
  · refine X_ldc hK (n := 1000000) kd36_17.2.2.2.2.2.1 m_53_22 (by decide) ?_
    exact J10 1000000 (by omega) (by omega)
  · refine X_aload hK (i := 4) 1 kd36_17.2.1 rfl ?_
    refine X_iconst hK kd36_17.2.2.1 ?_
    refine X_iald hK hs_b4 (by decide) sl_11500 (by omega) (by omega) kd36_17.2.2.2.1 (fun z141 ez141 lz141 uz141 => ?_)
    refine X_goto hK 34 kd36_17.2.2.2.2.1 (by decide) ?_
    exact J10 z141 (by omega) (by omega)

set_option maxHeartbeats 4000000 in
set_option maxRecDepth 100000 in
theorem c_findSoonest_9 (l : Launch) (D : va_G) (kA : Nat → ClassId) (b0 : Nat) (t0 : Nat → Nat) (S : xT) (g : xG) (a0 : Nat) (a1 : Nat) (n0 : Int) (w0 nw0 : Nat) (hs_a0 : S a0 = some (9, 0)) (hs_a1 : S a1 = some (4, 0)) (hn0 : 9 ≤ n0 ∧ n0 ≤ 9) (en0 : g a0 4 = .int (iI n0)) (ew0 : g a0 3 = .ref w0) (hs_w0 : S w0 = some (13400, nw0)) (hp0 : 4608 ≤ (nw0 : Int)) (hp1 : (nw0 : Int) ≤ 2147483647) : xMt l yX8_findSoonest cX8_findSoonest 4 none 2 0 0 40 D kA b0 t0 [(13400, 0)] [.ref a0, .ref a1] S g (fun (r : Option Value) (S1 : xT) (g1 : xG) => S = S1 ∧ r = none) := by
  refine xEnterV (by decide) (by simp [lg_sl, Value.category]) [(0, .ref a0), (1, .ref a1)] rfl ?_
  intro K E hK hret _ _ _
  refine X_iconst hK kd36_4.2.2.2.2.2.2.2.2.2.2.2 ?_
  refine X_istoren hK (i := 2) [(2, .int (iI 1)), (0, .ref a0), (1, .ref a1)] kd36_5.1 rfl (by decide) rfl ?_
  have P1230 : ∀ (nP1230 : Nat) (g1026 : xG) (_ : xM [(13400, 0)] S g g1026) (z1025 : Int) (_ : 1 ≤ z1025) (_ : z1025 ≤ 512) (_ : 528 - z1025 < (nP1230 : Int)), X K E 2 [(2, .int (iI z1025)), (0, .ref a0), (1, .ref a1)] [] S g1026 0 0 := by
    intro nP1230
    induction nP1230 with
    | zero => intro g1026 hg1026 z1025 lz1025 uz1025 mP1230; exact False.elim (by omega)
    | succ nP1230 ihP1230 =>
      intro g1026 hg1026 z1025 lz1025 uz1025 mP1230
      refine X_iloadn hK (i := 2) 0 kd36_5.2.1 rfl rfl ?_
      refine X_iconst hK kd36_5.2.2.1 ?_
      refine X_aloadn hK (i := 0) 1 kd36_5.2.2.2.1 rfl rfl ?_
      refine X_getK hK fl_X8_24_9 hs_a0 ((hg1026 a0 9 0 4 hs_a0 (by decide)).trans en0) kd36_5.2.2.2.2.1 ?_
      refine X_ishl hK kd36_5.2.2.2.2.2.1 (fun z1231 ez1231 lz1231 uz1231 => ?_)
      have bz1231 := xshlB 9 ez1231 ⟨lz1231, uz1231⟩ (by omega) (by decide)
      refine X_icmp_ge hK 66 (by omega) (by omega) kd36_5.2.2.2.2.2.2.1 (by decide) (fun c1232 => ?_) (fun c1232 => ?_)
      · exact hret _ _ _ _ _ _ kd36_8.2.2.2.1 ⟨rfl, rfl⟩ (Nat.le_refl _) (Nat.le_refl _)
      · refine X_iconst hK kd36_5.2.2.2.2.2.2.2.1 ?_
        refine X_istoren hK (i := 3) [(3, .int (iI 0)), (2, .int (iI z1025)), (0, .ref a0), (1, .ref a1)] kd36_5.2.2.2.2.2.2.2.2.1 rfl (by decide) rfl ?_
        have P1404 : ∀ (nP1404 : Nat) (g1374 : xG) (_ : xM [(13400, 0)] S g1026 g1374) (z1373 : Int) (_ : 0 ≤ z1373) (_ : z1373 ≤ 9) (_ : 25 - z1373 < (nP1404 : Int)), X K E 14 [(3, .int (iI z1373)), (2, .int (iI z1025)), (0, .ref a0), (1, .ref a1)] [] S g1374 0 0 := by
          intro nP1404
          induction nP1404 with
          | zero => intro g1374 hg1374 z1373 lz1373 uz1373 mP1404; exact False.elim (by omega)
          | succ nP1404 ihP1404 =>
            intro g1374 hg1374 z1373 lz1373 uz1373 mP1404
            refine X_iloadn hK (i := 3) 0 kd36_5.2.2.2.2.2.2.2.2.2.1 rfl rfl ?_
            refine X_aloadn hK (i := 0) 2 kd36_5.2.2.2.2.2.2.2.2.2.2.1 rfl rfl ?_
            refine X_getK hK fl_X8_24_9 hs_a0 ((hg1374 a0 9 0 4 hs_a0 (by decide)).trans ((hg1026 a0 9 0 4 hs_a0 (by decide)).trans en0)) kd36_5.2.2.2.2.2.2.2.2.2.2.2 ?_
            refine X_icmp_ge hK 60 (by omega) (by omega) kd36_6.1 (by decide) (fun c1405 => ?_) (fun c1405 => ?_)
            · refine X_iinc hK (i := 2) (z := z1025) (n := 1) 1 [(2, .int (iI (z1025 + 1))), (3, .int (iI z1373)), (0, .ref a0), (1, .ref a1)] kd36_8.2.1 rfl (by decide) rfl ?_
              refine X_goto hK 2 kd36_8.2.2.1 (by decide) ?_
              refine X_lv [(2, .int (iI (z1025 + 1))), (0, .ref a0), (1, .ref a1)] [0, 2, 3] rfl ?_
              exact ihP1230  g1374 (xM.tr (xM.tr xM.rf xLe.rf hg1026 (by decide)) xLe.rf hg1374 (by decide)) (z1025 + 1) (by omega) (by omega) (by omega)
            · refine X_aloadn hK (i := 0) 2 kd36_6.2.1 rfl rfl ?_
              refine X_getK hK fl_X8_21_9 hs_a0 ((hg1374 a0 9 0 3 hs_a0 (by decide)).trans ((hg1026 a0 9 0 3 hs_a0 (by decide)).trans ew0)) kd36_6.2.2.1 ?_
              refine X_iloadn hK (i := 2) 1 kd36_6.2.2.2.1 rfl rfl ?_
              refine X_bipush hK kd36_6.2.2.2.2.1 (by decide) ?_
              refine X_imul hK kd36_6.2.2.2.2.2.1 ?_
              refine X_iloadn hK (i := 3) 0 kd36_6.2.2.2.2.2.2.1 rfl rfl ?_
              refine X_iadd hK kd36_6.2.2.2.2.2.2.2.1 ?_
              refine X_iloadn hK (i := 2) 1 kd36_6.2.2.2.2.2.2.2.2.1 rfl rfl ?_
              refine X_iloadn hK (i := 3) 0 kd36_6.2.2.2.2.2.2.2.2.2.1 rfl rfl ?_
              refine X_ishr hK kd36_6.2.2.2.2.2.2.2.2.2.2.1 (fun z1420 ez1420 lz1420 uz1420 => ?_)
              refine X_iconst hK kd36_6.2.2.2.2.2.2.2.2.2.2.2 ?_
              refine X_iand hK kd36_7.1 (fun z1421 ez1421 lz1421 uz1421 => ?_)
              have bz1421 := xandB ez1421 ⟨lz1421, uz1421⟩ (by omega)
              refine X_iconst hK kd36_7.2.1 ?_
              have J1428 : ∀ (z1427 : Int) (lz1427 : (-2147483648) ≤ z1427) (uz1427 : z1427 ≤ 1000000), X K E 53 [(3, .int (iI z1373)), (2, .int (iI z1025)), (0, .ref a0), (1, .ref a1)] [.int (iI z1427), .int (iI ((z1025 * 9) + z1373)), .ref w0] S g1374 0 0 := by
                intro z1427 lz1427 uz1427
                refine X_iast hK hs_w0 ⟨by decide, by decide, by decide, by omega⟩ (by decide) sl_13400 (by omega) (by omega) (by omega) (by omega) kd36_7.2.2.2.2.2.2.2.2.2.2.1 (fun g1429 hg1429 => ?_)
                refine X_iinc hK (i := 3) (z := z1373) (n := 1) 0 [(3, .int (iI (z1373 + 1))), (2, .int (iI z1025)), (0, .ref a0), (1, .ref a1)] kd36_7.2.2.2.2.2.2.2.2.2.2.2 rfl (by decide) rfl ?_
                refine X_goto hK 14 kd36_8.1 (by decide) ?_
                exact ihP1404  g1429 (xM_ua (xM.tr xM.rf xLe.rf hg1374 (by decide)) hg1429 hs_w0 (by decide) (by decide)) (z1373 + 1) (by omega) (by omega) (by omega)
              refine X_icmp_ne hK 51 (by omega) (by omega) kd36_7.2.2.1 (by decide) (fun c1422 => ?_) (fun c1422 => ?_)
              · refine X_ldc hK (n := 1000000) kd36_7.2.2.2.2.2.2.2.2.2.1 m_53_22 (by decide) ?_
                exact J1428 1000000 (by omega) (by omega)
              · refine X_aloadn hK (i := 0) 2 kd36_7.2.2.2.1 rfl rfl ?_
                refine X_aloadn hK (i := 1) 3 kd36_7.2.2.2.2.1 rfl rfl ?_
                refine X_iloadn hK (i := 2) 1 kd36_7.2.2.2.2.2.1 rfl rfl ?_
                refine X_iloadn hK (i := 3) 0 kd36_7.2.2.2.2.2.2.1 rfl rfl ?_
                refine X_callV hK [.ref a1, .int (iI z1025), .int (iI z1373)] [.int (iI ((z1025 * 9) + z1373)), .ref w0] lk_X8_58 (c_soonestAt_9 _ _ _ _ _ S g1374 a0 a1 z1025 z1373 n0 w0 nw0 hs_a0 hs_a1 (by omega) (by omega) (by omega) ((hg1374 a0 9 0 4 hs_a0 (by decide)).trans ((hg1026 a0 9 0 4 hs_a0 (by decide)).trans en0)) ((hg1374 a0 9 0 3 hs_a0 (by decide)).trans ((hg1026 a0 9 0 3 hs_a0 (by decide)).trans ew0)) hs_w0 (by omega) (by omega)) hs_a0 ⟨by decide, rfl⟩ kd36_7.2.2.2.2.2.2.2.1 rfl rfl (by simp [Value.category]) (by decide) (by decide) (by decide) (by decide) (fun r1430 S1432 g1431 pr1430 qr1430 hg1431 => ?_)
                obtain ⟨rfl, rfl, z1433, rfl, lz1433, uz1433⟩ := pr1430
                refine X_st [.int (iI z1433), .int (iI ((z1025 * 9) + z1373)), .ref w0] rfl ?_
                refine X_goto hK 53 kd36_7.2.2.2.2.2.2.2.2.1 (by decide) ?_
                exact J1428 z1433 (by omega) (by omega)
        exact P1404 ((25 - 0 : Int).toNat + 1) g1026 xM.rf 0 (by omega) (by omega) (by omega)
  exact P1230 ((528 - 1 : Int).toNat + 1) g xM.rf 1 (by omega) (by omega) (by omega)

set_option maxHeartbeats 4000000 in
set_option maxRecDepth 100000 in
theorem c_firstAtEnd_9 (l : Launch) (D : va_G) (kA : Nat → ClassId) (b0 : Nat) (t0 : Nat → Nat) (S : xT) (g : xG) (a0 : Nat) (n0 : Int) (w0 nw0 : Nat) (hs_a0 : S a0 = some (9, 0)) (hn0 : 9 ≤ n0 ∧ n0 ≤ 9) (en0 : g a0 4 = .int (iI n0)) (ew0 : g a0 3 = .ref w0) (hs_w0 : S w0 = some (13400, nw0)) (hp0 : 4608 ≤ (nw0 : Int)) (hp1 : (nw0 : Int) ≤ 2147483647) : xMt l yX8_firstAtEnd cX8_firstAtEnd 4 (some .int) 1 0 0 13 D kA b0 t0 [] [.ref a0] S g (fun (r : Option Value) (S1 : xT) (g1 : xG) => S = S1 ∧ g = g1 ∧ ∃ z : Int, r = some (.int (iI z)) ∧ (-2147483648) ≤ z ∧ z ≤ 1000000) := by
  refine xEnterI (by decide) (by simp [lg_sl, Value.category]) [(0, .ref a0)] rfl ?_
  intro K E hK hret _ _ _
  refine X_iconst hK kd36_8.2.2.2.2.1 ?_
  refine X_aloadn hK (i := 0) 0 kd36_8.2.2.2.2.2.1 rfl rfl ?_
  refine X_getK hK fl_X8_24_9 hs_a0 en0 kd36_8.2.2.2.2.2.2.1 ?_
  refine X_ishl hK kd36_8.2.2.2.2.2.2.2.1 (fun z1 ez1 lz1 uz1 => ?_)
  have bz1 := xshlB 9 ez1 ⟨lz1, uz1⟩ (by omega) (by decide)
  refine X_iconst hK kd36_8.2.2.2.2.2.2.2.2.1 ?_
  refine X_isub hK kd36_8.2.2.2.2.2.2.2.2.2.1 ?_
  refine X_istoren hK (i := 1) [(1, .int (iI (z1 - 1))), (0, .ref a0)] kd36_8.2.2.2.2.2.2.2.2.2.2.1 rfl (by decide) rfl ?_
  refine X_ldc hK (n := 1000000) kd36_8.2.2.2.2.2.2.2.2.2.2.2 m_53_22 (by decide) ?_
  refine X_istoren hK (i := 2) [(2, .int (iI 1000000)), (1, .int (iI (z1 - 1))), (0, .ref a0)] kd36_9.1 rfl (by decide) rfl ?_
  refine X_iconst hK kd36_9.2.1 ?_
  refine X_istoren hK (i := 3) [(3, .int (iI 0)), (2, .int (iI 1000000)), (1, .int (iI (z1 - 1))), (0, .ref a0)] kd36_9.2.2.1 rfl (by decide) rfl ?_
  have P32 : ∀ (nP32 : Nat) (z27 : Int) (_ : 0 ≤ z27) (_ : z27 ≤ 9) (z28 : Int) (_ : (-2147483648) ≤ z28) (_ : z28 ≤ 1000000) (_ : 25 - z27 < (nP32 : Int)), X K E 14 [(3, .int (iI z27)), (2, .int (iI z28)), (1, .int (iI (z1 - 1))), (0, .ref a0)] [] S g 0 0 := by
    intro nP32
    induction nP32 with
    | zero => intro z27 lz27 uz27 z28 lz28 uz28 mP32; exact False.elim (by omega)
    | succ nP32 ihP32 =>
      intro z27 lz27 uz27 z28 lz28 uz28 mP32
      refine X_iloadn hK (i := 3) 0 kd36_9.2.2.2.1 rfl rfl ?_
      refine X_aloadn hK (i := 0) 3 kd36_9.2.2.2.2.1 rfl rfl ?_
      refine X_getK hK fl_X8_24_9 hs_a0 en0 kd36_9.2.2.2.2.2.1 ?_
      refine X_icmp_ge hK 44 (by omega) (by omega) kd36_9.2.2.2.2.2.2.1 (by decide) (fun c33 => ?_) (fun c33 => ?_)
      · refine X_iloadn hK (i := 2) 1 kd36_10.2.2.2.2.2.2.2.2.1 rfl rfl ?_
        exact hret _ _ _ _ _ _ _ kd36_10.2.2.2.2.2.2.2.2.2.1 ⟨rfl, rfl, z28, rfl, (by omega), (by omega)⟩ (Nat.le_refl _) (Nat.le_refl _)
      · refine X_iloadn hK (i := 2) 1 kd36_9.2.2.2.2.2.2.2.1 rfl rfl ?_
        refine X_aloadn hK (i := 0) 3 kd36_9.2.2.2.2.2.2.2.2.1 rfl rfl ?_
        refine X_getK hK fl_X8_21_9 hs_a0 ew0 kd36_9.2.2.2.2.2.2.2.2.2.1 ?_
        refine X_iloadn hK (i := 1) 2 kd36_9.2.2.2.2.2.2.2.2.2.2.1 rfl rfl ?_
        refine X_bipush hK kd36_9.2.2.2.2.2.2.2.2.2.2.2 (by decide) ?_
        refine X_imul hK kd36_10.1 ?_
        refine X_iloadn hK (i := 3) 0 kd36_10.2.1 rfl rfl ?_
        refine X_iadd hK kd36_10.2.2.1 ?_
        refine X_iald hK hs_w0 ⟨by decide, by decide, by omega⟩ sl_13400 (by omega) (by omega) kd36_10.2.2.2.1 (fun z34 ez34 lz34 uz34 => ?_)
        refine X_mmin hK mm_X8_68 ⟨by decide, by simp [Value.category]⟩ (by decide) (by omega) (by omega) kd36_10.2.2.2.2.1 (fun z35 ez35 fz35 => ?_)
        have bz35 : (-2147483648) ≤ z35 ∧ z35 ≤ 1000000 := by omega
        refine X_istoren hK (i := 2) [(2, .int (iI z35)), (3, .int (iI z27)), (1, .int (iI (z1 - 1))), (0, .ref a0)] kd36_10.2.2.2.2.2.1 rfl (by decide) rfl ?_
        refine X_iinc hK (i := 3) (z := z27) (n := 1) 1 [(3, .int (iI (z27 + 1))), (2, .int (iI z35)), (1, .int (iI (z1 - 1))), (0, .ref a0)] kd36_10.2.2.2.2.2.2.1 rfl (by decide) rfl ?_
        refine X_goto hK 14 kd36_10.2.2.2.2.2.2.2.1 (by decide) ?_
        exact ihP32  (z27 + 1) (by omega) (by omega) z35 (by omega) (by omega) (by omega)
  exact P32 ((25 - 0 : Int).toNat + 1) 0 (by omega) (by omega) 1000000 (by omega) (by omega) (by omega)

set_option maxHeartbeats 4000000 in
set_option maxRecDepth 100000 in
theorem c_nextOf_9 (l : Launch) (D : va_G) (kA : Nat → ClassId) (b0 : Nat) (t0 : Nat → Nat) (S : xT) (g : xG) (a0 : Nat) (a1 : Nat) (x2 : Int) (x3 : Int) (n0 : Int) (w0 nw0 : Nat) (hs_a0 : S a0 = some (9, 0)) (hs_a1 : S a1 = some (4, 0)) (hx2 : 1 ≤ x2 ∧ x2 ≤ 511) (hx3 : 0 ≤ x3 ∧ x3 ≤ 8) (hn0 : 9 ≤ n0 ∧ n0 ≤ 9) (en0 : g a0 4 = .int (iI n0)) (ew0 : g a0 3 = .ref w0) (hs_w0 : S w0 = some (13400, nw0)) (hp0 : 4608 ≤ (nw0 : Int)) (hp1 : (nw0 : Int) ≤ 2147483647) : xMt l yX8_nextOf cX8_nextOf 7 (some .int) 0 0 0 0 D kA b0 t0 [] [.ref a0, .ref a1, .int (iI x2), .int (iI x3)] S g (fun (r : Option Value) (S1 : xT) (g1 : xG) => S = S1 ∧ g = g1 ∧ ∃ z : Int, r = some (.int (iI z)) ∧ (-1) ≤ z ∧ z ≤ 8) := by
  refine xEnterI (by decide) (by simp [lg_sl, Value.category]) [(0, .ref a0), (1, .ref a1), (2, .int (iI x2)), (3, .int (iI x3))] rfl ?_
  intro K E hK hret _ _ _
  refine X_aloadn hK (i := 0) 0 kd36_10.2.2.2.2.2.2.2.2.2.2.1 rfl rfl ?_
  refine X_getK hK fl_X8_21_9 hs_a0 ew0 kd36_10.2.2.2.2.2.2.2.2.2.2.2 ?_
  refine X_iloadn hK (i := 2) 2 kd36_11.1 rfl rfl ?_
  refine X_bipush hK kd36_11.2.1 (by decide) ?_
  refine X_imul hK kd36_11.2.2.1 ?_
  refine X_iloadn hK (i := 3) 3 kd36_11.2.2.2.1 rfl rfl ?_
  refine X_iadd hK kd36_11.2.2.2.2.1 ?_
  refine X_iald hK hs_w0 ⟨by decide, by decide, by omega⟩ sl_13400 (by omega) (by omega) kd36_11.2.2.2.2.2.1 (fun z1 ez1 lz1 uz1 => ?_)
  refine X_istore hK (i := 4) [(4, .int (iI z1)), (0, .ref a0), (1, .ref a1), (2, .int (iI x2)), (3, .int (iI x3))] kd36_11.2.2.2.2.2.2.1 (by decide) rfl ?_
  refine X_iconst hK kd36_11.2.2.2.2.2.2.2.1 ?_
  refine X_istore hK (i := 5) [(5, .int (iI 0)), (4, .int (iI z1)), (0, .ref a0), (1, .ref a1), (2, .int (iI x2)), (3, .int (iI x3))] kd36_11.2.2.2.2.2.2.2.2.1 (by decide) rfl ?_
  have P104 : ∀ (nP104 : Nat) (z87 : Int) (_ : 0 ≤ z87) (_ : z87 ≤ 9) (_ : 25 - z87 < (nP104 : Int)), X K E 16 [(5, .int (iI z87)), (4, .int (iI z1)), (0, .ref a0), (1, .ref a1), (2, .int (iI x2)), (3, .int (iI x3))] [] S g 0 0 := by
    intro nP104
    induction nP104 with
    | zero => intro z87 lz87 uz87 mP104; exact False.elim (by omega)
    | succ nP104 ihP104 =>
      intro z87 lz87 uz87 mP104
      refine X_iload hK (i := 5) 0 kd36_11.2.2.2.2.2.2.2.2.2.1 rfl ?_
      refine X_aloadn hK (i := 0) 2 kd36_11.2.2.2.2.2.2.2.2.2.2.1 rfl rfl ?_
      refine X_getK hK fl_X8_24_9 hs_a0 en0 kd36_11.2.2.2.2.2.2.2.2.2.2.2 ?_
      refine X_icmp_ge hK 96 (by omega) (by omega) kd36_12.1 (by decide) (fun c105 => ?_) (fun c105 => ?_)
      · refine X_iconst hK kd36_15.2.2.2.2.2.2.2.1 ?_
        exact hret _ _ _ _ _ _ _ kd36_15.2.2.2.2.2.2.2.2.1 ⟨rfl, rfl, (-1), rfl, (by omega), (by omega)⟩ (Nat.le_refl _) (Nat.le_refl _)
      · refine X_iload hK (i := 4) 1 kd36_12.2.1 rfl ?_
        refine X_ldc hK (n := 1000000) kd36_12.2.2.1 m_53_22 (by decide) ?_
        refine X_icmp_eq hK 96 (by omega) (by omega) kd36_12.2.2.2.1 (by decide) (fun c106 => ?_) (fun c106 => ?_)
        · refine X_iconst hK kd36_15.2.2.2.2.2.2.2.1 ?_
          exact hret _ _ _ _ _ _ _ kd36_15.2.2.2.2.2.2.2.2.1 ⟨rfl, rfl, (-1), rfl, (by omega), (by omega)⟩ (Nat.le_refl _) (Nat.le_refl _)
        · refine X_iload hK (i := 4) 1 kd36_12.2.2.2.2.1 rfl ?_
          refine X_aloadn hK (i := 1) 3 kd36_12.2.2.2.2.2.1 rfl rfl ?_
          refine X_getr hK 11604 10 fl_X8_62_4 hs_a1 sl_4_6 kd36_12.2.2.2.2.2.2.1 (fun b107 eb107 hs_b107 => ?_)
          refine X_aloadn hK (i := 0) 2 kd36_12.2.2.2.2.2.2.2.1 rfl rfl ?_
          refine X_getr hK 13100 9 fl_X8_11_9 hs_a0 sl_9_0 kd36_12.2.2.2.2.2.2.2.2.1 (fun b108 eb108 hs_b108 => ?_)
          refine X_iloadn hK (i := 3) 5 kd36_12.2.2.2.2.2.2.2.2.2.1 rfl rfl ?_
          refine X_iald hK hs_b108 (by decide) sl_13100 (by omega) (by omega) kd36_12.2.2.2.2.2.2.2.2.2.2.1 (fun z109 ez109 lz109 uz109 => ?_)
          refine X_aald hK 11500 10 hs_b107 (by decide) sl_11604 (by omega) (by omega) kd36_12.2.2.2.2.2.2.2.2.2.2.2 (fun b110 eb110 hs_b110 => ?_)
          refine X_aloadn hK (i := 0) 2 kd36_13.1 rfl rfl ?_
          refine X_getK hK fl_X8_11_9 hs_a0 eb108 kd36_13.2.1 ?_
          refine X_iload hK (i := 5) 0 kd36_13.2.2.1 rfl ?_
          refine X_iald hK hs_b108 (by decide) sl_13100 (by omega) (by omega) kd36_13.2.2.2.1 (fun z111 ez111 lz111 uz111 => ?_)
          refine X_iald hK hs_b110 (by decide) sl_11500 (by omega) (by omega) kd36_13.2.2.2.2.1 (fun z112 ez112 lz112 uz112 => ?_)
          refine X_iadd hK kd36_13.2.2.2.2.2.1 ?_
          refine X_norm (fun z113 ez113 lz113 uz113 => ?_)
          refine X_istore hK (i := 6) [(6, .int (iI z113)), (5, .int (iI z87)), (4, .int (iI z1)), (0, .ref a0), (1, .ref a1), (2, .int (iI x2)), (3, .int (iI x3))] kd36_13.2.2.2.2.2.2.1 (by decide) rfl ?_
          refine X_iloadn hK (i := 2) 5 kd36_13.2.2.2.2.2.2.2.1 rfl rfl ?_
          refine X_iload hK (i := 5) 1 kd36_13.2.2.2.2.2.2.2.2.1 rfl ?_
          refine X_ishr hK kd36_13.2.2.2.2.2.2.2.2.2.1 (fun z114 ez114 lz114 uz114 => ?_)
          refine X_iconst hK kd36_13.2.2.2.2.2.2.2.2.2.2.1 ?_
          refine X_iand hK kd36_13.2.2.2.2.2.2.2.2.2.2.2 (fun z115 ez115 lz115 uz115 => ?_)
          have bz115 := xandB ez115 ⟨lz115, uz115⟩ (by omega)
          refine X_if_ne hK 90 (by omega) kd36_14.1 (by decide) (fun c116 => ?_) (fun c116 => ?_)
          · refine X_iinc hK (i := 5) (z := z87) (n := 1) 1 [(5, .int (iI (z87 + 1))), (6, .int (iI z113)), (4, .int (iI z1)), (0, .ref a0), (1, .ref a1), (2, .int (iI x2)), (3, .int (iI x3))] kd36_15.2.2.2.2.2.1 rfl (by decide) rfl ?_
            refine X_goto hK 16 kd36_15.2.2.2.2.2.2.1 (by decide) ?_
            refine X_lv [(5, .int (iI (z87 + 1))), (4, .int (iI z1)), (0, .ref a0), (1, .ref a1), (2, .int (iI x2)), (3, .int (iI x3))] [0, 2, 3, 4, 5, 6] rfl ?_
            exact ihP104  (z87 + 1) (by omega) (by omega) (by omega)
          · refine X_aloadn hK (i := 0) 3 kd36_14.2.1 rfl rfl ?_
            refine X_getK hK fl_X8_21_9 hs_a0 ew0 kd36_14.2.2.1 ?_
            refine X_iloadn hK (i := 2) 5 kd36_14.2.2.2.1 rfl rfl ?_
            refine X_iconst hK kd36_14.2.2.2.2.1 ?_
            refine X_iload hK (i := 5) 1 kd36_14.2.2.2.2.2.1 rfl ?_
            refine X_ishl hK kd36_14.2.2.2.2.2.2.1 (fun z117 ez117 lz117 uz117 => ?_)
            have bz117 := xshlB 8 ez117 ⟨lz117, uz117⟩ (by omega) (by decide)
            refine X_ior hK kd36_14.2.2.2.2.2.2.2.1 (fun z118 ez118 lz118 uz118 => ?_)
            have bz118 := xiorB 9 ez118 ⟨lz118, uz118⟩ (by omega) (by omega) (by decide)
            refine X_bipush hK kd36_14.2.2.2.2.2.2.2.2.1 (by decide) ?_
            refine X_imul hK kd36_14.2.2.2.2.2.2.2.2.2.1 ?_
            refine X_iload hK (i := 5) 1 kd36_14.2.2.2.2.2.2.2.2.2.2.1 rfl ?_
            refine X_iadd hK kd36_14.2.2.2.2.2.2.2.2.2.2.2 ?_
            refine X_iald hK hs_w0 ⟨by decide, by decide, by omega⟩ sl_13400 (by omega) (by omega) kd36_15.1 (fun z119 ez119 lz119 uz119 => ?_)
            refine X_iload hK (i := 6) 0 kd36_15.2.1 rfl ?_
            refine X_icmp_ne hK 90 (by omega) (by omega) kd36_15.2.2.1 (by decide) (fun c120 => ?_) (fun c120 => ?_)
            · refine X_iinc hK (i := 5) (z := z87) (n := 1) 1 [(5, .int (iI (z87 + 1))), (6, .int (iI z113)), (4, .int (iI z1)), (0, .ref a0), (1, .ref a1), (2, .int (iI x2)), (3, .int (iI x3))] kd36_15.2.2.2.2.2.1 rfl (by decide) rfl ?_
              refine X_goto hK 16 kd36_15.2.2.2.2.2.2.1 (by decide) ?_
              refine X_lv [(5, .int (iI (z87 + 1))), (4, .int (iI z1)), (0, .ref a0), (1, .ref a1), (2, .int (iI x2)), (3, .int (iI x3))] [0, 2, 3, 4, 5, 6] rfl ?_
              exact ihP104  (z87 + 1) (by omega) (by omega) (by omega)
            · refine X_iload hK (i := 5) 1 kd36_15.2.2.2.1 rfl ?_
              exact hret _ _ _ _ _ _ _ kd36_15.2.2.2.2.1 ⟨rfl, rfl, z87, rfl, (by omega), (by omega)⟩ (Nat.le_refl _) (Nat.le_refl _)
  exact P104 ((25 - 0 : Int).toNat + 1) 0 (by omega) (by omega) (by omega)

set_option maxHeartbeats 4000000 in
set_option maxRecDepth 100000 in
theorem c_dropOthers_9 (l : Launch) (D : va_G) (kA : Nat → ClassId) (b0 : Nat) (t0 : Nat → Nat) (S : xT) (g : xG) (a0 : Nat) (a1 : Nat) (x2 : Int) (n0 : Int) (w0 nw0 : Nat) (hs_a0 : S a0 = some (9, 0)) (hs_a1 : S a1 = some (4, 0)) (hx2 : (-2147483648) ≤ x2 ∧ x2 ≤ 2147483647) (hn0 : 9 ≤ n0 ∧ n0 ≤ 9) (en0 : g a0 4 = .int (iI n0)) (ew0 : g a0 3 = .ref w0) (hs_w0 : S w0 = some (13400, nw0)) (hp0 : 4608 ≤ (nw0 : Int)) (hp1 : (nw0 : Int) ≤ 2147483647) : xMt l yX8_dropOthers cX8_dropOthers 8 none 1 0 0 26 D kA b0 t0 [(13400, 0)] [.ref a0, .ref a1, .int (iI x2)] S g (fun (r : Option Value) (S1 : xT) (g1 : xG) => S = S1 ∧ r = none) := by
  refine xEnterV (by decide) (by simp [lg_sl, Value.category]) [(0, .ref a0), (1, .ref a1), (2, .int (iI x2))] rfl ?_
  intro K E hK hret _ _ _
  refine X_iconst hK kd36_0.1 ?_
  refine X_aloadn hK (i := 0) 0 kd36_0.2.1 rfl rfl ?_
  refine X_getK hK fl_X8_24_9 hs_a0 en0 kd36_0.2.2.1 ?_
  refine X_ishl hK kd36_0.2.2.2.1 (fun z1 ez1 lz1 uz1 => ?_)
  have bz1 := xshlB 9 ez1 ⟨lz1, uz1⟩ (by omega) (by decide)
  refine X_iconst hK kd36_0.2.2.2.2.1 ?_
  refine X_isub hK kd36_0.2.2.2.2.2.1 ?_
  refine X_istoren hK (i := 3) [(3, .int (iI (z1 - 1))), (0, .ref a0), (1, .ref a1), (2, .int (iI x2))] kd36_0.2.2.2.2.2.2.1 rfl (by decide) rfl ?_
  refine X_iloadn hK (i := 3) 0 kd36_0.2.2.2.2.2.2.2.1 rfl rfl ?_
  refine X_istore hK (i := 4) [(4, .int (iI (z1 - 1))), (3, .int (iI (z1 - 1))), (0, .ref a0), (1, .ref a1), (2, .int (iI x2))] kd36_0.2.2.2.2.2.2.2.2.1 (by decide) rfl ?_
  have P1541 : ∀ (nP1541 : Nat) (g1234 : xG) (_ : xM [(13400, 0)] S g g1234) (z1233 : Int) (_ : 0 ≤ z1233) (_ : z1233 ≤ 511) (_ : z1233 - (-16) < (nP1541 : Int)), X K E 12 [(4, .int (iI z1233)), (3, .int (iI (z1 - 1))), (0, .ref a0), (1, .ref a1), (2, .int (iI x2))] [] S g1234 0 0 := by
    intro nP1541
    induction nP1541 with
    | zero => intro g1234 hg1234 z1233 lz1233 uz1233 mP1541; exact False.elim (by omega)
    | succ nP1541 ihP1541 =>
      intro g1234 hg1234 z1233 lz1233 uz1233 mP1541
      refine X_iload hK (i := 4) 0 kd36_0.2.2.2.2.2.2.2.2.2.1 rfl ?_
      refine X_if_le hK 110 (by omega) kd36_0.2.2.2.2.2.2.2.2.2.2.1 (by decide) (fun c1542 => ?_) (fun c1542 => ?_)
      · exact hret _ _ _ _ _ _ kd36_4.2.2.2.2.2.2.2.2.2.2.1 ⟨rfl, rfl⟩ (Nat.le_refl _) (Nat.le_refl _)
      · refine X_iconst hK kd36_0.2.2.2.2.2.2.2.2.2.2.2 ?_
        refine X_istore hK (i := 5) [(5, .int (iI 0)), (4, .int (iI z1233)), (3, .int (iI (z1 - 1))), (0, .ref a0), (1, .ref a1), (2, .int (iI x2))] kd36_1.1 (by decide) rfl ?_
        have P1802 : ∀ (nP1802 : Nat) (g1756 : xG) (_ : xM [(13400, 0)] S g1234 g1756) (z1755 : Int) (_ : 0 ≤ z1755) (_ : z1755 ≤ 9) (_ : 25 - z1755 < (nP1802 : Int)), X K E 20 [(5, .int (iI z1755)), (4, .int (iI z1233)), (3, .int (iI (z1 - 1))), (0, .ref a0), (1, .ref a1), (2, .int (iI x2))] [] S g1756 0 0 := by
          intro nP1802
          induction nP1802 with
          | zero => intro g1756 hg1756 z1755 lz1755 uz1755 mP1802; exact False.elim (by omega)
          | succ nP1802 ihP1802 =>
            intro g1756 hg1756 z1755 lz1755 uz1755 mP1802
            refine X_iload hK (i := 5) 0 kd36_1.2.1 rfl ?_
            refine X_aloadn hK (i := 0) 3 kd36_1.2.2.1 rfl rfl ?_
            refine X_getK hK fl_X8_24_9 hs_a0 ((hg1756 a0 9 0 4 hs_a0 (by decide)).trans ((hg1234 a0 9 0 4 hs_a0 (by decide)).trans en0)) kd36_1.2.2.2.1 ?_
            refine X_icmp_ge hK 104 (by omega) (by omega) kd36_1.2.2.2.2.1 (by decide) (fun c1803 => ?_) (fun c1803 => ?_)
            · refine X_iinc hK (i := 4) (z := z1233) (n := (-1)) 1 [(4, .int (iI (z1233 + (-1)))), (5, .int (iI z1755)), (3, .int (iI (z1 - 1))), (0, .ref a0), (1, .ref a1), (2, .int (iI x2))] kd36_4.2.2.2.2.2.2.2.2.1 rfl (by decide) rfl ?_
              refine X_goto hK 12 kd36_4.2.2.2.2.2.2.2.2.2.1 (by decide) ?_
              refine X_lv [(4, .int (iI (z1233 + (-1)))), (3, .int (iI (z1 - 1))), (0, .ref a0), (1, .ref a1), (2, .int (iI x2))] [0, 2, 3, 4, 5] rfl ?_
              exact ihP1541  g1756 (xM.tr (xM.tr xM.rf xLe.rf hg1234 (by decide)) xLe.rf hg1756 (by decide)) (z1233 + (-1)) (by omega) (by omega) (by omega)
            · refine X_iload hK (i := 4) 1 kd36_1.2.2.2.2.2.1 rfl ?_
              refine X_bipush hK kd36_1.2.2.2.2.2.2.1 (by decide) ?_
              refine X_imul hK kd36_1.2.2.2.2.2.2.2.1 ?_
              refine X_iload hK (i := 5) 0 kd36_1.2.2.2.2.2.2.2.2.1 rfl ?_
              refine X_iadd hK kd36_1.2.2.2.2.2.2.2.2.2.1 ?_
              refine X_istore hK (i := 6) [(6, .int (iI ((z1233 * 9) + z1755))), (5, .int (iI z1755)), (4, .int (iI z1233)), (3, .int (iI (z1 - 1))), (0, .ref a0), (1, .ref a1), (2, .int (iI x2))] kd36_1.2.2.2.2.2.2.2.2.2.2.1 (by decide) rfl ?_
              refine X_iload hK (i := 4) 2 kd36_1.2.2.2.2.2.2.2.2.2.2.2 rfl ?_
              refine X_iloadn hK (i := 3) 3 kd36_2.1 rfl rfl ?_
              have J1835 : ∀ (z1834 : Int) (lz1834 : 0 ≤ z1834) (uz1834 : z1834 ≤ 1), X K E 82 [(6, .int (iI ((z1233 * 9) + z1755))), (5, .int (iI z1755)), (4, .int (iI z1233)), (3, .int (iI (z1 - 1))), (0, .ref a0), (1, .ref a1), (2, .int (iI x2))] [.int (iI z1834)] S g1756 0 0 := by
                intro z1834 lz1834 uz1834
                refine X_istore hK (i := 7) [(7, .int (iI z1834)), (6, .int (iI ((z1233 * 9) + z1755))), (5, .int (iI z1755)), (4, .int (iI z1233)), (3, .int (iI (z1 - 1))), (0, .ref a0), (1, .ref a1), (2, .int (iI x2))] kd36_3.2.2.2.2.2.2.2.2.2.2.1 (by decide) rfl ?_
                refine X_iload hK (i := 7) 0 kd36_3.2.2.2.2.2.2.2.2.2.2.2 rfl ?_
                have J1838 : ∀ (g1839 : xG) (hg1839 : xM [(13400, 0)] S g1756 g1839), X K E 98 [(7, .int (iI z1834)), (6, .int (iI ((z1233 * 9) + z1755))), (5, .int (iI z1755)), (4, .int (iI z1233)), (3, .int (iI (z1 - 1))), (0, .ref a0), (1, .ref a1), (2, .int (iI x2))] [] S g1839 0 0 := by
                  intro g1839 hg1839
                  refine X_iinc hK (i := 5) (z := z1755) (n := 1) 2 [(5, .int (iI (z1755 + 1))), (7, .int (iI z1834)), (6, .int (iI ((z1233 * 9) + z1755))), (4, .int (iI z1233)), (3, .int (iI (z1 - 1))), (0, .ref a0), (1, .ref a1), (2, .int (iI x2))] kd36_4.2.2.2.2.2.2.1 rfl (by decide) rfl ?_
                  refine X_goto hK 20 kd36_4.2.2.2.2.2.2.2.1 (by decide) ?_
                  refine X_lv [(5, .int (iI (z1755 + 1))), (4, .int (iI z1233)), (3, .int (iI (z1 - 1))), (0, .ref a0), (1, .ref a1), (2, .int (iI x2))] [0, 3, 4, 5, 6, 7] rfl ?_
                  exact ihP1802  g1839 (xM.tr (xM.tr xM.rf xLe.rf hg1756 (by decide)) xLe.rf hg1839 (by decide)) (z1755 + 1) (by omega) (by omega) (by omega)
                refine X_if_ne hK 98 (by omega) kd36_4.1 (by decide) (fun c1836 => ?_) (fun c1836 => ?_)
                · exact J1838 g1756 xM.rf
                · refine X_aloadn hK (i := 0) 5 kd36_4.2.1 rfl rfl ?_
                  refine X_getK hK fl_X8_21_9 hs_a0 ((hg1756 a0 9 0 3 hs_a0 (by decide)).trans ((hg1234 a0 9 0 3 hs_a0 (by decide)).trans ew0)) kd36_4.2.2.1 ?_
                  refine X_iload hK (i := 6) 1 kd36_4.2.2.2.1 rfl ?_
                  refine X_ldc hK (n := 1000000) kd36_4.2.2.2.2.1 m_53_22 (by decide) ?_
                  refine X_iast hK hs_w0 ⟨by decide, by decide, by decide, by omega⟩ (by decide) sl_13400 (by omega) (by omega) (by omega) (by omega) kd36_4.2.2.2.2.2.1 (fun g1840 hg1840 => ?_)
                  exact J1838 g1840 (xM_ua xM.rf hg1840 hs_w0 (by decide) (by decide))
              refine X_icmp_ne hK 64 (by omega) (by omega) kd36_2.2.1 (by decide) (fun c1826 => ?_) (fun c1826 => ?_)
              · refine X_aloadn hK (i := 0) 4 kd36_3.1 rfl rfl ?_
                refine X_aloadn hK (i := 1) 5 kd36_3.2.1 rfl rfl ?_
                refine X_iload hK (i := 4) 2 kd36_3.2.2.1 rfl ?_
                refine X_iload hK (i := 5) 1 kd36_3.2.2.2.1 rfl ?_
                refine X_callV hK [.ref a1, .int (iI z1233), .int (iI z1755)] [] lk_X8_74 (c_nextOf_9 _ _ _ _ _ S g1756 a0 a1 z1233 z1755 n0 w0 nw0 hs_a0 hs_a1 (by omega) (by omega) (by omega) ((hg1756 a0 9 0 4 hs_a0 (by decide)).trans ((hg1234 a0 9 0 4 hs_a0 (by decide)).trans en0)) ((hg1756 a0 9 0 3 hs_a0 (by decide)).trans ((hg1234 a0 9 0 3 hs_a0 (by decide)).trans ew0)) hs_w0 (by omega) (by omega)) hs_a0 ⟨by decide, rfl⟩ kd36_3.2.2.2.2.1 rfl rfl (by simp [Value.category]) (by decide) (by decide) (by decide) (by decide) (fun r1841 S1843 g1842 pr1841 qr1841 hg1842 => ?_)
                obtain ⟨rfl, rfl, z1844, rfl, lz1844, uz1844⟩ := pr1841
                refine X_st [.int (iI z1844)] rfl ?_
                refine X_iconst hK kd36_3.2.2.2.2.2.1 ?_
                refine X_icmp_eq hK 81 (by omega) (by omega) kd36_3.2.2.2.2.2.2.1 (by decide) (fun c1845 => ?_) (fun c1845 => ?_)
                · refine X_iconst hK kd36_3.2.2.2.2.2.2.2.2.2.1 ?_
                  exact J1835 0 (by omega) (by omega)
                · refine X_iconst hK kd36_3.2.2.2.2.2.2.2.1 ?_
                  refine X_goto hK 82 kd36_3.2.2.2.2.2.2.2.2.1 (by decide) ?_
                  exact J1835 1 (by omega) (by omega)
              · refine X_aloadn hK (i := 0) 4 kd36_2.2.2.1 rfl rfl ?_
                refine X_getK hK fl_X8_21_9 hs_a0 ((hg1756 a0 9 0 3 hs_a0 (by decide)).trans ((hg1234 a0 9 0 3 hs_a0 (by decide)).trans ew0)) kd36_2.2.2.2.1 ?_
                refine X_iload hK (i := 6) 0 kd36_2.2.2.2.2.1 rfl ?_
                refine X_iald hK hs_w0 ⟨by decide, by decide, by omega⟩ sl_13400 (by omega) (by omega) kd36_2.2.2.2.2.2.1 (fun z1846 ez1846 lz1846 uz1846 => ?_)
                refine X_iloadn hK (i := 2) 6 kd36_2.2.2.2.2.2.2.1 rfl rfl ?_
                refine X_icmp_ne hK 60 (by omega) (by omega) kd36_2.2.2.2.2.2.2.2.1 (by decide) (fun c1847 => ?_) (fun c1847 => ?_)
                · refine X_iconst hK kd36_2.2.2.2.2.2.2.2.2.2.2.1 ?_
                  refine X_goto hK 82 kd36_2.2.2.2.2.2.2.2.2.2.2.2 (by decide) ?_
                  exact J1835 0 (by omega) (by omega)
                · refine X_iconst hK kd36_2.2.2.2.2.2.2.2.2.1 ?_
                  refine X_goto hK 82 kd36_2.2.2.2.2.2.2.2.2.2.1 (by decide) ?_
                  exact J1835 1 (by omega) (by omega)
        exact P1802 ((25 - 0 : Int).toNat + 1) g1234 xM.rf 0 (by omega) (by omega) (by omega)
  exact P1541 (((z1 - 1) - (-16) : Int).toNat + 1) g xM.rf (z1 - 1) (by omega) (by omega) (by omega)

set_option maxHeartbeats 4000000 in
set_option maxRecDepth 100000 in
theorem c_walk_9 (l : Launch) (D : va_G) (kA : Nat → ClassId) (b0 : Nat) (t0 : Nat → Nat) (S : xT) (g : xG) (a0 : Nat) (a1 : Nat) (n0 : Int) (w0 nw0 : Nat) (hs_a0 : S a0 = some (9, 0)) (hs_a1 : S a1 = some (4, 0)) (hn0 : 9 ≤ n0 ∧ n0 ≤ 9) (en0 : g a0 4 = .int (iI n0)) (ew0 : g a0 3 = .ref w0) (hs_w0 : S w0 = some (13400, nw0)) (hp0 : 4608 ≤ (nw0 : Int)) (hp1 : (nw0 : Int) ≤ 2147483647) : xMt l yX8_walk cX8_walk 5 none 1 0 0 26 D kA b0 t0 [(9, 5), (13300, 0)] [.ref a0, .ref a1] S g (fun (r : Option Value) (S1 : xT) (g1 : xG) => S = S1 ∧ r = none) := by
  refine xEnterV (by decide) (by simp [lg_sl, Value.category]) [(0, .ref a0), (1, .ref a1)] rfl ?_
  intro K E hK hret _ _ _
  refine X_iconst hK kd36_20.2.2.2.2.2.2.2.2.2.1 ?_
  refine X_istoren hK (i := 2) [(2, .int (iI (-1))), (0, .ref a0), (1, .ref a1)] kd36_20.2.2.2.2.2.2.2.2.2.2.1 rfl (by decide) rfl ?_
  refine X_aloadn hK (i := 0) 1 kd36_20.2.2.2.2.2.2.2.2.2.2.2 rfl rfl ?_
  refine X_getK hK fl_X8_24_9 hs_a0 en0 kd36_21.1 ?_
  refine X_iconst hK kd36_21.2.1 ?_
  refine X_isub hK kd36_21.2.2.1 ?_
  refine X_istoren hK (i := 3) [(3, .int (iI (n0 - 1))), (2, .int (iI (-1))), (0, .ref a0), (1, .ref a1)] kd36_21.2.2.2.1 rfl (by decide) rfl ?_
  have P595 : ∀ (nP595 : Nat) (z459 : Int) (_ : (-1) ≤ z459) (_ : z459 ≤ 8) (z460 : Int) (_ : (-1) ≤ z460) (_ : z460 ≤ 8) (_ : z459 - (-17) < (nP595 : Int)), X K E 9 [(3, .int (iI z459)), (2, .int (iI z460)), (0, .ref a0), (1, .ref a1)] [] S g 0 0 := by
    intro nP595
    induction nP595 with
    | zero => intro z459 lz459 uz459 z460 lz460 uz460 mP595; exact False.elim (by omega)
    | succ nP595 ihP595 =>
      intro z459 lz459 uz459 z460 lz460 uz460 mP595
      refine X_iloadn hK (i := 3) 0 kd36_21.2.2.2.2.1 rfl rfl ?_
      refine X_if_lt hK 39 (by omega) kd36_21.2.2.2.2.2.1 (by decide) (fun c596 => ?_) (fun c596 => ?_)
      · refine X_iconst hK kd36_22.2.2.2.2.2.2.2.2.2.2.1 ?_
        refine X_istoren hK (i := 3) [(3, .int (iI 0)), (2, .int (iI z460)), (0, .ref a0), (1, .ref a1)] kd36_22.2.2.2.2.2.2.2.2.2.2.2 rfl (by decide) rfl ?_
        refine X_aloadn hK (i := 0) 2 kd36_23.1 rfl rfl ?_
        refine X_iconst hK kd36_23.2.1 ?_
        refine X_puti hK fl_X8_28_9 hs_a0 (by decide) sl_9_5 (by omega) (by omega) kd36_23.2.2.1 (fun g602 hg602 => ?_)
        refine X_iconst hK kd36_23.2.2.2.1 ?_
        refine X_istore hK (i := 4) [(4, .int (iI 0)), (3, .int (iI 0)), (2, .int (iI z460)), (0, .ref a0), (1, .ref a1)] kd36_23.2.2.2.2.1 (by decide) rfl ?_
        have P710 : ∀ (nP710 : Nat) (g695 : xG) (_ : xM [(9, 5), (13300, 0)] S g602 g695) (z692 : Int) (_ : 0 ≤ z692) (_ : z692 ≤ 9) (z693 : Int) (_ : 0 ≤ z693) (_ : z693 ≤ 511) (z694 : Int) (_ : (-1) ≤ z694) (_ : z694 ≤ 8) (q696 : Int) (_ : 0 ≤ q696) (_ : q696 ≤ 9) (_ : g695 a0 5 = .int (iI q696)) (_ : q696 ≤ z692) (_ : 25 - z692 < (nP710 : Int)), X K E 49 [(4, .int (iI z692)), (3, .int (iI z693)), (2, .int (iI z694)), (0, .ref a0), (1, .ref a1)] [] S g695 0 0 := by
          intro nP710
          induction nP710 with
          | zero => intro g695 hg695 z692 lz692 uz692 z693 lz693 uz693 z694 lz694 uz694 q696 lq696 uq696 eq696 v711 mP710; exact False.elim (by omega)
          | succ nP710 ihP710 =>
            intro g695 hg695 z692 lz692 uz692 z693 lz693 uz693 z694 lz694 uz694 q696 lq696 uq696 eq696 v711 mP710
            refine X_iload hK (i := 4) 0 kd36_23.2.2.2.2.2.1 rfl ?_
            refine X_aloadn hK (i := 0) 3 kd36_23.2.2.2.2.2.2.1 rfl rfl ?_
            refine X_getK hK fl_X8_24_9 hs_a0 ((hg695 a0 9 0 4 hs_a0 (by decide)).trans ((xs_k hg602 (by decide)).trans en0)) kd36_23.2.2.2.2.2.2.2.1 ?_
            refine X_icmp_ge hK 106 (by omega) (by omega) kd36_23.2.2.2.2.2.2.2.2.1 (by decide) (fun c712 => ?_) (fun c712 => ?_)
            · exact hret _ _ _ _ _ _ kd36_26.2.2.2.2 ⟨rfl, rfl⟩ (Nat.le_refl _) (Nat.le_refl _)
            · refine X_iloadn hK (i := 2) 2 kd36_23.2.2.2.2.2.2.2.2.2.1 rfl rfl ?_
              refine X_iconst hK kd36_23.2.2.2.2.2.2.2.2.2.2.1 ?_
              refine X_icmp_eq hK 106 (by omega) (by omega) kd36_23.2.2.2.2.2.2.2.2.2.2.2 (by decide) (fun c713 => ?_) (fun c713 => ?_)
              · exact hret _ _ _ _ _ _ kd36_26.2.2.2.2 ⟨rfl, rfl⟩ (Nat.le_refl _) (Nat.le_refl _)
              · refine X_aloadn hK (i := 0) 3 kd36_24.1 rfl rfl ?_
                refine X_getr hK 13300 9 fl_X8_18_9 hs_a0 sl_9_2 kd36_24.2.1 (fun b714 eb714 hs_b714 => ?_)
                refine X_iload hK (i := 4) 0 kd36_24.2.2.1 rfl ?_
                refine X_aloadn hK (i := 0) 3 kd36_24.2.2.2.1 rfl rfl ?_
                refine X_getr hK 13100 9 fl_X8_11_9 hs_a0 sl_9_0 kd36_24.2.2.2.2.1 (fun b715 eb715 hs_b715 => ?_)
                refine X_iloadn hK (i := 2) 2 kd36_24.2.2.2.2.2.1 rfl rfl ?_
                refine X_iald hK hs_b715 (by decide) sl_13100 (by omega) (by omega) kd36_24.2.2.2.2.2.2.1 (fun z716 ez716 lz716 uz716 => ?_)
                refine X_iast hK hs_b714 (by decide) (by decide) sl_13300 (by omega) (by omega) (by omega) (by omega) kd36_24.2.2.2.2.2.2.2.1 (fun g717 hg717 => ?_)
                refine X_aloadn hK (i := 0) 3 kd36_24.2.2.2.2.2.2.2.2.1 rfl rfl ?_
                refine X_dup hK kd36_24.2.2.2.2.2.2.2.2.2.1 rfl ?_
                refine X_getK hK fl_X8_28_9 hs_a0 ((xs_a hg717 (xne hs_a0 hs_b714 (by decide))).trans eq696) kd36_24.2.2.2.2.2.2.2.2.2.2.1 ?_
                refine X_iconst hK kd36_24.2.2.2.2.2.2.2.2.2.2.2 ?_
                refine X_iadd hK kd36_25.1 ?_
                refine X_puti hK fl_X8_28_9 hs_a0 (by decide) sl_9_5 (by omega) (by omega) kd36_25.2.1 (fun g718 hg718 => ?_)
                refine X_iloadn hK (i := 3) 1 kd36_25.2.2.1 rfl rfl ?_
                refine X_iconst hK kd36_25.2.2.2.1 ?_
                refine X_iloadn hK (i := 2) 2 kd36_25.2.2.2.2.1 rfl rfl ?_
                refine X_ishl hK kd36_25.2.2.2.2.2.1 (fun z719 ez719 lz719 uz719 => ?_)
                have bz719 := xshlB 8 ez719 ⟨lz719, uz719⟩ (by omega) (by decide)
                refine X_ior hK kd36_25.2.2.2.2.2.2.1 (fun z720 ez720 lz720 uz720 => ?_)
                have bz720 := xiorB 9 ez720 ⟨lz720, uz720⟩ (by omega) (by omega) (by decide)
                have gz720 := xiorG ez720 ⟨lz720, uz720⟩ (by omega) (by omega)
                refine X_istoren hK (i := 3) [(3, .int (iI z720)), (4, .int (iI z692)), (2, .int (iI z694)), (0, .ref a0), (1, .ref a1)] kd36_25.2.2.2.2.2.2.2.1 rfl (by decide) rfl ?_
                refine X_aloadn hK (i := 0) 3 kd36_25.2.2.2.2.2.2.2.2.1 rfl rfl ?_
                refine X_aloadn hK (i := 1) 4 kd36_25.2.2.2.2.2.2.2.2.2.1 rfl rfl ?_
                refine X_iloadn hK (i := 3) 0 kd36_25.2.2.2.2.2.2.2.2.2.2.1 rfl rfl ?_
                refine X_iloadn hK (i := 2) 2 kd36_25.2.2.2.2.2.2.2.2.2.2.2 rfl rfl ?_
                refine X_callV hK [.ref a1, .int (iI z720), .int (iI z694)] [] lk_X8_74 (c_nextOf_9 _ _ _ _ _ S g718 a0 a1 z720 z694 n0 w0 nw0 hs_a0 hs_a1 (by omega) (by omega) (by omega) ((xs_k hg718 (by decide)).trans ((xs_a hg717 (xne hs_a0 hs_b714 (by decide))).trans ((hg695 a0 9 0 4 hs_a0 (by decide)).trans ((xs_k hg602 (by decide)).trans en0)))) ((xs_k hg718 (by decide)).trans ((xs_a hg717 (xne hs_a0 hs_b714 (by decide))).trans ((hg695 a0 9 0 3 hs_a0 (by decide)).trans ((xs_k hg602 (by decide)).trans ew0)))) hs_w0 (by omega) (by omega)) hs_a0 ⟨by decide, rfl⟩ kd36_26.1 rfl rfl (by simp [Value.category]) (by decide) (by decide) (by decide) (by decide) (fun r721 S723 g722 pr721 qr721 hg722 => ?_)
                obtain ⟨rfl, rfl, z724, rfl, lz724, uz724⟩ := pr721
                refine X_st [.int (iI z724)] rfl ?_
                refine X_istoren hK (i := 2) [(2, .int (iI z724)), (3, .int (iI z720)), (4, .int (iI z692)), (0, .ref a0), (1, .ref a1)] kd36_26.2.1 rfl (by decide) rfl ?_
                refine X_iinc hK (i := 4) (z := z692) (n := 1) 2 [(4, .int (iI (z692 + 1))), (2, .int (iI z724)), (3, .int (iI z720)), (0, .ref a0), (1, .ref a1)] kd36_26.2.2.1 rfl (by decide) rfl ?_
                refine X_goto hK 49 kd36_26.2.2.2.1 (by decide) ?_
                refine X_lv [(4, .int (iI (z692 + 1))), (3, .int (iI z720)), (2, .int (iI z724)), (0, .ref a0), (1, .ref a1)] [0, 2, 1, 3, 4] rfl ?_
                exact ihP710  g718 (xM_up (xM_ua (xM.tr xM.rf xLe.rf hg695 (by decide)) hg717 hs_b714 (by decide) (by decide)) hg718 hs_a0 (by decide) (by decide)) (z692 + 1) (by omega) (by omega) z720 (by omega) (by omega) z724 (by omega) (by omega) (q696 + 1) (by omega) (by omega) (xs_s hg718) (by omega) (by omega)
        exact P710 ((25 - 0 : Int).toNat + 1) g602 xM.rf 0 (by omega) (by omega) 0 (by omega) (by omega) z460 (by omega) (by omega) 0 (by omega) (by omega) (xs_s hg602) (by omega) (by omega)
      · refine X_aloadn hK (i := 0) 2 kd36_21.2.2.2.2.2.2.1 rfl rfl ?_
        refine X_getK hK fl_X8_21_9 hs_a0 ew0 kd36_21.2.2.2.2.2.2.2.1 ?_
        refine X_iconst hK kd36_21.2.2.2.2.2.2.2.2.1 ?_
        refine X_iloadn hK (i := 3) 0 kd36_21.2.2.2.2.2.2.2.2.2.1 rfl rfl ?_
        refine X_ishl hK kd36_21.2.2.2.2.2.2.2.2.2.2.1 (fun z725 ez725 lz725 uz725 => ?_)
        have bz725 := xshlB 8 ez725 ⟨lz725, uz725⟩ (by omega) (by decide)
        refine X_bipush hK kd36_21.2.2.2.2.2.2.2.2.2.2.2 (by decide) ?_
        refine X_imul hK kd36_22.1 ?_
        refine X_iloadn hK (i := 3) 0 kd36_22.2.1 rfl rfl ?_
        refine X_iadd hK kd36_22.2.2.1 ?_
        refine X_iald hK hs_w0 ⟨by decide, by decide, by omega⟩ sl_13400 (by omega) (by omega) kd36_22.2.2.2.1 (fun z726 ez726 lz726 uz726 => ?_)
        refine X_ldc hK (n := 1000000) kd36_22.2.2.2.2.1 m_53_22 (by decide) ?_
        have J729 : ∀ (z728 : Int) (lz728 : (-1) ≤ z728) (uz728 : z728 ≤ 8), X K E 33 [(3, .int (iI z459)), (2, .int (iI z728)), (0, .ref a0), (1, .ref a1)] [] S g 0 0 := by
          intro z728 lz728 uz728
          refine X_iinc hK (i := 3) (z := z459) (n := (-1)) 0 [(3, .int (iI (z459 + (-1)))), (2, .int (iI z728)), (0, .ref a0), (1, .ref a1)] kd36_22.2.2.2.2.2.2.2.2.1 rfl (by decide) rfl ?_
          refine X_goto hK 9 kd36_22.2.2.2.2.2.2.2.2.2.1 (by decide) ?_
          exact ihP595  (z459 + (-1)) (by omega) (by omega) z728 (by omega) (by omega) (by omega)
        refine X_icmp_eq hK 33 (by omega) (by omega) kd36_22.2.2.2.2.2.1 (by decide) (fun c727 => ?_) (fun c727 => ?_)
        · exact J729 z460 (by omega) (by omega)
        · refine X_iloadn hK (i := 3) 0 kd36_22.2.2.2.2.2.2.1 rfl rfl ?_
          refine X_istoren hK (i := 2) [(2, .int (iI z459)), (3, .int (iI z459)), (0, .ref a0), (1, .ref a1)] kd36_22.2.2.2.2.2.2.2.1 rfl (by decide) rfl ?_
          refine X_lv [(3, .int (iI z459)), (2, .int (iI z459)), (0, .ref a0), (1, .ref a1)] [1, 0, 2, 3] rfl ?_
          exact J729 z459 (by omega) (by omega)
  exact P595 (((n0 - 1) - (-17) : Int).toNat + 1) (n0 - 1) (by omega) (by omega) (-1) (by omega) (by omega) (by omega)
