theorem m_3_4 : Cond.fieldLink RX11 80 "PaperBoys" "nextParting" "LPaperBoys$Parting;" ∈ wsL_law := ch_3 _ (List.mem_of_getElem? (i := 4) rfl)
theorem m_49_0 : Cond.methodLink RX11 318 yX6_learn ∈ wsL_law := ch_49 _ (List.mem_of_getElem? (i := 0) rfl)
theorem m_49_1 : Cond.instanceMethod yX6_learn ∈ wsL_law := ch_49 _ (List.mem_of_getElem? (i := 1) rfl)
theorem m_49_2 : Cond.selects RX6 yX6_learn yX6_learn ∈ wsL_law := ch_49 _ (List.mem_of_getElem? (i := 2) rfl)
theorem m_49_3 : Cond.code yX6_learn cX6_learn 6 none ∈ wsL_law := ch_49 _ (List.mem_of_getElem? (i := 3) rfl)
theorem m_49_5 : Cond.methodLink RX11 321 yX6_partByOffers ∈ wsL_law := ch_49 _ (List.mem_of_getElem? (i := 5) rfl)
theorem m_49_6 : Cond.instanceMethod yX6_partByOffers ∈ wsL_law := ch_49 _ (List.mem_of_getElem? (i := 6) rfl)
theorem m_49_7 : Cond.selects RX6 yX6_partByOffers yX6_partByOffers ∈ wsL_law := ch_49 _ (List.mem_of_getElem? (i := 7) rfl)
theorem m_49_8 : Cond.code yX6_partByOffers cX6_partByOffers 4 (some .int) ∈ wsL_law := ch_49 _ (List.mem_of_getElem? (i := 8) rfl)
theorem m_49_9 : Cond.methodLink RX6 54 yX6_boyWithout ∈ wsL_law := ch_49 _ (List.mem_of_getElem? (i := 9) rfl)
theorem m_49_10 : Cond.instanceMethod yX6_boyWithout ∈ wsL_law := ch_49 _ (List.mem_of_getElem? (i := 10) rfl)
theorem m_49_11 : Cond.selects RX6 yX6_boyWithout yX6_boyWithout ∈ wsL_law := ch_49 _ (List.mem_of_getElem? (i := 11) rfl)
theorem m_49_12 : Cond.code yX6_boyWithout cX6_boyWithout 2 (some .int) ∈ wsL_law := ch_49 _ (List.mem_of_getElem? (i := 12) rfl)
theorem m_49_13 : Cond.methodLink RX6 58 yX6_dearestOf ∈ wsL_law := ch_49 _ (List.mem_of_getElem? (i := 13) rfl)
theorem m_49_14 : Cond.instanceMethod yX6_dearestOf ∈ wsL_law := ch_49 _ (List.mem_of_getElem? (i := 14) rfl)
theorem m_49_15 : Cond.selects RX6 yX6_dearestOf yX6_dearestOf ∈ wsL_law := ch_49 _ (List.mem_of_getElem? (i := 15) rfl)
theorem m_49_16 : Cond.code yX6_dearestOf cX6_dearestOf 5 (some .int) ∈ wsL_law := ch_49 _ (List.mem_of_getElem? (i := 16) rfl)
theorem m_49_17 : Cond.methodLink RX6 62 yX6_ask ∈ wsL_law := ch_49 _ (List.mem_of_getElem? (i := 17) rfl)
theorem m_49_18 : Cond.instanceMethod yX6_ask ∈ wsL_law := ch_49 _ (List.mem_of_getElem? (i := 18) rfl)
theorem m_49_19 : Cond.selects RX6 yX6_ask yX6_ask ∈ wsL_law := ch_49 _ (List.mem_of_getElem? (i := 19) rfl)
theorem m_49_20 : Cond.code yX6_ask cX6_ask 4 none ∈ wsL_law := ch_49 _ (List.mem_of_getElem? (i := 20) rfl)
theorem m_50_1 : Cond.methodLink RX6 66 yX6_gained ∈ wsL_law := ch_50 _ (List.mem_of_getElem? (i := 1) rfl)
theorem m_50_2 : Cond.instanceMethod yX6_gained ∈ wsL_law := ch_50 _ (List.mem_of_getElem? (i := 2) rfl)
theorem m_50_3 : Cond.selects RX6 yX6_gained yX6_gained ∈ wsL_law := ch_50 _ (List.mem_of_getElem? (i := 3) rfl)
theorem m_50_4 : Cond.code yX6_gained cX6_gained 3 (some .int) ∈ wsL_law := ch_50 _ (List.mem_of_getElem? (i := 4) rfl)
theorem m_50_5 : Cond.methodLink RX11 324 yX11_isSum ∈ wsL_law := ch_50 _ (List.mem_of_getElem? (i := 5) rfl)
theorem m_50_6 : Cond.static yX11_isSum ∈ wsL_law := ch_50 _ (List.mem_of_getElem? (i := 6) rfl)
theorem m_50_7 : Cond.code yX11_isSum cX11_isSum 1 (some .boolean) ∈ wsL_law := ch_50 _ (List.mem_of_getElem? (i := 7) rfl)
theorem m_50_8 : Cond.methodLink RX11 327 yX6_partBest ∈ wsL_law := ch_50 _ (List.mem_of_getElem? (i := 8) rfl)
theorem m_50_9 : Cond.instanceMethod yX6_partBest ∈ wsL_law := ch_50 _ (List.mem_of_getElem? (i := 9) rfl)
theorem m_50_10 : Cond.selects RX6 yX6_partBest yX6_partBest ∈ wsL_law := ch_50 _ (List.mem_of_getElem? (i := 10) rfl)
theorem m_50_11 : Cond.code yX6_partBest cX6_partBest 2 (some .int) ∈ wsL_law := ch_50 _ (List.mem_of_getElem? (i := 11) rfl)
theorem m_53_6 : Cond.methodLink RX11 336 yX6_hasPeace ∈ wsL_law := ch_53 _ (List.mem_of_getElem? (i := 6) rfl)
theorem m_53_7 : Cond.instanceMethod yX6_hasPeace ∈ wsL_law := ch_53 _ (List.mem_of_getElem? (i := 7) rfl)
theorem m_53_8 : Cond.selects RX6 yX6_hasPeace yX6_hasPeace ∈ wsL_law := ch_53 _ (List.mem_of_getElem? (i := 8) rfl)
theorem m_53_9 : Cond.code yX6_hasPeace cX6_hasPeace 4 (some .boolean) ∈ wsL_law := ch_53 _ (List.mem_of_getElem? (i := 9) rfl)
theorem kd43_0 : (decode cX11_parted 0 = .ok (.iconst (-1), 1)) ∧ (decode cX11_parted 1 = .ok (.istore 4, 2)) ∧ (decode cX11_parted 3 = .ok (.iload_n 1, 1)) ∧ (decode cX11_parted 4 = .ok (.iconst 1, 1)) ∧ (decode cX11_parted 5 = .ok (.bipush 8, 2)) ∧ (decode cX11_parted 7 = .ok (.invokestatic 115, 3)) ∧ (decode cX11_parted 10 = .ok (.ifCond .eq 68, 3)) ∧ (decode cX11_parted 13 = .ok (.aload_n 0, 1)) ∧ (decode cX11_parted 14 = .ok (.getfield 10, 3)) ∧ (decode cX11_parted 17 = .ok (.getfield 102, 3)) ∧ (decode cX11_parted 20 = .ok (.iconst 2, 1)) ∧ (decode cX11_parted 21 = .ok (.iload_n 1, 1)) := by decide +kernel
theorem kd43_1 : (decode cX11_parted 22 = .ok (.imul, 1)) ∧ (decode cX11_parted 23 = .ok (.iload_n 1, 1)) ∧ (decode cX11_parted 24 = .ok (.imul, 1)) ∧ (decode cX11_parted 25 = .ok (.if_icmp .ne 53, 3)) ∧ (decode cX11_parted 28 = .ok (.aload_n 0, 1)) ∧ (decode cX11_parted 29 = .ok (.getfield 80, 3)) ∧ (decode cX11_parted 32 = .ok (.iload_n 1, 1)) ∧ (decode cX11_parted 33 = .ok (.aload_n 0, 1)) ∧ (decode cX11_parted 34 = .ok (.getfield 10, 3)) ∧ (decode cX11_parted 37 = .ok (.invokevirtual 318, 3)) ∧ (decode cX11_parted 40 = .ok (.iload_n 2, 1)) ∧ (decode cX11_parted 41 = .ok (.ifCond .ne 15, 3)) := by decide +kernel
theorem kd43_2 : (decode cX11_parted 44 = .ok (.aload_n 0, 1)) ∧ (decode cX11_parted 45 = .ok (.getfield 80, 3)) ∧ (decode cX11_parted 48 = .ok (.invokevirtual 321, 3)) ∧ (decode cX11_parted 51 = .ok (.istore 4, 2)) ∧ (decode cX11_parted 53 = .ok (.goto 25, 3)) ∧ (decode cX11_parted 56 = .ok (.iload_n 2, 1)) ∧ (decode cX11_parted 57 = .ok (.iconst 1, 1)) ∧ (decode cX11_parted 58 = .ok (.if_icmp .ne 20, 3)) ∧ (decode cX11_parted 61 = .ok (.iload_n 3, 1)) ∧ (decode cX11_parted 62 = .ok (.invokestatic 324, 3)) ∧ (decode cX11_parted 65 = .ok (.ifCond .eq 13, 3)) ∧ (decode cX11_parted 68 = .ok (.aload_n 0, 1)) := by decide +kernel
theorem kd43_3 : (decode cX11_parted 69 = .ok (.getfield 80, 3)) ∧ (decode cX11_parted 72 = .ok (.iload_n 3, 1)) ∧ (decode cX11_parted 73 = .ok (.invokevirtual 327, 3)) ∧ (decode cX11_parted 76 = .ok (.istore 4, 2)) ∧ (decode cX11_parted 78 = .ok (.iload 4, 2)) ∧ (decode cX11_parted 80 = .ok (.iconst (-1), 1)) ∧ (decode cX11_parted 81 = .ok (.if_icmp .eq 23, 3)) ∧ (decode cX11_parted 84 = .ok (.aload_n 0, 1)) ∧ (decode cX11_parted 85 = .ok (.getfield 76, 3)) ∧ (decode cX11_parted 88 = .ok (.astore 5, 2)) ∧ (decode cX11_parted 90 = .ok (.aload_n 0, 1)) ∧ (decode cX11_parted 91 = .ok (.aload_n 0, 1)) := by decide +kernel
theorem kd43_4 : (decode cX11_parted 92 = .ok (.getfield 80, 3)) ∧ (decode cX11_parted 95 = .ok (.putfield 76, 3)) ∧ (decode cX11_parted 98 = .ok (.aload_n 0, 1)) ∧ (decode cX11_parted 99 = .ok (.aload 5, 2)) ∧ (decode cX11_parted 101 = .ok (.putfield 80, 3)) ∧ (decode cX11_parted 104 = .ok (.aload_n 0, 1)) ∧ (decode cX11_parted 105 = .ok (.getfield 10, 3)) ∧ (decode cX11_parted 108 = .ok (.iconst 0, 1)) ∧ (decode cX11_parted 109 = .ok (.putfield 102, 3)) ∧ (decode cX11_parted 112 = .ok (.iload 4, 2)) ∧ (decode cX11_parted 114 = .ok (.ireturn, 1)) ∧ (decode cX11_peace 0 = .ok (.aload_n 0, 1)) := by decide +kernel
theorem kd43_5 : (decode cX11_peace 1 = .ok (.getfield 76, 3)) ∧ (decode cX11_peace 4 = .ok (.getfield 330, 3)) ∧ (decode cX11_peace 7 = .ok (.ifCond .eq 10, 3)) ∧ (decode cX11_peace 10 = .ok (.iload_n 1, 1)) ∧ (decode cX11_peace 11 = .ok (.invokestatic 324, 3)) ∧ (decode cX11_peace 14 = .ok (.ifCond .ne 5, 3)) ∧ (decode cX11_peace 17 = .ok (.iconst (-1), 1)) ∧ (decode cX11_peace 18 = .ok (.ireturn, 1)) ∧ (decode cX11_peace 19 = .ok (.aload_n 0, 1)) ∧ (decode cX11_peace 20 = .ok (.getfield 76, 3)) ∧ (decode cX11_peace 23 = .ok (.iload_n 1, 1)) ∧ (decode cX11_peace 24 = .ok (.invokevirtual 336, 3)) := by decide +kernel
theorem kd43_6 : (decode cX11_peace 27 = .ok (.ifCond .eq 7, 3)) ∧ (decode cX11_peace 30 = .ok (.iconst 1, 1)) ∧ (decode cX11_peace 31 = .ok (.goto 4, 3)) ∧ (decode cX11_peace 34 = .ok (.iconst 0, 1)) ∧ (decode cX11_peace 35 = .ok (.ireturn, 1)) ∧ (decode cX6_hasPeace 0 = .ok (.iconst 0, 1)) ∧ (decode cX6_hasPeace 1 = .ok (.istore_n 2, 1)) ∧ (decode cX6_hasPeace 2 = .ok (.iload_n 2, 1)) ∧ (decode cX6_hasPeace 3 = .ok (.aload_n 0, 1)) ∧ (decode cX6_hasPeace 4 = .ok (.getfield 9, 3)) ∧ (decode cX6_hasPeace 7 = .ok (.if_icmp .ge 49, 3)) ∧ (decode cX6_hasPeace 10 = .ok (.iconst 0, 1)) := by decide +kernel
theorem kd43_7 : (decode cX6_hasPeace 11 = .ok (.istore_n 3, 1)) ∧ (decode cX6_hasPeace 12 = .ok (.iload_n 3, 1)) ∧ (decode cX6_hasPeace 13 = .ok (.aload_n 0, 1)) ∧ (decode cX6_hasPeace 14 = .ok (.getfield 9, 3)) ∧ (decode cX6_hasPeace 17 = .ok (.if_icmp .ge 33, 3)) ∧ (decode cX6_hasPeace 20 = .ok (.aload_n 0, 1)) ∧ (decode cX6_hasPeace 21 = .ok (.iload_n 2, 1)) ∧ (decode cX6_hasPeace 22 = .ok (.aload_n 0, 1)) ∧ (decode cX6_hasPeace 23 = .ok (.getfield 22, 3)) ∧ (decode cX6_hasPeace 26 = .ok (.iload_n 2, 1)) ∧ (decode cX6_hasPeace 27 = .ok (.iaload, 1)) ∧ (decode cX6_hasPeace 28 = .ok (.iload_n 3, 1)) := by decide +kernel
theorem kd43_8 : (decode cX6_hasPeace 29 = .ok (.aload_n 0, 1)) ∧ (decode cX6_hasPeace 30 = .ok (.getfield 22, 3)) ∧ (decode cX6_hasPeace 33 = .ok (.iload_n 3, 1)) ∧ (decode cX6_hasPeace 34 = .ok (.iaload, 1)) ∧ (decode cX6_hasPeace 35 = .ok (.iload_n 1, 1)) ∧ (decode cX6_hasPeace 36 = .ok (.invokevirtual 50, 3)) ∧ (decode cX6_hasPeace 39 = .ok (.ifCond .eq 5, 3)) ∧ (decode cX6_hasPeace 42 = .ok (.iconst 0, 1)) ∧ (decode cX6_hasPeace 43 = .ok (.ireturn, 1)) ∧ (decode cX6_hasPeace 44 = .ok (.iinc 3 1, 3)) ∧ (decode cX6_hasPeace 47 = .ok (.goto (-35), 3)) ∧ (decode cX6_hasPeace 50 = .ok (.iinc 2 1, 3)) := by decide +kernel
theorem kd43_9 : (decode cX6_hasPeace 53 = .ok (.goto (-51), 3)) ∧ (decode cX6_hasPeace 56 = .ok (.iconst 1, 1)) ∧ (decode cX6_hasPeace 57 = .ok (.ireturn, 1)) ∧ (decode cX6_partByOffers 0 = .ok (.iconst 0, 1)) ∧ (decode cX6_partByOffers 1 = .ok (.istore_n 1, 1)) ∧ (decode cX6_partByOffers 2 = .ok (.iload_n 1, 1)) ∧ (decode cX6_partByOffers 3 = .ok (.bipush 8, 2)) ∧ (decode cX6_partByOffers 5 = .ok (.if_icmp .ge 23, 3)) ∧ (decode cX6_partByOffers 8 = .ok (.aload_n 0, 1)) ∧ (decode cX6_partByOffers 9 = .ok (.getfield 22, 3)) ∧ (decode cX6_partByOffers 12 = .ok (.iload_n 1, 1)) ∧ (decode cX6_partByOffers 13 = .ok (.iconst (-1), 1)) := by decide +kernel
theorem kd43_10 : (decode cX6_partByOffers 14 = .ok (.iastore, 1)) ∧ (decode cX6_partByOffers 15 = .ok (.aload_n 0, 1)) ∧ (decode cX6_partByOffers 16 = .ok (.getfield 25, 3)) ∧ (decode cX6_partByOffers 19 = .ok (.iload_n 1, 1)) ∧ (decode cX6_partByOffers 20 = .ok (.iconst (-1), 1)) ∧ (decode cX6_partByOffers 21 = .ok (.iastore, 1)) ∧ (decode cX6_partByOffers 22 = .ok (.iinc 1 1, 3)) ∧ (decode cX6_partByOffers 25 = .ok (.goto (-23), 3)) ∧ (decode cX6_partByOffers 28 = .ok (.iconst 0, 1)) ∧ (decode cX6_partByOffers 29 = .ok (.istore_n 1, 1)) ∧ (decode cX6_partByOffers 30 = .ok (.iload_n 1, 1)) ∧ (decode cX6_partByOffers 31 = .ok (.aload_n 0, 1)) := by decide +kernel
theorem kd43_11 : (decode cX6_partByOffers 32 = .ok (.getfield 34, 3)) ∧ (decode cX6_partByOffers 35 = .ok (.arraylength, 1)) ∧ (decode cX6_partByOffers 36 = .ok (.if_icmp .ge 16, 3)) ∧ (decode cX6_partByOffers 39 = .ok (.aload_n 0, 1)) ∧ (decode cX6_partByOffers 40 = .ok (.getfield 34, 3)) ∧ (decode cX6_partByOffers 43 = .ok (.iload_n 1, 1)) ∧ (decode cX6_partByOffers 44 = .ok (.iconst 0, 1)) ∧ (decode cX6_partByOffers 45 = .ok (.bastore, 1)) ∧ (decode cX6_partByOffers 46 = .ok (.iinc 1 1, 3)) ∧ (decode cX6_partByOffers 49 = .ok (.goto (-19), 3)) ∧ (decode cX6_partByOffers 52 = .ok (.iconst 0, 1)) ∧ (decode cX6_partByOffers 53 = .ok (.istore_n 1, 1)) := by decide +kernel
theorem kd43_12 : (decode cX6_partByOffers 54 = .ok (.iload_n 1, 1)) ∧ (decode cX6_partByOffers 55 = .ok (.aload_n 0, 1)) ∧ (decode cX6_partByOffers 56 = .ok (.getfield 9, 3)) ∧ (decode cX6_partByOffers 59 = .ok (.aload_n 0, 1)) ∧ (decode cX6_partByOffers 60 = .ok (.getfield 9, 3)) ∧ (decode cX6_partByOffers 63 = .ok (.imul, 1)) ∧ (decode cX6_partByOffers 64 = .ok (.aload_n 0, 1)) ∧ (decode cX6_partByOffers 65 = .ok (.getfield 9, 3)) ∧ (decode cX6_partByOffers 68 = .ok (.iadd, 1)) ∧ (decode cX6_partByOffers 69 = .ok (.if_icmp .gt 43, 3)) ∧ (decode cX6_partByOffers 72 = .ok (.aload_n 0, 1)) ∧ (decode cX6_partByOffers 73 = .ok (.invokevirtual 54, 3)) := by decide +kernel
theorem kd43_13 : (decode cX6_partByOffers 76 = .ok (.istore_n 2, 1)) ∧ (decode cX6_partByOffers 77 = .ok (.iload_n 2, 1)) ∧ (decode cX6_partByOffers 78 = .ok (.iconst (-1), 1)) ∧ (decode cX6_partByOffers 79 = .ok (.if_icmp .ne 7, 3)) ∧ (decode cX6_partByOffers 82 = .ok (.iconst (-1), 1)) ∧ (decode cX6_partByOffers 83 = .ok (.goto 8, 3)) ∧ (decode cX6_partByOffers 86 = .ok (.aload_n 0, 1)) ∧ (decode cX6_partByOffers 87 = .ok (.iload_n 2, 1)) ∧ (decode cX6_partByOffers 88 = .ok (.invokevirtual 58, 3)) ∧ (decode cX6_partByOffers 91 = .ok (.istore_n 3, 1)) ∧ (decode cX6_partByOffers 92 = .ok (.iload_n 3, 1)) ∧ (decode cX6_partByOffers 93 = .ok (.iconst (-1), 1)) := by decide +kernel
theorem kd43_14 : (decode cX6_partByOffers 94 = .ok (.if_icmp .ne 6, 3)) ∧ (decode cX6_partByOffers 97 = .ok (.goto 15, 3)) ∧ (decode cX6_partByOffers 100 = .ok (.aload_n 0, 1)) ∧ (decode cX6_partByOffers 101 = .ok (.iload_n 2, 1)) ∧ (decode cX6_partByOffers 102 = .ok (.iload_n 3, 1)) ∧ (decode cX6_partByOffers 103 = .ok (.invokevirtual 62, 3)) ∧ (decode cX6_partByOffers 106 = .ok (.iinc 1 1, 3)) ∧ (decode cX6_partByOffers 109 = .ok (.goto (-55), 3)) ∧ (decode cX6_partByOffers 112 = .ok (.aload_n 0, 1)) ∧ (decode cX6_partByOffers 113 = .ok (.invokevirtual 66, 3)) ∧ (decode cX6_partByOffers 116 = .ok (.ireturn, 1)) := by decide +kernel
theorem fl_X11_80_12 : xF RX11 80 12 11 (.object "PaperBoys$Parting") false := ⟨by decide, RX11, TX11, 18, tyX11, "PaperBoys", rfl, inlX11, tyX11_ok, nmX11, by decide, rfl, rfl, m_3_4, Or.inl rfl⟩
theorem lk_X11_318 : xLV RX11 318 yX6_learn cX6_learn 6 none 2 := ⟨m_49_0, m_49_1, m_49_2, m_3_2, m_49_3, by decide +kernel⟩
theorem lk_X11_321 : xLV RX11 321 yX6_partByOffers cX6_partByOffers 4 (some .int) 0 := ⟨m_49_5, m_49_6, m_49_7, m_3_2, m_49_8, by decide +kernel⟩
theorem lk_X11_324 : xLS RX11 324 yX11_isSum cX11_isSum 1 (some .boolean) 1 := ⟨m_50_5, m_50_6, m_1_2, m_50_7, by decide +kernel⟩
theorem lk_X11_327 : xLV RX11 327 yX6_partBest cX6_partBest 2 (some .int) 1 := ⟨m_50_8, m_50_9, m_50_10, m_3_2, m_50_11, by decide +kernel⟩
theorem lk_X11_336 : xLV RX11 336 yX6_hasPeace cX6_hasPeace 4 (some .boolean) 1 := ⟨m_53_6, m_53_7, m_53_8, m_3_2, m_53_9, by decide +kernel⟩
theorem lk_X6_54 : xLV RX6 54 yX6_boyWithout cX6_boyWithout 2 (some .int) 0 := ⟨m_49_9, m_49_10, m_49_11, m_3_2, m_49_12, by decide +kernel⟩
theorem lk_X6_58 : xLV RX6 58 yX6_dearestOf cX6_dearestOf 5 (some .int) 1 := ⟨m_49_13, m_49_14, m_49_15, m_3_2, m_49_16, by decide +kernel⟩
theorem lk_X6_62 : xLV RX6 62 yX6_ask cX6_ask 4 none 2 := ⟨m_49_17, m_49_18, m_49_19, m_3_2, m_49_20, by decide +kernel⟩
theorem lk_X6_66 : xLV RX6 66 yX6_gained cX6_gained 3 (some .int) 0 := ⟨m_50_1, m_50_2, m_50_3, m_3_2, m_50_4, by decide +kernel⟩
def xct (p : Int → Bool) : Nat → Nat
  | 0 => 0
  | m + 1 => xct p m + (if p m then 1 else 0)
theorem xct_le (p : Int → Bool) (m : Nat) : xct p m ≤ m := by
  induction m with
  | zero => exact Nat.le_refl _
  | succ m ih => unfold xct; split <;> omega
theorem xct_eq {p q : Int → Bool} {m : Nat} (h : ∀ k : Nat, k < m → p k = q k) : xct p m = xct q m := by
  induction m with
  | zero => rfl
  | succ m ih =>
    have := ih (fun k hk => h k (by omega))
    unfold xct
    rw [this, h m (by omega)]
theorem xct_up {p q : Int → Bool} {m j : Nat} (hj : j < m) (h0 : p j = false) (h1 : q j = true) (h : ∀ k : Nat, k < m → k ≠ j → q k = p k) : xct q m = xct p m + 1 := by
  induction m with
  | zero => omega
  | succ m ih =>
    unfold xct
    by_cases e : j = m
    · subst e
      rw [h0, h1, xct_eq (p := q) (q := p) (fun k hk => h k (by omega) (by omega))]
      simp
    · rw [ih (by omega) (fun k hk hn => h k (by omega) hn), h m (by omega) (fun q => e q.symm)]
      omega
def xsm (f : Nat → Nat) : Nat → Nat
  | 0 => 0
  | m + 1 => xsm f m + f m
theorem xsm_le {f : Nat → Nat} {B : Nat} (h : ∀ k, f k ≤ B) (m : Nat) : xsm f m ≤ m * B := by
  induction m with
  | zero => simp [xsm]
  | succ m ih => unfold xsm; have := h m; rw [Nat.succ_mul]; omega
theorem xsm_eq {f f' : Nat → Nat} {m : Nat} (h : ∀ k, k < m → f' k = f k) : xsm f' m = xsm f m := by
  induction m with
  | zero => rfl
  | succ m ih => unfold xsm; rw [ih (fun k hk => h k (by omega)), h m (by omega)]
theorem xsm_up {f f' : Nat → Nat} {m j : Nat} (hj : j < m) (h1 : f' j = f j + 1) (h : ∀ k, k < m → k ≠ j → f' k = f k) : xsm f' m = xsm f m + 1 := by
  induction m with
  | zero => omega
  | succ m ih =>
    unfold xsm
    by_cases e : j = m
    · subst e
      rw [h1, xsm_eq (fun k hk => h k (by omega) (by omega))]
      omega
    · rw [ih (by omega) (fun k hk hn => h k (by omega) hn), h m (by omega) (fun q => e q.symm)]
      omega
def xPh (n : Int) (bo sa : Int → Int) : Int := ((xct (fun k => decide (bo k ≠ -1)) n.toNat + xsm (fun x => xct (fun c => decide (sa (8 * (x : Int) + c) ≠ 0)) n.toNat) n.toNat : Nat) : Int)
theorem xPh_le {n : Int} (bo sa : Int → Int) (hn : 0 ≤ n) : 0 ≤ xPh n bo sa ∧ xPh n bo sa ≤ n * n + n := by
  unfold xPh
  have h1 := xct_le (fun k => decide (bo k ≠ -1)) n.toNat
  have h2 := xsm_le (f := fun x => xct (fun c => decide (sa (8 * (x : Int) + c) ≠ 0)) n.toNat) (B := n.toNat) (fun k => xct_le _ _) n.toNat
  have h3 : ((n.toNat * n.toNat : Nat) : Int) = n * n := by
    rw [Int.natCast_mul, Int.toNat_of_nonneg hn]
  omega
def xOf (n : Int) (co bo sa : Int → Int) : Prop :=
  (∀ k, 0 ≤ k → k < n → co k = -1 ∨ (0 ≤ co k ∧ co k < n ∧ bo (co k) = k)) ∧
  (∀ k, 0 ≤ k → k < n → bo k = -1 ∨ (0 ≤ bo k ∧ bo k < n ∧ co (bo k) = k)) ∧
  (∀ x k, 0 ≤ x → x < n → 0 ≤ k → k < n → sa (8 * x + k) ≠ 0 → bo k ≠ -1 ∧ bo k ≠ x)
def xCo (n : Int) (co : Int → Int) : Prop := ∀ k, 0 ≤ k → k < n → 0 ≤ co k
theorem xOf.co {n : Int} {co bo sa : Int → Int} (h : xOf n co bo sa) (hn : ∀ k, 0 ≤ k → k < n → co k ≠ -1) : xCo n co := fun k h1 h2 => by
  have := h.1 k h1 h2
  have := hn k h1 h2
  omega
theorem xOf.ini {n : Int} {co bo sa : Int → Int} (h1 : ∀ k, 0 ≤ k → k < n → co k = -1) (h2 : ∀ k, 0 ≤ k → k < n → bo k = -1) (h3 : ∀ k, 0 ≤ k → k < 64 → sa k = 0) (hn : n ≤ 8) : xOf n co bo sa :=
  ⟨fun k q1 q2 => Or.inl (h1 k q1 q2), fun k q1 q2 => Or.inl (h2 k q1 q2), fun x k q1 q2 q3 q4 q5 => absurd (h3 _ (by omega) (by omega)) q5⟩
theorem xPh_1 {n : Int} {bo bo' sa sa' : Int → Int} {c : Int} (hc : 0 ≤ c ∧ c < n) (h0 : bo c = -1) (h1 : bo' c ≠ -1) (hb : ∀ i, 0 ≤ i → i ≠ c → bo' i = bo i) (hs : ∀ i, 0 ≤ i → sa' i = sa i) : xPh n bo' sa' = xPh n bo sa + 1 := by
  unfold xPh
  have e1 := xct_up (p := fun k => decide (bo k ≠ -1)) (q := fun k => decide (bo' k ≠ -1)) (m := n.toNat) (j := c.toNat) (by omega) (by simp [Int.toNat_of_nonneg hc.1, h0]) (by simp [Int.toNat_of_nonneg hc.1, h1]) (fun k hk hn => by simp only [hb k (by omega) (by omega)])
  have e2 : xsm (fun x => xct (fun c => decide (sa' (8 * (x : Int) + c) ≠ 0)) n.toNat) n.toNat = xsm (fun x => xct (fun c => decide (sa (8 * (x : Int) + c) ≠ 0)) n.toNat) n.toNat :=
    xsm_eq (fun x hx => xct_eq (fun k hk => by simp only [hs (8 * (x : Int) + k) (by omega)]))
  omega
theorem xPh_2 {n : Int} {bo bo' sa sa' : Int → Int} {x c j : Int} (hn : n ≤ 8) (hx : 0 ≤ x ∧ x < n) (hc : 0 ≤ c ∧ c < n) (hj : j = 8 * x + c) (h0 : sa j = 0) (h1 : sa' j ≠ 0) (hs : ∀ i, 0 ≤ i → i ≠ j → sa' i = sa i) (hb : ∀ k, 0 ≤ k → k < n → (bo' k = -1 ↔ bo k = -1)) : xPh n bo' sa' = xPh n bo sa + 1 := by
  subst hj
  unfold xPh
  have e1 : xct (fun k => decide (bo' k ≠ -1)) n.toNat = xct (fun k => decide (bo k ≠ -1)) n.toNat := xct_eq (fun k hk => by
    have := hb k (by omega) (by omega)
    simp only [ne_eq, this])
  have e2 := xsm_up (f := fun x => xct (fun c => decide (sa (8 * (x : Int) + c) ≠ 0)) n.toNat) (f' := fun x => xct (fun c => decide (sa' (8 * (x : Int) + c) ≠ 0)) n.toNat) (m := n.toNat) (j := x.toNat) (by omega)
    (xct_up (j := c.toNat) (by omega) (by simp [Int.toNat_of_nonneg hc.1, Int.toNat_of_nonneg hx.1, h0]) (by simp [Int.toNat_of_nonneg hc.1, Int.toNat_of_nonneg hx.1, h1]) (fun k hk hn => by simp only [Int.toNat_of_nonneg hx.1]; rw [hs (8 * x + k) (by omega) (by omega)]))
    (fun k hk hn => xct_eq (fun i hi => by simp only [hs (8 * (k : Int) + i) (by omega) (by omega)]))
  omega
theorem xOf_1 {n : Int} {co bo sa co' bo' sa' : Int → Int} {b c : Int} (h : xOf n co bo sa) (hb : 0 ≤ b ∧ b < n) (hc : 0 ≤ c ∧ c < n) (e1 : co b = -1) (e2 : bo c = -1) (c1 : co' b = c) (c2 : ∀ i, 0 ≤ i → i ≠ b → co' i = co i) (b1 : bo' c = b) (b2 : ∀ i, 0 ≤ i → i ≠ c → bo' i = bo i) (s1 : ∀ i, 0 ≤ i → sa' i = sa i) : xOf n co' bo' sa' ∧ xPh n bo' sa' = xPh n bo sa + 1 := by
  refine ⟨⟨fun k h1 h2 => ?_, fun k h1 h2 => ?_, fun x k h1 h2 h3 h4 h5 => ?_⟩, xPh_1 hc e2 (by omega) b2 s1⟩
  · by_cases e : k = b
    · subst e; rw [c1]; exact Or.inr ⟨hc.1, hc.2, b1⟩
    · rw [c2 k h1 e]
      rcases h.1 k h1 h2 with q | ⟨q1, q2, q3⟩
      · exact Or.inl q
      · have : co k ≠ c := fun w => by rw [w, e2] at q3; omega
        exact Or.inr ⟨q1, q2, (b2 _ q1 this).trans q3⟩
  · by_cases e : k = c
    · subst e; rw [b1]; exact Or.inr ⟨hb.1, hb.2, c1⟩
    · rw [b2 k h1 e]
      rcases h.2.1 k h1 h2 with q | ⟨q1, q2, q3⟩
      · exact Or.inl q
      · have : bo k ≠ b := fun w => by rw [w, e1] at q3; omega
        exact Or.inr ⟨q1, q2, (c2 _ q1 this).trans q3⟩
  · rw [s1 _ (by omega)] at h5
    have q := h.2.2 x k h1 h2 h3 h4 h5
    have : k ≠ c := fun w => by rw [w, e2] at q; omega
    rw [b2 k h3 this]
    exact q
theorem xOf_2 {n : Int} {co bo sa co' bo' sa' : Int → Int} {b c j : Int} (h : xOf n co bo sa) (hn : n ≤ 8) (hb : 0 ≤ b ∧ b < n) (hc : 0 ≤ c ∧ c < n) (hj : j = 8 * b + c) (e1 : co b = -1) (e2 : bo c ≠ -1) (e3 : sa j = 0) (s1 : sa' j = 1) (s2 : ∀ i, 0 ≤ i → i ≠ j → sa' i = sa i) (hc' : ∀ i, 0 ≤ i → co' i = co i) (hb' : ∀ i, 0 ≤ i → bo' i = bo i) : xOf n co' bo' sa' ∧ xPh n bo' sa' = xPh n bo sa + 1 := by
  refine ⟨⟨fun k h1 h2 => ?_, fun k h1 h2 => ?_, fun x k h1 h2 h3 h4 h5 => ?_⟩, xPh_2 hn hb hc hj e3 (by omega) s2 (fun k h1 h2 => by rw [hb' k h1])⟩
  · rw [hc' k h1]
    rcases h.1 k h1 h2 with q | ⟨q1, q2, q3⟩
    · exact Or.inl q
    · exact Or.inr ⟨q1, q2, (hb' _ q1).trans q3⟩
  · rw [hb' k h1]
    rcases h.2.1 k h1 h2 with q | ⟨q1, q2, q3⟩
    · exact Or.inl q
    · exact Or.inr ⟨q1, q2, (hc' _ q1).trans q3⟩
  · rw [hb' k h3]
    by_cases e : 8 * x + k = j
    · have ex : x = b := by omega
      have ek : k = c := by omega
      subst ek
      subst ex
      refine ⟨e2, fun w => ?_⟩
      rcases h.2.1 k h3 h4 with q | ⟨q1, q2, q3⟩
      · exact e2 q
      · rw [w, e1] at q3; omega
    · rw [s2 _ (by omega) e] at h5
      exact h.2.2 x k h1 h2 h3 h4 h5
theorem xOf_3 {n : Int} {co bo sa co' bo' sa' : Int → Int} {b c d j : Int} (h : xOf n co bo sa) (hn : n ≤ 8) (hb : 0 ≤ b ∧ b < n) (hc : 0 ≤ c ∧ c < n) (hj : j = 8 * d + c) (e1 : co b = -1) (e2 : bo c = d) (e4 : d ≠ -1) (e3 : sa (8 * b + c) = 0) (c1 : co' b = c) (c3 : co' d = -1) (c2 : ∀ i, 0 ≤ i → i ≠ b → i ≠ d → co' i = co i) (b1 : bo' c = b) (b2 : ∀ i, 0 ≤ i → i ≠ c → bo' i = bo i) (s1 : sa' j = 1) (s2 : ∀ i, 0 ≤ i → i ≠ j → sa' i = sa i) : xOf n co' bo' sa' ∧ xPh n bo' sa' = xPh n bo sa + 1 := by
  obtain ⟨d1, d2, d3⟩ : 0 ≤ d ∧ d < n ∧ co d = c := by
    rcases h.2.1 c hc.1 hc.2 with q | ⟨q1, q2, q3⟩
    · omega
    · rw [e2] at q1 q2 q3; exact ⟨q1, q2, q3⟩
  have hdb : d ≠ b := fun w => by rw [w, e1] at d3; omega
  have e5 : sa j = 0 := by
    by_cases w : sa j = 0
    · exact w
    · have := h.2.2 d c d1 d2 hc.1 hc.2 (by rw [← hj]; exact w)
      omega
  refine ⟨⟨fun k h1 h2 => ?_, fun k h1 h2 => ?_, fun x k h1 h2 h3 h4 h5 => ?_⟩, xPh_2 hn ⟨d1, d2⟩ hc hj e5 (by omega) s2 (fun k h1 h2 => ?_)⟩
  · by_cases e : k = b
    · subst e; rw [c1]; exact Or.inr ⟨hc.1, hc.2, b1⟩
    · by_cases e' : k = d
      · subst e'; exact Or.inl c3
      · rw [c2 k h1 e e']
        rcases h.1 k h1 h2 with q | ⟨q1, q2, q3⟩
        · exact Or.inl q
        · have : co k ≠ c := fun w => by rw [w, e2] at q3; omega
          exact Or.inr ⟨q1, q2, (b2 _ q1 this).trans q3⟩
  · by_cases e : k = c
    · subst e; rw [b1]; exact Or.inr ⟨hb.1, hb.2, c1⟩
    · rw [b2 k h1 e]
      rcases h.2.1 k h1 h2 with q | ⟨q1, q2, q3⟩
      · exact Or.inl q
      · have w1 : bo k ≠ b := fun w => by rw [w, e1] at q3; omega
        have w2 : bo k ≠ d := fun w => by rw [w, d3] at q3; omega
        exact Or.inr ⟨q1, q2, (c2 _ q1 w1 w2).trans q3⟩
  · by_cases e : 8 * x + k = j
    · have ex : x = d := by omega
      have ek : k = c := by omega
      rw [ek, b1]
      omega
    · rw [s2 _ (by omega) e] at h5
      have q := h.2.2 x k h1 h2 h3 h4 h5
      by_cases ek : k = c
      · rw [ek, b1]
        refine ⟨by omega, fun w => h5 ?_⟩
        rw [ek, ← w]; exact e3
      · rw [b2 k h3 ek]; exact q
  · by_cases ek : k = c
    · rw [ek, b1, e2]; omega
    · rw [b2 k h1 ek]
theorem xpig : ∀ (n : Nat) (f : Nat → Nat), (∀ k, k < n + 1 → f k < n) → ∃ i j, i < j ∧ j < n + 1 ∧ f i = f j := by
  intro n
  induction n with
  | zero => intro f h; exact absurd (h 0 (by omega)) (by omega)
  | succ n ih =>
    intro f h
    by_cases hv : ∃ i, i < n + 1 ∧ f i = f (n + 1)
    · obtain ⟨i, h1, h2⟩ := hv
      exact ⟨i, n + 1, h1, by omega, h2⟩
    · have hv' : ∀ i, i < n + 1 → f i ≠ f (n + 1) := fun i hi e => hv ⟨i, hi, e⟩
      obtain ⟨i, j, h1, h2, h3⟩ := ih (fun k => if f k = n then f (n + 1) else f k) (fun k hk => by
        have a1 := h k (by omega)
        have a2 := h (n + 1) (by omega)
        have a3 := hv' k hk
        show (if f k = n then f (n + 1) else f k) < n
        split <;> omega)
      refine ⟨i, j, h1, by omega, ?_⟩
      have a1 := hv' i (by omega)
      have a2 := hv' j h2
      try dsimp only at h3
      split at h3 <;> split at h3 <;> omega
theorem xOf_free {n : Int} {co bo sa : Int → Int} {b : Int} (h : xOf n co bo sa) (hb : 0 ≤ b ∧ b < n) (e1 : co b = -1) (hs : ∀ c, 0 ≤ c → c < n → sa (8 * b + c) ≠ 0) : False := by
  have key : ∀ k : Nat, (k : Int) < n → 0 ≤ bo k ∧ bo k < n ∧ bo k ≠ b ∧ co (bo k) = k := fun k hk => by
    have q := h.2.2 b k hb.1 hb.2 (by omega) hk (hs k (by omega) hk)
    rcases h.2.1 k (by omega) hk with w | ⟨w1, w2, w3⟩
    · exact absurd w q.1
    · exact ⟨w1, w2, q.2, w3⟩
  obtain ⟨i, j, h1, h2, h3⟩ := xpig (n.toNat - 1) (fun k => if (bo k) > b then (bo k).toNat - 1 else (bo k).toNat) (fun k hk => by
    have := key k (by omega)
    show (if (bo k) > b then (bo k).toNat - 1 else (bo k).toNat) < n.toNat - 1
    split <;> omega)
  have k1 := key i (by omega)
  have k2 := key j (by omega)
  have : bo i = bo j := by
    try dsimp only at h3
    split at h3 <;> split at h3 <;> omega
  have e := k1.2.2.2
  rw [this, k2.2.2.2] at e
  omega
theorem xpre {P : Int → Prop} {f f' : Int → Int} {m : Int} (h : ∀ k, 0 ≤ k → k < m → P (f k)) (ho : ∀ i, 0 ≤ i → i ≠ m → f' i = f i) (ha : P (f' m)) : ∀ k, 0 ≤ k → k < m + 1 → P (f' k) := fun k q1 q2 => by
  by_cases e : k = m
  · subst e; exact ha
  · rw [ho k q1 e]; exact h k q1 (by omega)
def xPi (S : xT) (g : xG) (a : Nat) : Prop := ∃ (p q c d : Nat) (n : Int), S a = some (12, 0) ∧ g a 10 = .ref p ∧ g a 11 = .ref q ∧ p ≠ q ∧ S p = some (7, 0) ∧ S q = some (7, 0) ∧ g p 3 = .ref c ∧ g q 3 = .ref d ∧ c ≠ d ∧ S c = some (12300, 8) ∧ S d = some (12300, 8) ∧ g p 0 = .int (iI n) ∧ 0 ≤ n ∧ n ≤ 8 ∧ xCo n (xv g c)
def xpq : List (Nat × Nat) := [(12, 10), (12, 11), (7, 3), (7, 0), (12300, 0)]
theorem xPi_m {S S1 : xT} {g g1 : xG} {a : Nat} {L : List (Nat × Nat)} (h : xPi S g a) (hm : xM L S g g1) (hle : xLe S S1) (hd : ∀ x ∈ xpq, x ∉ L) : xPi S1 g1 a := by
  obtain ⟨p, q, c, d, n, h1, h2, h3, h4, h5, h6, h7, h8, h9, h10, h11, h12, h13, h14, h15⟩ := h
  refine ⟨p, q, c, d, n, hle _ _ h1, ?_, ?_, h4, hle _ _ h5, hle _ _ h6, ?_, ?_, h9, hle _ _ h10, hle _ _ h11, ?_, h13, h14, ?_⟩
  · rw [hm _ _ _ _ h1 (hd _ (by decide))]; exact h2
  · rw [hm _ _ _ _ h1 (hd _ (by decide))]; exact h3
  · rw [hm _ _ _ _ h5 (hd _ (by decide))]; exact h7
  · rw [hm _ _ _ _ h6 (hd _ (by decide))]; exact h8
  · rw [hm _ _ _ _ h5 (hd _ (by decide))]; exact h12
  · rw [xv_m hm h10 (by decide) (hd _ (by decide))]; exact h15
set_option maxHeartbeats 4000000 in
set_option maxRecDepth 100000 in
theorem c2_boyWithout (l : Launch) (D : va_G) (kA : Nat → ClassId) (b0 : Nat) (t0 : Nat → Nat) (S : xT) (g : xG) (a0 : Nat) (n0 : Int) (w3 : Nat) (hs_a0 : S a0 = some (7, 0)) (hn0 : 1 ≤ n0 ∧ n0 ≤ 8) (en0 : g a0 0 = .int (iI n0)) (ew3 : g a0 3 = .ref w3) (hs_w3 : S w3 = some (12300, 8)) : xMt l yX6_boyWithout cX6_boyWithout 2 (some .int) 0 0 0 0 D kA b0 t0 [] [.ref a0] S g (fun (r : Option Value) (S1 : xT) (g1 : xG) => S = S1 ∧ g = g1 ∧ ∃ z : Int, r = some (.int (iI z)) ∧ (-1) ≤ z ∧ z ≤ 7 ∧ (z = -1 → ∀ k, 0 ≤ k → k < n0 → xv g w3 k ≠ -1) ∧ (z ≠ -1 → z < n0 ∧ xv g w3 z = -1)) := by
  refine xEnterI (by decide) (by simp [lg_sl, Value.category]) [(0, .ref a0)] rfl ?_
  intro K E hK hret _ _ _
  refine X_iconst hK kd26_4.2.2.2.2.1 ?_
  refine X_istoren hK (i := 1) [(1, .int (iI 0)), (0, .ref a0)] kd26_4.2.2.2.2.2.1 rfl (by decide) rfl ?_
  have P25 : ∀ (nP25 : Nat) (z21 : Int) (_ : 0 ≤ z21) (_ : z21 ≤ 8) (_ : ∀ k, 0 ≤ k → k < z21 → xv g w3 k ≠ -1) (_ : 24 - z21 < (nP25 : Int)), X K E 2 [(1, .int (iI z21)), (0, .ref a0)] [] S g 0 0 := by
    intro nP25
    induction nP25 with
    | zero => intro z21 lz21 uz21 v26 mP25; exact False.elim (by omega)
    | succ nP25 ihP25 =>
      intro z21 lz21 uz21 v26 mP25
      refine X_iloadn hK (i := 1) 0 kd26_4.2.2.2.2.2.2.1 rfl rfl ?_
      refine X_aloadn hK (i := 0) 1 kd26_4.2.2.2.2.2.2.2.1 rfl rfl ?_
      refine X_getK hK fl_X6_9_7 hs_a0 en0 kd26_4.2.2.2.2.2.2.2.2.1 ?_
      refine X_icmp_ge hK 28 (by omega) (by omega) kd26_4.2.2.2.2.2.2.2.2.2.1 (by decide) (fun c27 => ?_) (fun c27 => ?_)
      · refine X_iconst hK kd26_5.2.2.2.2.2.2.2.2.1 ?_
        exact hret _ _ _ _ _ _ _ kd26_5.2.2.2.2.2.2.2.2.2.1 ⟨rfl, rfl, (-1), rfl, (by omega), (by omega), (fun _ => fun k q1 q2 => v26 k q1 (by omega)), (fun h => absurd rfl h)⟩ (Nat.le_refl _) (Nat.le_refl _)
      · refine X_aloadn hK (i := 0) 1 kd26_4.2.2.2.2.2.2.2.2.2.2.1 rfl rfl ?_
        refine X_getK hK fl_X6_22_7 hs_a0 ew3 kd26_4.2.2.2.2.2.2.2.2.2.2.2 ?_
        refine X_iloadn hK (i := 1) 0 kd26_5.1 rfl rfl ?_
        refine X_iald hK hs_w3 (by decide) sl_12300 (by omega) (by omega) kd26_5.2.1 (fun z28 ez28 lz28 uz28 => ?_)
        have hvz28 := xv_e (j := z21) ez28 (by omega)
        refine X_iconst hK kd26_5.2.2.1 ?_
        refine X_icmp_ne hK 22 (by omega) (by omega) kd26_5.2.2.2.1 (by decide) (fun c29 => ?_) (fun c29 => ?_)
        · refine X_iinc hK (i := 1) (z := z21) (n := 1) 0 [(1, .int (iI (z21 + 1))), (0, .ref a0)] kd26_5.2.2.2.2.2.2.1 rfl (by decide) rfl ?_
          refine X_goto hK 2 kd26_5.2.2.2.2.2.2.2.1 (by decide) ?_
          exact ihP25  (z21 + 1) (by omega) (by omega) (xpre (P := fun x => x ≠ -1) v26 (fun _ _ _ => rfl) (by omega)) (by omega)
        · refine X_iloadn hK (i := 1) 0 kd26_5.2.2.2.2.1 rfl rfl ?_
          exact hret _ _ _ _ _ _ _ kd26_5.2.2.2.2.2.1 ⟨rfl, rfl, z21, rfl, (by omega), (by omega), (fun h => by omega), (fun _ => ⟨by omega, by omega⟩)⟩ (Nat.le_refl _) (Nat.le_refl _)
  exact P25 ((24 - 0 : Int).toNat + 1) 0 (by omega) (by omega) (fun k q1 q2 => by omega) (by omega)

set_option maxHeartbeats 4000000 in
set_option maxRecDepth 100000 in
theorem c2_dearestOf (l : Launch) (D : va_G) (kA : Nat → ClassId) (b0 : Nat) (t0 : Nat → Nat) (S : xT) (g : xG) (a0 : Nat) (x1 : Int) (n0 : Int) (w3 : Nat) (w4 : Nat) (w7 : Nat) (hs_a0 : S a0 = some (7, 0)) (hx1 : 0 ≤ x1 ∧ x1 ≤ 7) (hn0 : 1 ≤ n0 ∧ n0 ≤ 8) (en0 : g a0 0 = .int (iI n0)) (ew3 : g a0 3 = .ref w3) (hs_w3 : S w3 = some (12300, 8)) (ew4 : g a0 4 = .ref w4) (hs_w4 : S w4 = some (12400, 8)) (ew7 : g a0 7 = .ref w7) (hs_w7 : S w7 = some (12701, 64)) (hp0 : xOf n0 (xv g w3) (xv g w4) (xv g w7)) (hp1 : x1 < n0) (hp2 : xv g w3 x1 = -1) : xMt l yX6_dearestOf cX6_dearestOf 5 (some .int) 0 0 0 0 D kA b0 t0 [] [.ref a0, .int (iI x1)] S g (fun (r : Option Value) (S1 : xT) (g1 : xG) => S = S1 ∧ g = g1 ∧ ∃ z : Int, r = some (.int (iI z)) ∧ 0 ≤ z ∧ z ≤ 7 ∧ (z < n0 ∧ xv g w7 (8 * x1 + z) = 0)) := by
  refine xEnterI (by decide) (by simp [lg_sl, Value.category]) [(0, .ref a0), (1, .int (iI x1))] rfl ?_
  intro K E hK hret _ _ _
  refine X_iconst hK kd26_9.2.2.2.2.2.2.1 ?_
  refine X_istoren hK (i := 2) [(2, .int (iI (-1))), (0, .ref a0), (1, .int (iI x1))] kd26_9.2.2.2.2.2.2.2.1 rfl (by decide) rfl ?_
  refine X_iconst hK kd26_9.2.2.2.2.2.2.2.2.1 ?_
  refine X_istoren hK (i := 3) [(3, .int (iI 0)), (2, .int (iI (-1))), (0, .ref a0), (1, .int (iI x1))] kd26_9.2.2.2.2.2.2.2.2.2.1 rfl (by decide) rfl ?_
  have P63 : ∀ (nP63 : Nat) (z53 : Int) (_ : 0 ≤ z53) (_ : z53 ≤ 8) (z54 : Int) (_ : (-1) ≤ z54) (_ : z54 ≤ 7) (_ : z54 = -1 → ∀ c, 0 ≤ c → c < z53 → xv g w7 (8 * x1 + c) ≠ 0) (_ : z54 ≠ -1 → z54 < z53 ∧ xv g w7 (8 * x1 + z54) = 0) (_ : z53 ≤ n0) (_ : 24 - z53 < (nP63 : Int)), X K E 4 [(3, .int (iI z53)), (2, .int (iI z54)), (0, .ref a0), (1, .int (iI x1))] [] S g 0 0 := by
    intro nP63
    induction nP63 with
    | zero => intro z53 lz53 uz53 z54 lz54 uz54 v64 v65 v66 mP63; exact False.elim (by omega)
    | succ nP63 ihP63 =>
      intro z53 lz53 uz53 z54 lz54 uz54 v64 v65 v66 mP63
      refine X_iloadn hK (i := 3) 0 kd26_9.2.2.2.2.2.2.2.2.2.2.1 rfl rfl ?_
      refine X_aloadn hK (i := 0) 2 kd26_9.2.2.2.2.2.2.2.2.2.2.2 rfl rfl ?_
      refine X_getK hK fl_X6_9_7 hs_a0 en0 kd26_10.1 ?_
      refine X_icmp_ge hK 64 (by omega) (by omega) kd26_10.2.1 (by decide) (fun c67 => ?_) (fun c67 => ?_)
      · refine X_iloadn hK (i := 2) 1 kd26_12.2.2.2.2.2.2.2.2.2.1 rfl rfl ?_
        have hfz54 : z54 ≠ -1 := fun e9 => xOf_free hp0 (by omega) (by omega) (fun c q1 q2 => v64 e9 c q1 (by omega))
        exact hret _ _ _ _ _ _ _ kd26_12.2.2.2.2.2.2.2.2.2.2.1 ⟨rfl, rfl, z54, rfl, (by omega), (by omega), (v65 (by omega) |>.imp (fun h => by omega) id)⟩ (Nat.le_refl _) (Nat.le_refl _)
      · refine X_iloadn hK (i := 1) 3 kd26_10.2.2.1 rfl rfl ?_
        refine X_bipush hK kd26_10.2.2.2.1 (by decide) ?_
        refine X_imul hK kd26_10.2.2.2.2.1 ?_
        refine X_iloadn hK (i := 3) 0 kd26_10.2.2.2.2.2.1 rfl rfl ?_
        refine X_iadd hK kd26_10.2.2.2.2.2.2.1 ?_
        refine X_istore hK (i := 4) [(4, .int (iI ((x1 * 8) + z53))), (3, .int (iI z53)), (2, .int (iI z54)), (0, .ref a0), (1, .int (iI x1))] kd26_10.2.2.2.2.2.2.2.1 (by decide) rfl ?_
        refine X_aloadn hK (i := 0) 3 kd26_10.2.2.2.2.2.2.2.2.1 rfl rfl ?_
        refine X_getK hK fl_X6_34_7 hs_a0 ew7 kd26_10.2.2.2.2.2.2.2.2.2.1 ?_
        refine X_iload hK (i := 4) 0 kd26_10.2.2.2.2.2.2.2.2.2.2.1 rfl ?_
        refine X_zald hK hs_w7 (by decide) sl_12701 (by omega) (by omega) kd26_10.2.2.2.2.2.2.2.2.2.2.2 (fun z68 ez68 lz68 uz68 => ?_)
        have hvz68 := xv_e (j := ((x1 * 8) + z53)) ez68 (by omega)
        have hqz68 : xv g w7 (8 * x1 + z53) = z68 := (by rw [show 8 * x1 + z53 = (x1 * 8) + z53 by omega]; exact hvz68)
        refine X_if_ne hK 58 (by omega) kd26_11.1 (by decide) (fun c69 => ?_) (fun c69 => ?_)
        · refine X_iinc hK (i := 3) (z := z53) (n := 1) 1 [(3, .int (iI (z53 + 1))), (4, .int (iI ((x1 * 8) + z53))), (2, .int (iI z54)), (0, .ref a0), (1, .int (iI x1))] kd26_12.2.2.2.2.2.2.2.1 rfl (by decide) rfl ?_
          refine X_goto hK 4 kd26_12.2.2.2.2.2.2.2.2.1 (by decide) ?_
          refine X_lv [(3, .int (iI (z53 + 1))), (2, .int (iI z54)), (0, .ref a0), (1, .int (iI x1))] [0, 2, 3, 4] rfl ?_
          exact ihP63  (z53 + 1) (by omega) (by omega) z54 (by omega) (by omega) (fun hm c q1 q2 => by rcases (show c < z53 ∨ c = z53 by omega) with e9 | e9 <;> first | omega | exact v64 (by omega) c q1 e9 | (rw [e9]; omega)) (fun hm => by first | omega | exact ⟨by omega, by omega⟩ | (have h9 := v65 (by omega); exact ⟨by omega, h9.2⟩)) (by omega) (by omega)
        · refine X_iloadn hK (i := 2) 2 kd26_11.2.1 rfl rfl ?_
          refine X_iconst hK kd26_11.2.2.1 ?_
          refine X_icmp_eq hK 56 (by omega) (by omega) kd26_11.2.2.2.1 (by decide) (fun c70 => ?_) (fun c70 => ?_)
          · refine X_iloadn hK (i := 3) 1 kd26_12.2.2.2.2.2.1 rfl rfl ?_
            refine X_istoren hK (i := 2) [(2, .int (iI z53)), (4, .int (iI ((x1 * 8) + z53))), (3, .int (iI z53)), (0, .ref a0), (1, .int (iI x1))] kd26_12.2.2.2.2.2.2.1 rfl (by decide) rfl ?_
            refine X_iinc hK (i := 3) (z := z53) (n := 1) 2 [(3, .int (iI (z53 + 1))), (2, .int (iI z53)), (4, .int (iI ((x1 * 8) + z53))), (0, .ref a0), (1, .int (iI x1))] kd26_12.2.2.2.2.2.2.2.1 rfl (by decide) rfl ?_
            refine X_goto hK 4 kd26_12.2.2.2.2.2.2.2.2.1 (by decide) ?_
            refine X_lv [(3, .int (iI (z53 + 1))), (2, .int (iI z53)), (0, .ref a0), (1, .int (iI x1))] [0, 1, 3, 4] rfl ?_
            exact ihP63  (z53 + 1) (by omega) (by omega) z53 (by omega) (by omega) (fun hm c q1 q2 => by rcases (show c < z53 ∨ c = z53 by omega) with e9 | e9 <;> first | omega | exact v64 (by omega) c q1 e9 | (rw [e9]; omega)) (fun hm => by first | omega | exact ⟨by omega, by omega⟩ | (have h9 := v65 (by omega); exact ⟨by omega, h9.2⟩)) (by omega) (by omega)
          · refine X_aloadn hK (i := 0) 3 kd26_11.2.2.2.2.1 rfl rfl ?_
            refine X_getr hK 12100 64 fl_X6_15_7 hs_a0 sl_7_1 kd26_11.2.2.2.2.2.1 (fun b71 eb71 hs_b71 => ?_)
            refine X_iload hK (i := 4) 0 kd26_11.2.2.2.2.2.2.1 rfl ?_
            refine X_iald hK hs_b71 (by decide) sl_12100 (by omega) (by omega) kd26_11.2.2.2.2.2.2.2.1 (fun z72 ez72 lz72 uz72 => ?_)
            refine X_aloadn hK (i := 0) 3 kd26_11.2.2.2.2.2.2.2.2.1 rfl rfl ?_
            refine X_getK hK fl_X6_15_7 hs_a0 eb71 kd26_11.2.2.2.2.2.2.2.2.2.1 ?_
            refine X_iloadn hK (i := 1) 4 kd26_11.2.2.2.2.2.2.2.2.2.2.1 rfl rfl ?_
            refine X_bipush hK kd26_11.2.2.2.2.2.2.2.2.2.2.2 (by decide) ?_
            refine X_imul hK kd26_12.1 ?_
            refine X_iloadn hK (i := 2) 2 kd26_12.2.1 rfl rfl ?_
            refine X_iadd hK kd26_12.2.2.1 ?_
            refine X_iald hK hs_b71 (by decide) sl_12100 (by omega) (by omega) kd26_12.2.2.2.1 (fun z73 ez73 lz73 uz73 => ?_)
            refine X_icmp_le hK 58 (by omega) (by omega) kd26_12.2.2.2.2.1 (by decide) (fun c74 => ?_) (fun c74 => ?_)
            · refine X_iinc hK (i := 3) (z := z53) (n := 1) 1 [(3, .int (iI (z53 + 1))), (4, .int (iI ((x1 * 8) + z53))), (2, .int (iI z54)), (0, .ref a0), (1, .int (iI x1))] kd26_12.2.2.2.2.2.2.2.1 rfl (by decide) rfl ?_
              refine X_goto hK 4 kd26_12.2.2.2.2.2.2.2.2.1 (by decide) ?_
              refine X_lv [(3, .int (iI (z53 + 1))), (2, .int (iI z54)), (0, .ref a0), (1, .int (iI x1))] [0, 2, 3, 4] rfl ?_
              exact ihP63  (z53 + 1) (by omega) (by omega) z54 (by omega) (by omega) (fun hm c q1 q2 => by rcases (show c < z53 ∨ c = z53 by omega) with e9 | e9 <;> first | omega | exact v64 (by omega) c q1 e9 | (rw [e9]; omega)) (fun hm => by first | omega | exact ⟨by omega, by omega⟩ | (have h9 := v65 (by omega); exact ⟨by omega, h9.2⟩)) (by omega) (by omega)
            · refine X_iloadn hK (i := 3) 1 kd26_12.2.2.2.2.2.1 rfl rfl ?_
              refine X_istoren hK (i := 2) [(2, .int (iI z53)), (4, .int (iI ((x1 * 8) + z53))), (3, .int (iI z53)), (0, .ref a0), (1, .int (iI x1))] kd26_12.2.2.2.2.2.2.1 rfl (by decide) rfl ?_
              refine X_iinc hK (i := 3) (z := z53) (n := 1) 2 [(3, .int (iI (z53 + 1))), (2, .int (iI z53)), (4, .int (iI ((x1 * 8) + z53))), (0, .ref a0), (1, .int (iI x1))] kd26_12.2.2.2.2.2.2.2.1 rfl (by decide) rfl ?_
              refine X_goto hK 4 kd26_12.2.2.2.2.2.2.2.2.1 (by decide) ?_
              refine X_lv [(3, .int (iI (z53 + 1))), (2, .int (iI z53)), (0, .ref a0), (1, .int (iI x1))] [0, 1, 3, 4] rfl ?_
              exact ihP63  (z53 + 1) (by omega) (by omega) z53 (by omega) (by omega) (fun hm c q1 q2 => by rcases (show c < z53 ∨ c = z53 by omega) with e9 | e9 <;> first | omega | exact v64 (by omega) c q1 e9 | (rw [e9]; omega)) (fun hm => by first | omega | exact ⟨by omega, by omega⟩ | (have h9 := v65 (by omega); exact ⟨by omega, h9.2⟩)) (by omega) (by omega)
  exact P63 ((24 - 0 : Int).toNat + 1) 0 (by omega) (by omega) (-1) (by omega) (by omega) (fun _ c q1 q2 => by omega) (fun h => by omega) (by omega) (by omega)

set_option maxHeartbeats 4000000 in
set_option maxRecDepth 100000 in
theorem c2_ask (l : Launch) (D : va_G) (kA : Nat → ClassId) (b0 : Nat) (t0 : Nat → Nat) (S : xT) (g : xG) (a0 : Nat) (x1 : Int) (x2 : Int) (n0 : Int) (w3 : Nat) (w4 : Nat) (w7 : Nat) (hs_a0 : S a0 = some (7, 0)) (hx1 : 0 ≤ x1 ∧ x1 ≤ 7) (hx2 : 0 ≤ x2 ∧ x2 ≤ 7) (hn0 : 1 ≤ n0 ∧ n0 ≤ 8) (en0 : g a0 0 = .int (iI n0)) (ew3 : g a0 3 = .ref w3) (hs_w3 : S w3 = some (12300, 8)) (ew4 : g a0 4 = .ref w4) (hs_w4 : S w4 = some (12400, 8)) (ew7 : g a0 7 = .ref w7) (hs_w7 : S w7 = some (12701, 64)) (hp0 : xOf n0 (xv g w3) (xv g w4) (xv g w7)) (hp1 : x1 < n0 ∧ x2 < n0) (hp2 : xv g w3 x1 = -1) (hp3 : xv g w7 (8 * x1 + x2) = 0) : xMt l yX6_ask cX6_ask 4 none 1 0 0 25 D kA b0 t0 [(12400, 0), (12300, 0), (12701, 0)] [.ref a0, .int (iI x1), .int (iI x2)] S g (fun (r : Option Value) (S1 : xT) (g1 : xG) => S = S1 ∧ r = none ∧ (xOf n0 (xv g1 w3) (xv g1 w4) (xv g1 w7) ∧ xPh n0 (xv g1 w4) (xv g1 w7) = xPh n0 (xv g w4) (xv g w7) + 1) ∧ (xFr 12300 S g g1 w3)) := by
  refine xEnterV (by decide) (by simp [lg_sl, Value.category]) [(0, .ref a0), (1, .int (iI x1)), (2, .int (iI x2))] rfl ?_
  intro K E hK hret _ _ _
  refine X_aloadn hK (i := 0) 0 kd26_0.1 rfl rfl ?_
  refine X_getK hK fl_X6_25_7 hs_a0 ew4 kd26_0.2.1 ?_
  refine X_iloadn hK (i := 2) 2 kd26_0.2.2.1 rfl rfl ?_
  refine X_iald hK hs_w4 (by decide) sl_12400 (by omega) (by omega) kd26_0.2.2.2.1 (fun z1 ez1 lz1 uz1 => ?_)
  have hvz1 := xv_e (j := x2) ez1 (by omega)
  have hdz1 : z1 ≠ -1 → z1 ≠ x1 ∧ z1 < n0 := fun e9 => by have h9 := hp0.2.1 x2 (by omega) (by omega); rw [hvz1] at h9; refine ⟨fun e8 => ?_, by omega⟩; rcases h9 with h9 | ⟨_, _, h9⟩ <;> first | omega | (rw [e8] at h9; omega)
  refine X_istoren hK (i := 3) [(3, .int (iI z1)), (0, .ref a0), (1, .int (iI x1)), (2, .int (iI x2))] kd26_0.2.2.2.2.1 rfl (by decide) rfl ?_
  refine X_iloadn hK (i := 3) 0 kd26_0.2.2.2.2.2.1 rfl rfl ?_
  refine X_iconst hK kd26_0.2.2.2.2.2.2.1 ?_
  refine X_icmp_eq hK 22 (by omega) (by omega) kd26_0.2.2.2.2.2.2.2.1 (by decide) (fun c2 => ?_) (fun c2 => ?_)
  · refine X_aloadn hK (i := 0) 1 kd26_1.2.2.1 rfl rfl ?_
    refine X_getK hK fl_X6_25_7 hs_a0 ew4 kd26_1.2.2.2.1 ?_
    refine X_iloadn hK (i := 2) 3 kd26_1.2.2.2.2.1 rfl rfl ?_
    refine X_iloadn hK (i := 1) 2 kd26_1.2.2.2.2.2.1 rfl rfl ?_
    refine X_iast hK hs_w4 (by decide) (by decide) sl_12400 (by omega) (by omega) (by omega) (by omega) kd26_1.2.2.2.2.2.2.1 (fun g3 hg3 => ?_)
    refine X_aloadn hK (i := 0) 1 kd26_1.2.2.2.2.2.2.2.1 rfl rfl ?_
    refine X_getK hK fl_X6_22_7 hs_a0 ((xs_a hg3 (xne hs_a0 hs_w4 (by decide))).trans ew3) kd26_1.2.2.2.2.2.2.2.2.1 ?_
    refine X_iloadn hK (i := 1) 2 kd26_1.2.2.2.2.2.2.2.2.2.1 rfl rfl ?_
    refine X_iloadn hK (i := 2) 3 kd26_1.2.2.2.2.2.2.2.2.2.2.1 rfl rfl ?_
    refine X_iast hK hs_w3 (by decide) (by decide) sl_12300 (by omega) (by omega) (by omega) (by omega) kd26_1.2.2.2.2.2.2.2.2.2.2.2 (fun g4 hg4 => ?_)
    refine X_iloadn hK (i := 3) 0 kd26_2.1 rfl rfl ?_
    refine X_iconst hK kd26_2.2.1 ?_
    refine X_icmp_eq hK 75 (by omega) (by omega) kd26_2.2.2.1 (by decide) (fun c5 => ?_) (fun c5 => False.elim (by omega))
    exact hret _ _ _ _ _ _ kd26_4.2.2.2.1 ⟨rfl, rfl, (xOf_1 (b := x1) (c := x2) hp0 (by omega) (by omega) (by omega) (by omega) (show xv g4 w3 x1 = x2 from by rw [xv_s hg4 (by omega)]) (fun i9 hi9 h09 => (show xv g4 w3 i9 = xv g w3 i9 from by rw [(xv_k (i := i9) hg4 (by omega) (by omega) (by omega)), (xv_a hg3 (xne hs_w3 hs_w4 (by decide)))])) (show xv g4 w4 x2 = x1 from by rw [(xv_a hg4 (xne hs_w4 hs_w3 (by decide))), xv_s hg3 (by omega)]) (fun i9 hi9 h09 => (show xv g4 w4 i9 = xv g w4 i9 from by rw [(xv_a hg4 (xne hs_w4 hs_w3 (by decide))), (xv_k (i := i9) hg3 (by omega) (by omega) (by omega))])) (fun i9 hi9 => (show xv g4 w7 i9 = xv g w7 i9 from by rw [(xv_a hg4 (xne hs_w7 hs_w3 (by decide))), (xv_a hg3 (xne hs_w7 hs_w4 (by decide)))]))), (xFr.w (xFr.t xFr.rf hg3 hs_w4 (by decide)) hg4)⟩ (Nat.le_refl _) (Nat.le_refl _)
  · refine X_aloadn hK (i := 0) 1 kd26_0.2.2.2.2.2.2.2.2.1 rfl rfl ?_
    refine X_iloadn hK (i := 1) 2 kd26_0.2.2.2.2.2.2.2.2.2.1 rfl rfl ?_
    refine X_iloadn hK (i := 3) 0 kd26_0.2.2.2.2.2.2.2.2.2.2.1 rfl rfl ?_
    refine X_iloadn hK (i := 2) 3 kd26_0.2.2.2.2.2.2.2.2.2.2.2 rfl rfl ?_
    refine X_callV hK [.int (iI x1), .int (iI z1), .int (iI x2)] [] lk_X6_69 (c_X6_isMightier _ _ _ _ _ S g a0 x1 z1 x2 hs_a0 (by omega) (by omega) (by omega)) hs_a0 ⟨by decide, rfl⟩ kd26_1.1 rfl rfl (by simp [Value.category]) (by decide) (by decide) (by decide) (by decide) (fun r6 S8 g7 pr6 qr6 hg7 => ?_)
    obtain ⟨rfl, rfl, z9, rfl, lz9, uz9⟩ := pr6
    refine X_st [.int (iI z9)] rfl ?_
    refine X_if_eq hK 63 (by omega) kd26_1.2.1 (by decide) (fun c10 => ?_) (fun c10 => ?_)
    · refine X_aloadn hK (i := 0) 1 kd26_3.2.2.2.2.2.2.1 rfl rfl ?_
      refine X_getK hK fl_X6_34_7 hs_a0 ew7 kd26_3.2.2.2.2.2.2.2.1 ?_
      refine X_iloadn hK (i := 1) 2 kd26_3.2.2.2.2.2.2.2.2.1 rfl rfl ?_
      refine X_bipush hK kd26_3.2.2.2.2.2.2.2.2.2.1 (by decide) ?_
      refine X_imul hK kd26_3.2.2.2.2.2.2.2.2.2.2.1 ?_
      refine X_iloadn hK (i := 2) 3 kd26_3.2.2.2.2.2.2.2.2.2.2.2 rfl rfl ?_
      refine X_iadd hK kd26_4.1 ?_
      refine X_iconst hK kd26_4.2.1 ?_
      refine X_zast hK hs_w7 (by decide) (by decide) sl_12701 (by omega) (by omega) (by omega) (by omega) kd26_4.2.2.1 (fun g11 hg11 => ?_)
      exact hret _ _ _ _ _ _ kd26_4.2.2.2.1 ⟨rfl, rfl, (xOf_2 (b := x1) (c := x2) (j := ((x1 * 8) + x2)) hp0 (by omega) (by omega) (by omega) (by omega) (by omega) (by omega) (by rw [show ((x1 * 8) + x2) = 8 * x1 + x2 by omega]; exact hp3) (show xv g11 w7 ((x1 * 8) + x2) = 1 from by rw [xv_s hg11 (by omega)]) (fun i9 hi9 h09 => (show xv g11 w7 i9 = xv g w7 i9 from by rw [(xv_k (i := i9) hg11 (by omega) (by omega) (by omega))])) (fun i9 hi9 => (show xv g11 w3 i9 = xv g w3 i9 from by rw [(xv_a hg11 (xne hs_w3 hs_w7 (by decide)))])) (fun i9 hi9 => (show xv g11 w4 i9 = xv g w4 i9 from by rw [(xv_a hg11 (xne hs_w4 hs_w7 (by decide)))]))), (xFr.t xFr.rf hg11 hs_w7 (by decide))⟩ (Nat.le_refl _) (Nat.le_refl _)
    · refine X_aloadn hK (i := 0) 1 kd26_1.2.2.1 rfl rfl ?_
      refine X_getK hK fl_X6_25_7 hs_a0 ew4 kd26_1.2.2.2.1 ?_
      refine X_iloadn hK (i := 2) 3 kd26_1.2.2.2.2.1 rfl rfl ?_
      refine X_iloadn hK (i := 1) 2 kd26_1.2.2.2.2.2.1 rfl rfl ?_
      refine X_iast hK hs_w4 (by decide) (by decide) sl_12400 (by omega) (by omega) (by omega) (by omega) kd26_1.2.2.2.2.2.2.1 (fun g12 hg12 => ?_)
      refine X_aloadn hK (i := 0) 1 kd26_1.2.2.2.2.2.2.2.1 rfl rfl ?_
      refine X_getK hK fl_X6_22_7 hs_a0 ((xs_a hg12 (xne hs_a0 hs_w4 (by decide))).trans ew3) kd26_1.2.2.2.2.2.2.2.2.1 ?_
      refine X_iloadn hK (i := 1) 2 kd26_1.2.2.2.2.2.2.2.2.2.1 rfl rfl ?_
      refine X_iloadn hK (i := 2) 3 kd26_1.2.2.2.2.2.2.2.2.2.2.1 rfl rfl ?_
      refine X_iast hK hs_w3 (by decide) (by decide) sl_12300 (by omega) (by omega) (by omega) (by omega) kd26_1.2.2.2.2.2.2.2.2.2.2.2 (fun g13 hg13 => ?_)
      refine X_iloadn hK (i := 3) 0 kd26_2.1 rfl rfl ?_
      refine X_iconst hK kd26_2.2.1 ?_
      refine X_icmp_eq hK 75 (by omega) (by omega) kd26_2.2.2.1 (by decide) (fun c14 => False.elim (by omega)) (fun c14 => ?_)
      refine X_aloadn hK (i := 0) 1 kd26_2.2.2.2.1 rfl rfl ?_
      refine X_getK hK fl_X6_22_7 hs_a0 ((xs_a hg13 (xne hs_a0 hs_w3 (by decide))).trans ((xs_a hg12 (xne hs_a0 hs_w4 (by decide))).trans ew3)) kd26_2.2.2.2.2.1 ?_
      refine X_iloadn hK (i := 3) 0 kd26_2.2.2.2.2.2.1 rfl rfl ?_
      refine X_iconst hK kd26_2.2.2.2.2.2.2.1 ?_
      refine X_iast hK hs_w3 (by decide) (by decide) sl_12300 (by omega) (by omega) (by omega) (by omega) kd26_2.2.2.2.2.2.2.2.1 (fun g15 hg15 => ?_)
      refine X_aloadn hK (i := 0) 1 kd26_2.2.2.2.2.2.2.2.2.1 rfl rfl ?_
      refine X_getK hK fl_X6_34_7 hs_a0 ((xs_a hg15 (xne hs_a0 hs_w3 (by decide))).trans ((xs_a hg13 (xne hs_a0 hs_w3 (by decide))).trans ((xs_a hg12 (xne hs_a0 hs_w4 (by decide))).trans ew7))) kd26_2.2.2.2.2.2.2.2.2.2.1 ?_
      refine X_iloadn hK (i := 3) 0 kd26_2.2.2.2.2.2.2.2.2.2.2.1 rfl rfl ?_
      refine X_bipush hK kd26_2.2.2.2.2.2.2.2.2.2.2.2 (by decide) ?_
      refine X_imul hK kd26_3.1 ?_
      refine X_iloadn hK (i := 2) 3 kd26_3.2.1 rfl rfl ?_
      refine X_iadd hK kd26_3.2.2.1 ?_
      refine X_iconst hK kd26_3.2.2.2.1 ?_
      refine X_zast hK hs_w7 (by decide) (by decide) sl_12701 (by omega) (by omega) (by omega) (by omega) kd26_3.2.2.2.2.1 (fun g16 hg16 => ?_)
      refine X_goto hK 75 kd26_3.2.2.2.2.2.1 (by decide) ?_
      exact hret _ _ _ _ _ _ kd26_4.2.2.2.1 ⟨rfl, rfl, (xOf_3 (b := x1) (c := x2) (d := z1) (j := ((z1 * 8) + x2)) hp0 (by omega) (by omega) (by omega) (by omega) (by omega) (by omega) (by omega) hp3 (show xv g16 w3 x1 = x2 from by rw [(xv_a hg16 (xne hs_w3 hs_w7 (by decide))), (xv_k (i := x1) hg15 (by omega) (by omega) (by omega)), xv_s hg13 (by omega)]) (show xv g16 w3 z1 = (-1) from by rw [(xv_a hg16 (xne hs_w3 hs_w7 (by decide))), xv_s hg15 (by omega)]) (fun i9 hi9 h09 h19 => (show xv g16 w3 i9 = xv g w3 i9 from by rw [(xv_a hg16 (xne hs_w3 hs_w7 (by decide))), (xv_k (i := i9) hg15 (by omega) (by omega) (by omega)), (xv_k (i := i9) hg13 (by omega) (by omega) (by omega)), (xv_a hg12 (xne hs_w3 hs_w4 (by decide)))])) (show xv g16 w4 x2 = x1 from by rw [(xv_a hg16 (xne hs_w4 hs_w7 (by decide))), (xv_a hg15 (xne hs_w4 hs_w3 (by decide))), (xv_a hg13 (xne hs_w4 hs_w3 (by decide))), xv_s hg12 (by omega)]) (fun i9 hi9 h09 => (show xv g16 w4 i9 = xv g w4 i9 from by rw [(xv_a hg16 (xne hs_w4 hs_w7 (by decide))), (xv_a hg15 (xne hs_w4 hs_w3 (by decide))), (xv_a hg13 (xne hs_w4 hs_w3 (by decide))), (xv_k (i := i9) hg12 (by omega) (by omega) (by omega))])) (show xv g16 w7 ((z1 * 8) + x2) = 1 from by rw [xv_s hg16 (by omega)]) (fun i9 hi9 h09 => (show xv g16 w7 i9 = xv g w7 i9 from by rw [(xv_k (i := i9) hg16 (by omega) (by omega) (by omega)), (xv_a hg15 (xne hs_w7 hs_w3 (by decide))), (xv_a hg13 (xne hs_w7 hs_w3 (by decide))), (xv_a hg12 (xne hs_w7 hs_w4 (by decide)))]))), (xFr.t (xFr.w (xFr.w (xFr.t xFr.rf hg12 hs_w4 (by decide)) hg13) hg15) hg16 hs_w7 (by decide))⟩ (Nat.le_refl _) (Nat.le_refl _)

set_option maxHeartbeats 4000000 in
set_option maxRecDepth 100000 in
theorem c_X6_partByOffers (l : Launch) (D : va_G) (kA : Nat → ClassId) (b0 : Nat) (t0 : Nat → Nat) (S : xT) (g : xG) (a0 : Nat) (n0 : Int) (w3 : Nat) (w4 : Nat) (w7 : Nat) (hs_a0 : S a0 = some (7, 0)) (hn0 : 1 ≤ n0 ∧ n0 ≤ 8) (en0 : g a0 0 = .int (iI n0)) (ew3 : g a0 3 = .ref w3) (hs_w3 : S w3 = some (12300, 8)) (ew4 : g a0 4 = .ref w4) (hs_w4 : S w4 = some (12400, 8)) (ew7 : g a0 7 = .ref w7) (hs_w7 : S w7 = some (12701, 64)) : xMt l yX6_partByOffers cX6_partByOffers 4 (some .int) 2 0 0 48 D kA b0 t0 [(12300, 0), (12400, 0), (12701, 0)] [.ref a0] S g (fun (r : Option Value) (S1 : xT) (g1 : xG) => S = S1 ∧ ∃ z : Int, r = some (.int (iI z)) ∧ (-2147483648) ≤ z ∧ z ≤ 2147483647 ∧ (xCo n0 (xv g1 w3)) ∧ (xFr 12300 S g g1 w3)) := by
  refine xEnterI (by decide) (by simp [lg_sl, Value.category]) [(0, .ref a0)] rfl ?_
  intro K E hK hret _ _ _
  refine X_iconst hK kd43_9.2.2.2.1 ?_
  refine X_istoren hK (i := 1) [(1, .int (iI 0)), (0, .ref a0)] kd43_9.2.2.2.2.1 rfl (by decide) rfl ?_
  have P1012 : ∀ (nP1012 : Nat) (g887 : xG) (_ : xM [(12400, 0), (12300, 0)] S g g887) (z886 : Int) (_ : 0 ≤ z886) (_ : z886 ≤ 8) (_ : ∀ k, 0 ≤ k → k < z886 → xv g887 w3 k = -1) (_ : ∀ k, 0 ≤ k → k < z886 → xv g887 w4 k = -1) (_ : xFr 12300 S g g887 w3) (_ : 24 - z886 < (nP1012 : Int)), X K E 2 [(1, .int (iI z886)), (0, .ref a0)] [] S g887 0 0 := by
    intro nP1012
    induction nP1012 with
    | zero => intro g887 hg887 z886 lz886 uz886 v1013 v1014 v1015 mP1012; exact False.elim (by omega)
    | succ nP1012 ihP1012 =>
      intro g887 hg887 z886 lz886 uz886 v1013 v1014 v1015 mP1012
      refine X_iloadn hK (i := 1) 0 kd43_9.2.2.2.2.2.1 rfl rfl ?_
      refine X_bipush hK kd43_9.2.2.2.2.2.2.1 (by decide) ?_
      refine X_icmp_ge hK 28 (by omega) (by omega) kd43_9.2.2.2.2.2.2.2.1 (by decide) (fun c1016 => ?_) (fun c1016 => ?_)
      · refine X_iconst hK kd43_10.2.2.2.2.2.2.2.2.1 ?_
        refine X_istoren hK (i := 1) [(1, .int (iI 0)), (0, .ref a0)] kd43_10.2.2.2.2.2.2.2.2.2.1 rfl (by decide) rfl ?_
        have P1320 : ∀ (nP1320 : Nat) (g1261 : xG) (_ : xM [(12701, 0)] S g887 g1261) (z1260 : Int) (_ : 0 ≤ z1260) (_ : z1260 ≤ 64) (_ : ∀ k, 0 ≤ k → k < z1260 → xv g1261 w7 k = 0) (_ : xFr 12300 S g g1261 w3) (_ : 80 - z1260 < (nP1320 : Int)), X K E 30 [(1, .int (iI z1260)), (0, .ref a0)] [] S g1261 0 0 := by
          intro nP1320
          induction nP1320 with
          | zero => intro g1261 hg1261 z1260 lz1260 uz1260 v1321 v1322 mP1320; exact False.elim (by omega)
          | succ nP1320 ihP1320 =>
            intro g1261 hg1261 z1260 lz1260 uz1260 v1321 v1322 mP1320
            refine X_iloadn hK (i := 1) 0 kd43_10.2.2.2.2.2.2.2.2.2.2.1 rfl rfl ?_
            refine X_aloadn hK (i := 0) 1 kd43_10.2.2.2.2.2.2.2.2.2.2.2 rfl rfl ?_
            refine X_getK hK fl_X6_34_7 hs_a0 ((hg1261 a0 7 0 7 hs_a0 (by decide)).trans ((hg887 a0 7 0 7 hs_a0 (by decide)).trans ew7)) kd43_11.1 ?_
            refine X_alen hK (i := 1) (ty := .boolean) hs_w7 (by decide) (by decide) (fun _ => rfl) kd43_11.2.1 ?_
            refine X_icmp_ge hK 52 (by omega) (by omega) kd43_11.2.2.1 (by decide) (fun c1323 => ?_) (fun c1323 => ?_)
            · refine X_iconst hK kd43_11.2.2.2.2.2.2.2.2.2.2.1 ?_
              refine X_istoren hK (i := 1) [(1, .int (iI 0)), (0, .ref a0)] kd43_11.2.2.2.2.2.2.2.2.2.2.2 rfl (by decide) rfl ?_
              have P1485 : ∀ (nP1485 : Nat) (g1459 : xG) (_ : xM [(12400, 0), (12300, 0), (12701, 0)] S g1261 g1459) (z1458 : Int) (_ : 0 ≤ z1458) (_ : z1458 ≤ 73) (_ : xOf n0 (xv g1459 w3) (xv g1459 w4) (xv g1459 w7)) (_ : z1458 ≤ xPh n0 (xv g1459 w4) (xv g1459 w7)) (_ : xFr 12300 S g g1459 w3) (_ : 89 - z1458 < (nP1485 : Int)), X K E 54 [(1, .int (iI z1458)), (0, .ref a0)] [] S g1459 0 0 := by
                intro nP1485
                induction nP1485 with
                | zero => intro g1459 hg1459 z1458 lz1458 uz1458 v1486 v1487 v1488 mP1485; exact False.elim (by omega)
                | succ nP1485 ihP1485 =>
                  intro g1459 hg1459 z1458 lz1458 uz1458 v1486 v1487 v1488 mP1485
                  refine X_iloadn hK (i := 1) 0 kd43_12.1 rfl rfl ?_
                  refine X_aloadn hK (i := 0) 1 kd43_12.2.1 rfl rfl ?_
                  refine X_getK hK fl_X6_9_7 hs_a0 ((hg1459 a0 7 0 0 hs_a0 (by decide)).trans ((hg1261 a0 7 0 0 hs_a0 (by decide)).trans ((hg887 a0 7 0 0 hs_a0 (by decide)).trans en0))) kd43_12.2.2.1 ?_
                  refine X_aloadn hK (i := 0) 1 kd43_12.2.2.2.1 rfl rfl ?_
                  refine X_getK hK fl_X6_9_7 hs_a0 ((hg1459 a0 7 0 0 hs_a0 (by decide)).trans ((hg1261 a0 7 0 0 hs_a0 (by decide)).trans ((hg887 a0 7 0 0 hs_a0 (by decide)).trans en0))) kd43_12.2.2.2.2.1 ?_
                  refine X_imul hK kd43_12.2.2.2.2.2.1 ?_
                  have hm1489 := xmulB (a := n0) (b := n0) (A := 8) (B := 8) (by omega) (by omega) (by omega) (by omega)
                  refine X_aloadn hK (i := 0) 1 kd43_12.2.2.2.2.2.2.1 rfl rfl ?_
                  refine X_getK hK fl_X6_9_7 hs_a0 ((hg1459 a0 7 0 0 hs_a0 (by decide)).trans ((hg1261 a0 7 0 0 hs_a0 (by decide)).trans ((hg887 a0 7 0 0 hs_a0 (by decide)).trans en0))) kd43_12.2.2.2.2.2.2.2.1 ?_
                  refine X_iadd hK kd43_12.2.2.2.2.2.2.2.2.1 ?_
                  have hPg1459 := xPh_le (n := n0) (xv g1459 w4) (xv g1459 w7) (by omega)
                  refine X_icmp_gt hK 112 (by omega) (by omega) kd43_12.2.2.2.2.2.2.2.2.2.1 (by decide) (fun c1490 => False.elim (by omega)) (fun c1490 => ?_)
                  refine X_aloadn hK (i := 0) 1 kd43_12.2.2.2.2.2.2.2.2.2.2.1 rfl rfl ?_
                  refine X_callV hK [] [] lk_X6_54 (c2_boyWithout _ _ _ _ _ S g1459 a0 n0 w3 hs_a0 (by omega) ((hg1459 a0 7 0 0 hs_a0 (by decide)).trans ((hg1261 a0 7 0 0 hs_a0 (by decide)).trans ((hg887 a0 7 0 0 hs_a0 (by decide)).trans en0))) ((hg1459 a0 7 0 3 hs_a0 (by decide)).trans ((hg1261 a0 7 0 3 hs_a0 (by decide)).trans ((hg887 a0 7 0 3 hs_a0 (by decide)).trans ew3))) hs_w3) hs_a0 ⟨by decide, rfl⟩ kd43_12.2.2.2.2.2.2.2.2.2.2.2 rfl rfl (by simp [Value.category]) (by decide) (by decide) (by decide) (by decide) (fun r1491 S1493 g1492 pr1491 qr1491 hg1492 => ?_)
                  obtain ⟨rfl, rfl, z1494, rfl, lz1494, uz1494, k1495, k1496⟩ := pr1491
                  refine X_st [.int (iI z1494)] rfl ?_
                  refine X_istoren hK (i := 2) [(2, .int (iI z1494)), (1, .int (iI z1458)), (0, .ref a0)] kd43_13.1 rfl (by decide) rfl ?_
                  refine X_iloadn hK (i := 2) 0 kd43_13.2.1 rfl rfl ?_
                  refine X_iconst hK kd43_13.2.2.1 ?_
                  refine X_icmp_ne hK 86 (by omega) (by omega) kd43_13.2.2.2.1 (by decide) (fun c1497 => ?_) (fun c1497 => ?_)
                  · refine X_aloadn hK (i := 0) 2 kd43_13.2.2.2.2.2.2.1 rfl rfl ?_
                    refine X_iloadn hK (i := 2) 0 kd43_13.2.2.2.2.2.2.2.1 rfl rfl ?_
                    refine X_callV hK [.int (iI z1494)] [] lk_X6_58 (c2_dearestOf _ _ _ _ _ S g1459 a0 z1494 n0 w3 w4 w7 hs_a0 (by omega) (by omega) ((hg1459 a0 7 0 0 hs_a0 (by decide)).trans ((hg1261 a0 7 0 0 hs_a0 (by decide)).trans ((hg887 a0 7 0 0 hs_a0 (by decide)).trans en0))) ((hg1459 a0 7 0 3 hs_a0 (by decide)).trans ((hg1261 a0 7 0 3 hs_a0 (by decide)).trans ((hg887 a0 7 0 3 hs_a0 (by decide)).trans ew3))) hs_w3 ((hg1459 a0 7 0 4 hs_a0 (by decide)).trans ((hg1261 a0 7 0 4 hs_a0 (by decide)).trans ((hg887 a0 7 0 4 hs_a0 (by decide)).trans ew4))) hs_w4 ((hg1459 a0 7 0 7 hs_a0 (by decide)).trans ((hg1261 a0 7 0 7 hs_a0 (by decide)).trans ((hg887 a0 7 0 7 hs_a0 (by decide)).trans ew7))) hs_w7 v1486 (by omega) (by omega)) hs_a0 ⟨by decide, rfl⟩ kd43_13.2.2.2.2.2.2.2.2.1 rfl rfl (by simp [Value.category]) (by decide) (by decide) (by decide) (by decide) (fun r1498 S1500 g1499 pr1498 qr1498 hg1499 => ?_)
                    obtain ⟨rfl, rfl, z1501, rfl, lz1501, uz1501, k1502⟩ := pr1498
                    refine X_st [.int (iI z1501)] rfl ?_
                    refine X_istoren hK (i := 3) [(3, .int (iI z1501)), (2, .int (iI z1494)), (1, .int (iI z1458)), (0, .ref a0)] kd43_13.2.2.2.2.2.2.2.2.2.1 rfl (by decide) rfl ?_
                    refine X_iloadn hK (i := 3) 0 kd43_13.2.2.2.2.2.2.2.2.2.2.1 rfl rfl ?_
                    refine X_iconst hK kd43_13.2.2.2.2.2.2.2.2.2.2.2 ?_
                    refine X_icmp_ne hK 100 (by omega) (by omega) kd43_14.1 (by decide) (fun c1503 => ?_) (fun c1503 => False.elim (by omega))
                    refine X_aloadn hK (i := 0) 3 kd43_14.2.2.1 rfl rfl ?_
                    refine X_iloadn hK (i := 2) 1 kd43_14.2.2.2.1 rfl rfl ?_
                    refine X_iloadn hK (i := 3) 0 kd43_14.2.2.2.2.1 rfl rfl ?_
                    refine X_callV hK [.int (iI z1494), .int (iI z1501)] [] lk_X6_62 (c2_ask _ _ _ _ _ S g1459 a0 z1494 z1501 n0 w3 w4 w7 hs_a0 (by omega) (by omega) (by omega) ((hg1459 a0 7 0 0 hs_a0 (by decide)).trans ((hg1261 a0 7 0 0 hs_a0 (by decide)).trans ((hg887 a0 7 0 0 hs_a0 (by decide)).trans en0))) ((hg1459 a0 7 0 3 hs_a0 (by decide)).trans ((hg1261 a0 7 0 3 hs_a0 (by decide)).trans ((hg887 a0 7 0 3 hs_a0 (by decide)).trans ew3))) hs_w3 ((hg1459 a0 7 0 4 hs_a0 (by decide)).trans ((hg1261 a0 7 0 4 hs_a0 (by decide)).trans ((hg887 a0 7 0 4 hs_a0 (by decide)).trans ew4))) hs_w4 ((hg1459 a0 7 0 7 hs_a0 (by decide)).trans ((hg1261 a0 7 0 7 hs_a0 (by decide)).trans ((hg887 a0 7 0 7 hs_a0 (by decide)).trans ew7))) hs_w7 v1486 (by omega) (by omega) (by omega)) hs_a0 ⟨by decide, rfl⟩ kd43_14.2.2.2.2.2.1 rfl rfl (by simp [Value.category]) (by decide) (by decide) (by decide) (by decide) (fun r1504 S1506 g1505 pr1504 qr1504 hg1505 => ?_)
                    obtain ⟨rfl, rfl, k1507, k1508⟩ := pr1504
                    refine X_st [] rfl ?_
                    have hhk1507 := k1507.2
                    refine X_iinc hK (i := 1) (z := z1458) (n := 1) 2 [(1, .int (iI (z1458 + 1))), (3, .int (iI z1501)), (2, .int (iI z1494)), (0, .ref a0)] kd43_14.2.2.2.2.2.2.1 rfl (by decide) rfl ?_
                    refine X_goto hK 54 kd43_14.2.2.2.2.2.2.2.1 (by decide) ?_
                    refine X_lv [(1, .int (iI (z1458 + 1))), (0, .ref a0)] [0, 3] rfl ?_
                    exact ihP1485  g1505 (xM.tr (xM.tr xM.rf xLe.rf hg1459 (by decide)) xLe.rf hg1505 (by decide)) (z1458 + 1) (by omega) (by omega) k1507.1 (by omega) (xFr.tr v1488 k1508) (by omega)
                  · refine X_iconst hK kd43_13.2.2.2.2.1 ?_
                    refine X_goto hK 91 kd43_13.2.2.2.2.2.1 (by decide) ?_
                    refine X_istoren hK (i := 3) [(3, .int (iI (-1))), (2, .int (iI z1494)), (1, .int (iI z1458)), (0, .ref a0)] kd43_13.2.2.2.2.2.2.2.2.2.1 rfl (by decide) rfl ?_
                    refine X_iloadn hK (i := 3) 0 kd43_13.2.2.2.2.2.2.2.2.2.2.1 rfl rfl ?_
                    refine X_iconst hK kd43_13.2.2.2.2.2.2.2.2.2.2.2 ?_
                    refine X_icmp_ne hK 100 (by omega) (by omega) kd43_14.1 (by decide) (fun c1509 => False.elim (by omega)) (fun c1509 => ?_)
                    refine X_goto hK 112 kd43_14.2.1 (by decide) ?_
                    refine X_aloadn hK (i := 0) 3 kd43_14.2.2.2.2.2.2.2.2.1 rfl rfl ?_
                    refine X_callV hK [] [] lk_X6_66 (c_X6_gained _ _ _ _ _ S g1459 a0 hs_a0) hs_a0 ⟨by decide, rfl⟩ kd43_14.2.2.2.2.2.2.2.2.2.1 rfl rfl (by simp [Value.category]) (by decide) (by decide) (by decide) (by decide) (fun r1510 S1512 g1511 pr1510 qr1510 hg1511 => ?_)
                    obtain ⟨rfl, rfl, z1513, rfl, lz1513, uz1513⟩ := pr1510
                    refine X_st [.int (iI z1513)] rfl ?_
                    exact hret _ _ _ _ _ _ _ kd43_14.2.2.2.2.2.2.2.2.2.2 ⟨rfl, z1513, rfl, (by omega), (by omega), (xOf.co v1486 (k1495 (by omega))), v1488⟩ (Nat.le_refl _) (Nat.le_refl _)
              exact P1485 ((89 - 0 : Int).toNat + 1) g1261 xM.rf 0 (by omega) (by omega) (xOf.ini (fun k q1 q2 => by rw [(xv_m hg1261 hs_w3 (by decide) (by decide))]; exact v1013 k q1 (by omega)) (fun k q1 q2 => by rw [(xv_m hg1261 hs_w4 (by decide) (by decide))]; exact v1014 k q1 (by omega)) (fun k q1 q2 => v1321 k q1 (by omega)) (by omega)) (by have h9 := xPh_le (n := n0) (xv g1261 w4) (xv g1261 w7) (by omega); omega) v1322 (by omega)
            · refine X_aloadn hK (i := 0) 1 kd43_11.2.2.2.1 rfl rfl ?_
              refine X_getK hK fl_X6_34_7 hs_a0 ((hg1261 a0 7 0 7 hs_a0 (by decide)).trans ((hg887 a0 7 0 7 hs_a0 (by decide)).trans ew7)) kd43_11.2.2.2.2.1 ?_
              refine X_iloadn hK (i := 1) 0 kd43_11.2.2.2.2.2.1 rfl rfl ?_
              refine X_iconst hK kd43_11.2.2.2.2.2.2.1 ?_
              refine X_zast hK hs_w7 (by decide) (by decide) sl_12701 (by omega) (by omega) (by omega) (by omega) kd43_11.2.2.2.2.2.2.2.1 (fun g1514 hg1514 => ?_)
              refine X_iinc hK (i := 1) (z := z1260) (n := 1) 0 [(1, .int (iI (z1260 + 1))), (0, .ref a0)] kd43_11.2.2.2.2.2.2.2.2.1 rfl (by decide) rfl ?_
              refine X_goto hK 30 kd43_11.2.2.2.2.2.2.2.2.2.1 (by decide) ?_
              exact ihP1320  g1514 (xM_ua (xM.tr xM.rf xLe.rf hg1261 (by decide)) hg1514 hs_w7 (by decide) (by decide)) (z1260 + 1) (by omega) (by omega) (xpre (P := fun x => x = 0) v1321 (fun i9 hi9 h09 => (show xv g1514 w7 i9 = xv g1261 w7 i9 from by rw [(xv_k (i := i9) hg1514 (by omega) (by omega) (by omega))])) (show xv g1514 w7 z1260 = 0 from by rw [xv_s hg1514 (by omega)])) (xFr.t v1322 hg1514 hs_w7 (by decide)) (by omega)
        exact P1320 ((80 - 0 : Int).toNat + 1) g887 xM.rf 0 (by omega) (by omega) (fun k q1 q2 => by omega) v1015 (by omega)
      · refine X_aloadn hK (i := 0) 1 kd43_9.2.2.2.2.2.2.2.2.1 rfl rfl ?_
        refine X_getK hK fl_X6_22_7 hs_a0 ((hg887 a0 7 0 3 hs_a0 (by decide)).trans ew3) kd43_9.2.2.2.2.2.2.2.2.2.1 ?_
        refine X_iloadn hK (i := 1) 0 kd43_9.2.2.2.2.2.2.2.2.2.2.1 rfl rfl ?_
        refine X_iconst hK kd43_9.2.2.2.2.2.2.2.2.2.2.2 ?_
        refine X_iast hK hs_w3 (by decide) (by decide) sl_12300 (by omega) (by omega) (by omega) (by omega) kd43_10.1 (fun g1515 hg1515 => ?_)
        refine X_aloadn hK (i := 0) 1 kd43_10.2.1 rfl rfl ?_
        refine X_getK hK fl_X6_25_7 hs_a0 ((xs_a hg1515 (xne hs_a0 hs_w3 (by decide))).trans ((hg887 a0 7 0 4 hs_a0 (by decide)).trans ew4)) kd43_10.2.2.1 ?_
        refine X_iloadn hK (i := 1) 0 kd43_10.2.2.2.1 rfl rfl ?_
        refine X_iconst hK kd43_10.2.2.2.2.1 ?_
        refine X_iast hK hs_w4 (by decide) (by decide) sl_12400 (by omega) (by omega) (by omega) (by omega) kd43_10.2.2.2.2.2.1 (fun g1516 hg1516 => ?_)
        refine X_iinc hK (i := 1) (z := z886) (n := 1) 0 [(1, .int (iI (z886 + 1))), (0, .ref a0)] kd43_10.2.2.2.2.2.2.1 rfl (by decide) rfl ?_
        refine X_goto hK 2 kd43_10.2.2.2.2.2.2.2.1 (by decide) ?_
        exact ihP1012  g1516 (xM_ua (xM_ua (xM.tr xM.rf xLe.rf hg887 (by decide)) hg1515 hs_w3 (by decide) (by decide)) hg1516 hs_w4 (by decide) (by decide)) (z886 + 1) (by omega) (by omega) (xpre (P := fun x => x = -1) v1013 (fun i9 hi9 h09 => (show xv g1516 w3 i9 = xv g887 w3 i9 from by rw [(xv_a hg1516 (xne hs_w3 hs_w4 (by decide))), (xv_k (i := i9) hg1515 (by omega) (by omega) (by omega))])) (show xv g1516 w3 z886 = (-1) from by rw [(xv_a hg1516 (xne hs_w3 hs_w4 (by decide))), xv_s hg1515 (by omega)])) (xpre (P := fun x => x = -1) v1014 (fun i9 hi9 h09 => (show xv g1516 w4 i9 = xv g887 w4 i9 from by rw [(xv_k (i := i9) hg1516 (by omega) (by omega) (by omega)), (xv_a hg1515 (xne hs_w4 hs_w3 (by decide)))])) (show xv g1516 w4 z886 = (-1) from by rw [xv_s hg1516 (by omega)])) (xFr.t (xFr.w v1015 hg1515) hg1516 hs_w4 (by decide)) (by omega)
  exact P1012 ((24 - 0 : Int).toNat + 1) g xM.rf 0 (by omega) (by omega) (fun k q1 q2 => by omega) (fun k q1 q2 => by omega) xFr.rf (by omega)

set_option maxHeartbeats 4000000 in
set_option maxRecDepth 100000 in
theorem c2_place_8 (l : Launch) (D : va_G) (kA : Nat → ClassId) (b0 : Nat) (t0 : Nat → Nat) (S : xT) (g : xG) (a0 : Nat) (x1 : Int) (x2 : Int) (x3 : Int) (y4 : Int64) (n0 : Int) (w3 : Nat) (m0 : Int) (hs_a0 : S a0 = some (7, 0)) (hx1 : 8 ≤ x1 ∧ x1 ≤ 8) (hx2 : 0 ≤ x2 ∧ x2 ≤ 255) (hx3 : (-2147483648) ≤ x3 ∧ x3 ≤ 2147483647) (hn0 : 8 ≤ n0 ∧ n0 ≤ 8) (en0 : g a0 0 = .int (iI n0)) (ew3 : g a0 3 = .ref w3) (hs_w3 : S w3 = some (12300, 8)) (hm0 : (-2147483648) ≤ m0 ∧ m0 ≤ 2147483647) (em0 : g a0 9 = .int (iI m0)) (hp0 : m0 = -1 ∨ xCo n0 (xv g w3)) : xMt l yX6_place cX6_place 8 none 0 0 0 0 D kA b0 t0 [(7, 9), (12300, 0)] [.ref a0, .int (iI x1), .int (iI x2), .int (iI x3), .long y4] S g (fun (r : Option Value) (S1 : xT) (g1 : xG) => S = S1 ∧ r = none ∧ (∃ z9 : Int, g1 a0 9 = .int (iI z9) ∧ -2147483648 ≤ z9 ∧ z9 ≤ 2147483647 ∧ (z9 = -1 ∨ xCo n0 (xv g1 w3))) ∧ (xFr 12300 S g g1 w3)) := by
  refine xEnterV (by decide) (by simp [lg_sl, Value.category]) [(0, .ref a0), (1, .int (iI x1)), (2, .int (iI x2)), (3, .int (iI x3)), (4, .long y4)] rfl ?_
  intro K E hK hret _ _ _
  refine X_iloadn hK (i := 3) 3 kd30_0.1 rfl rfl ?_
  refine X_aloadn hK (i := 0) 0 kd30_0.2.1 rfl rfl ?_
  refine X_getr hK 12600 256 fl_X6_31_7 hs_a0 sl_7_6 kd30_0.2.2.1 (fun b1 eb1 hs_b1 => ?_)
  refine X_iloadn hK (i := 2) 2 kd30_0.2.2.2.1 rfl rfl ?_
  refine X_iald hK hs_b1 (by decide) sl_12600 (by omega) (by omega) kd30_0.2.2.2.2.1 (fun z2 ez2 lz2 uz2 => ?_)
  refine X_iadd hK kd30_0.2.2.2.2.2.1 ?_
  refine X_norm (fun z3 ez3 lz3 uz3 => ?_)
  refine X_aloadn hK (i := 0) 0 kd30_0.2.2.2.2.2.2.1 rfl rfl ?_
  refine X_getK hK fl_X6_42_7 hs_a0 em0 kd30_0.2.2.2.2.2.2.2.1 ?_
  refine X_icmp_gt hK 16 (by omega) (by omega) kd30_0.2.2.2.2.2.2.2.2.1 (by decide) (fun c4 => ?_) (fun c4 => ?_)
  · refine X_iloadn hK (i := 1) 1 kd30_0.2.2.2.2.2.2.2.2.2.2.1 rfl rfl ?_
    refine X_aloadn hK (i := 0) 0 kd30_0.2.2.2.2.2.2.2.2.2.2.2 rfl rfl ?_
    refine X_getK hK fl_X6_9_7 hs_a0 en0 kd30_1.1 ?_
    refine X_icmp_ne hK 62 (by omega) (by omega) kd30_1.2.1 (by decide) (fun c5 => False.elim (by omega)) (fun c5 => ?_)
    refine X_aloadn hK (i := 0) 0 kd30_1.2.2.1 rfl rfl ?_
    refine X_iloadn hK (i := 3) 3 kd30_1.2.2.2.1 rfl rfl ?_
    refine X_puti hK fl_X6_42_7 hs_a0 (by decide) sl_7_9 (by omega) (by omega) kd30_1.2.2.2.2.1 (fun g6 hg6 => ?_)
    refine X_iconst hK kd30_1.2.2.2.2.2.1 ?_
    refine X_istore hK (i := 6) [(6, .int (iI 0)), (0, .ref a0), (1, .int (iI x1)), (2, .int (iI x2)), (3, .int (iI x3)), (4, .long y4)] kd30_1.2.2.2.2.2.2.1 (by decide) rfl ?_
    have P42 : ∀ (nP42 : Nat) (g37 : xG) (_ : xM [(12300, 0)] S g6 g37) (z36 : Int) (_ : 0 ≤ z36) (_ : z36 ≤ 8) (_ : ∀ k, 0 ≤ k → k < z36 → 0 ≤ xv g37 w3 k) (_ : xFr 12300 S g g37 w3) (_ : 24 - z36 < (nP42 : Int)), X K E 32 [(6, .int (iI z36)), (0, .ref a0), (1, .int (iI x1)), (2, .int (iI x2)), (3, .int (iI x3)), (4, .long y4)] [] S g37 0 0 := by
      intro nP42
      induction nP42 with
      | zero => intro g37 hg37 z36 lz36 uz36 v43 v44 mP42; exact False.elim (by omega)
      | succ nP42 ihP42 =>
        intro g37 hg37 z36 lz36 uz36 v43 v44 mP42
        refine X_iload hK (i := 6) 0 kd30_1.2.2.2.2.2.2.2.1 rfl ?_
        refine X_aloadn hK (i := 0) 1 kd30_1.2.2.2.2.2.2.2.2.1 rfl rfl ?_
        refine X_getK hK fl_X6_9_7 hs_a0 ((hg37 a0 7 0 0 hs_a0 (by decide)).trans ((xs_k hg6 (by decide)).trans en0)) kd30_1.2.2.2.2.2.2.2.2.2.1 ?_
        refine X_icmp_ge hK 61 (by omega) (by omega) kd30_1.2.2.2.2.2.2.2.2.2.2.1 (by decide) (fun c45 => ?_) (fun c45 => ?_)
        · exact hret _ _ _ _ _ _ kd30_2.2.2.2.2.2.2.2.2.2.1 ⟨rfl, rfl, ⟨x3, ((hg37 a0 7 0 9 hs_a0 (by decide)).trans (xs_s hg6)), by omega, by omega, Or.inr (fun k q1 q2 => v43 k q1 (by omega))⟩, v44⟩ (Nat.le_refl _) (Nat.le_refl _)
        · refine X_aloadn hK (i := 0) 1 kd30_1.2.2.2.2.2.2.2.2.2.2.2 rfl rfl ?_
          refine X_getK hK fl_X6_22_7 hs_a0 ((hg37 a0 7 0 3 hs_a0 (by decide)).trans ((xs_k hg6 (by decide)).trans ew3)) kd30_2.1 ?_
          refine X_iload hK (i := 6) 0 kd30_2.2.1 rfl ?_
          refine X_aloadn hK (i := 0) 1 kd30_2.2.2.1 rfl rfl ?_
          refine X_getr hK 12500 8 fl_X6_28_7 hs_a0 sl_7_5 kd30_2.2.2.2.1 (fun b46 eb46 hs_b46 => ?_)
          refine X_iload hK (i := 6) 0 kd30_2.2.2.2.2.1 rfl ?_
          refine X_iald hK hs_b46 (by decide) sl_12500 (by omega) (by omega) kd30_2.2.2.2.2.2.1 (fun z47 ez47 lz47 uz47 => ?_)
          refine X_iast hK hs_w3 (by decide) (by decide) sl_12300 (by omega) (by omega) (by omega) (by omega) kd30_2.2.2.2.2.2.2.1 (fun g48 hg48 => ?_)
          refine X_iinc hK (i := 6) (z := z36) (n := 1) 0 [(6, .int (iI (z36 + 1))), (0, .ref a0), (1, .int (iI x1)), (2, .int (iI x2)), (3, .int (iI x3)), (4, .long y4)] kd30_2.2.2.2.2.2.2.2.1 rfl (by decide) rfl ?_
          refine X_goto hK 32 kd30_2.2.2.2.2.2.2.2.2.1 (by decide) ?_
          exact ihP42  g48 (xM_ua (xM.tr xM.rf xLe.rf hg37 (by decide)) hg48 hs_w3 (by decide) (by decide)) (z36 + 1) (by omega) (by omega) (xpre (P := fun x => 0 ≤ x) v43 (fun i9 hi9 h09 => (show xv g48 w3 i9 = xv g37 w3 i9 from by rw [(xv_k (i := i9) hg48 (by omega) (by omega) (by omega))])) (by rw [show xv g48 w3 z36 = _ from (show xv g48 w3 z36 = z47 from by rw [xv_s hg48 (by omega)])]; omega)) (xFr.w v44 hg48) (by omega)
    exact P42 ((24 - 0 : Int).toNat + 1) g6 xM.rf 0 (by omega) (by omega) (fun k q1 q2 => by omega) (xFr.t xFr.rf hg6 hs_a0 (by decide)) (by omega)
  · exact hret _ _ _ _ _ _ kd30_0.2.2.2.2.2.2.2.2.2.1 ⟨rfl, rfl, ⟨m0, em0, by omega, by omega, hp0⟩, xFr.rf⟩ (Nat.le_refl _) (Nat.le_refl _)

set_option maxHeartbeats 4000000 in
set_option maxRecDepth 100000 in
theorem c2_place_7 (l : Launch) (D : va_G) (kA : Nat → ClassId) (b0 : Nat) (t0 : Nat → Nat) (S : xT) (g : xG) (a0 : Nat) (x1 : Int) (x2 : Int) (x3 : Int) (y4 : Int64) (n0 : Int) (w3 : Nat) (m0 : Int) (hs_a0 : S a0 = some (7, 0)) (hx1 : 7 ≤ x1 ∧ x1 ≤ 7) (hx2 : 0 ≤ x2 ∧ x2 ≤ 255) (hx3 : (-2147483648) ≤ x3 ∧ x3 ≤ 2147483647) (hn0 : 7 ≤ n0 ∧ n0 ≤ 8) (en0 : g a0 0 = .int (iI n0)) (ew3 : g a0 3 = .ref w3) (hs_w3 : S w3 = some (12300, 8)) (hm0 : (-2147483648) ≤ m0 ∧ m0 ≤ 2147483647) (em0 : g a0 9 = .int (iI m0)) (hp0 : m0 = -1 ∨ xCo n0 (xv g w3)) : xMt l yX6_place cX6_place 8 none 1 0 0 27 D kA b0 t0 [(12500, 0), (7, 9), (12300, 0)] [.ref a0, .int (iI x1), .int (iI x2), .int (iI x3), .long y4] S g (fun (r : Option Value) (S1 : xT) (g1 : xG) => S = S1 ∧ r = none ∧ (∃ z9 : Int, g1 a0 9 = .int (iI z9) ∧ -2147483648 ≤ z9 ∧ z9 ≤ 2147483647 ∧ (z9 = -1 ∨ xCo n0 (xv g1 w3))) ∧ (xFr 12300 S g g1 w3)) := by
  refine xEnterV (by decide) (by simp [lg_sl, Value.category]) [(0, .ref a0), (1, .int (iI x1)), (2, .int (iI x2)), (3, .int (iI x3)), (4, .long y4)] rfl ?_
  intro K E hK hret _ _ _
  refine X_iloadn hK (i := 3) 3 kd30_0.1 rfl rfl ?_
  refine X_aloadn hK (i := 0) 0 kd30_0.2.1 rfl rfl ?_
  refine X_getr hK 12600 256 fl_X6_31_7 hs_a0 sl_7_6 kd30_0.2.2.1 (fun b1 eb1 hs_b1 => ?_)
  refine X_iloadn hK (i := 2) 2 kd30_0.2.2.2.1 rfl rfl ?_
  refine X_iald hK hs_b1 (by decide) sl_12600 (by omega) (by omega) kd30_0.2.2.2.2.1 (fun z2 ez2 lz2 uz2 => ?_)
  refine X_iadd hK kd30_0.2.2.2.2.2.1 ?_
  refine X_norm (fun z3 ez3 lz3 uz3 => ?_)
  refine X_aloadn hK (i := 0) 0 kd30_0.2.2.2.2.2.2.1 rfl rfl ?_
  refine X_getK hK fl_X6_42_7 hs_a0 em0 kd30_0.2.2.2.2.2.2.2.1 ?_
  refine X_icmp_gt hK 16 (by omega) (by omega) kd30_0.2.2.2.2.2.2.2.2.1 (by decide) (fun c4 => ?_) (fun c4 => ?_)
  · refine X_iloadn hK (i := 1) 1 kd30_0.2.2.2.2.2.2.2.2.2.2.1 rfl rfl ?_
    refine X_aloadn hK (i := 0) 0 kd30_0.2.2.2.2.2.2.2.2.2.2.2 rfl rfl ?_
    refine X_getK hK fl_X6_9_7 hs_a0 en0 kd30_1.1 ?_
    refine X_icmp_ne hK 62 (by omega) (by omega) kd30_1.2.1 (by decide) (fun c5 => ?_) (fun c5 => ?_)
    · refine X_iconst hK kd30_2.2.2.2.2.2.2.2.2.2.2.1 ?_
      refine X_istore hK (i := 6) [(6, .int (iI 0)), (0, .ref a0), (1, .int (iI x1)), (2, .int (iI x2)), (3, .int (iI x3)), (4, .long y4)] kd30_2.2.2.2.2.2.2.2.2.2.2.2 (by decide) rfl ?_
      have P161 : ∀ (nP161 : Nat) (g136 : xG) (_ : xM [(7, 9), (12300, 0), (12500, 0)] S g g136) (z135 : Int) (_ : 0 ≤ z135) (_ : z135 ≤ 8) (q137 : Int) (_ : (-2147483648) ≤ q137) (_ : q137 ≤ 2147483647) (_ : g136 a0 9 = .int (iI q137)) (_ : q137 = -1 ∨ xCo n0 (xv g136 w3)) (_ : xFr 12300 S g g136 w3) (_ : 24 - z135 < (nP161 : Int)), X K E 65 [(6, .int (iI z135)), (0, .ref a0), (1, .int (iI x1)), (2, .int (iI x2)), (3, .int (iI x3)), (4, .long y4)] [] S g136 0 0 := by
        intro nP161
        induction nP161 with
        | zero => intro g136 hg136 z135 lz135 uz135 q137 lq137 uq137 eq137 v162 v163 mP161; exact False.elim (by omega)
        | succ nP161 ihP161 =>
          intro g136 hg136 z135 lz135 uz135 q137 lq137 uq137 eq137 v162 v163 mP161
          refine X_iload hK (i := 6) 0 kd30_3.1 rfl ?_
          refine X_aloadn hK (i := 0) 1 kd30_3.2.1 rfl rfl ?_
          refine X_getK hK fl_X6_9_7 hs_a0 ((hg136 a0 7 0 0 hs_a0 (by decide)).trans en0) kd30_3.2.2.1 ?_
          refine X_icmp_ge hK 141 (by omega) (by omega) kd30_3.2.2.2.1 (by decide) (fun c164 => ?_) (fun c164 => ?_)
          · exact hret _ _ _ _ _ _ kd30_6.2.2.2.2.2.2.2.2.2.2.2 ⟨rfl, rfl, ⟨q137, eq137, by omega, by omega, v162⟩, v163⟩ (Nat.le_refl _) (Nat.le_refl _)
          · refine X_iloadn hK (i := 1) 2 kd30_3.2.2.2.2.1 rfl rfl ?_
            refine X_bipush hK kd30_3.2.2.2.2.2.1 (by decide) ?_
            refine X_imul hK kd30_3.2.2.2.2.2.2.1 ?_
            refine X_iload hK (i := 6) 0 kd30_3.2.2.2.2.2.2.2.1 rfl ?_
            refine X_iadd hK kd30_3.2.2.2.2.2.2.2.2.1 ?_
            refine X_istore hK (i := 7) [(7, .int (iI ((x1 * 8) + z135))), (6, .int (iI z135)), (0, .ref a0), (1, .int (iI x1)), (2, .int (iI x2)), (3, .int (iI x3)), (4, .long y4)] kd30_3.2.2.2.2.2.2.2.2.2.1 (by decide) rfl ?_
            refine X_lload hK (i := 4) 6 kd30_3.2.2.2.2.2.2.2.2.2.2.1 rfl ?_
            refine X_iload hK (i := 7) 0 kd30_3.2.2.2.2.2.2.2.2.2.2.2 rfl ?_
            refine X_lushr hK kd30_4.1 (fun y165 => ?_)
            refine X_lconst hK kd30_4.2.1 (fun y166 => ?_)
            refine X_land hK kd30_4.2.2.1 (fun y167 => ?_)
            refine X_lconst hK kd30_4.2.2.2.1 (fun y168 => ?_)
            refine X_lcmp hK kd30_4.2.2.2.2.1 (fun z169 lz169 uz169 => ?_)
            refine X_if_ne hK 135 (by omega) kd30_4.2.2.2.2.2.1 (by decide) (fun c170 => ?_) (fun c170 => ?_)
            · refine X_iinc hK (i := 6) (z := z135) (n := 1) 1 [(6, .int (iI (z135 + 1))), (7, .int (iI ((x1 * 8) + z135))), (0, .ref a0), (1, .int (iI x1)), (2, .int (iI x2)), (3, .int (iI x3)), (4, .long y4)] kd30_6.2.2.2.2.2.2.2.2.2.1 rfl (by decide) rfl ?_
              refine X_goto hK 65 kd30_6.2.2.2.2.2.2.2.2.2.2.1 (by decide) ?_
              refine X_lv [(6, .int (iI (z135 + 1))), (0, .ref a0), (1, .int (iI x1)), (2, .int (iI x2)), (3, .int (iI x3)), (4, .long y4)] [0, 2, 3, 4, 5, 6] rfl ?_
              exact ihP161  g136 (xM.tr xM.rf xLe.rf hg136 (by decide)) (z135 + 1) (by omega) (by omega) q137 (by omega) (by omega) eq137 v162 v163 (by omega)
            · refine X_aloadn hK (i := 0) 2 kd30_4.2.2.2.2.2.2.1 rfl rfl ?_
              refine X_getr hK 12500 8 fl_X6_28_7 hs_a0 sl_7_5 kd30_4.2.2.2.2.2.2.2.1 (fun b171 eb171 hs_b171 => ?_)
              refine X_iloadn hK (i := 1) 3 kd30_4.2.2.2.2.2.2.2.2.1 rfl rfl ?_
              refine X_iload hK (i := 6) 1 kd30_4.2.2.2.2.2.2.2.2.2.1 rfl ?_
              refine X_iast hK hs_b171 (by decide) (by decide) sl_12500 (by omega) (by omega) (by omega) (by omega) kd30_4.2.2.2.2.2.2.2.2.2.2.1 (fun g172 hg172 => ?_)
              refine X_aloadn hK (i := 0) 2 kd30_4.2.2.2.2.2.2.2.2.2.2.2 rfl rfl ?_
              refine X_iloadn hK (i := 1) 3 kd30_5.1 rfl rfl ?_
              refine X_iconst hK kd30_5.2.1 ?_
              refine X_iadd hK kd30_5.2.2.1 ?_
              refine X_iloadn hK (i := 2) 4 kd30_5.2.2.2.1 rfl rfl ?_
              refine X_iconst hK kd30_5.2.2.2.2.1 ?_
              refine X_iload hK (i := 6) 1 kd30_5.2.2.2.2.2.1 rfl ?_
              refine X_ishl hK kd30_5.2.2.2.2.2.2.1 (fun z173 ez173 lz173 uz173 => ?_)
              have bz173 := xshlB 7 ez173 ⟨lz173, uz173⟩ (by omega) (by decide)
              refine X_ior hK kd30_5.2.2.2.2.2.2.2.1 (fun z174 ez174 lz174 uz174 => ?_)
              have bz174 := xiorB 8 ez174 ⟨lz174, uz174⟩ (by omega) (by omega) (by decide)
              refine X_iloadn hK (i := 3) 5 kd30_5.2.2.2.2.2.2.2.2.1 rfl rfl ?_
              refine X_aloadn hK (i := 0) 2 kd30_5.2.2.2.2.2.2.2.2.2.1 rfl rfl ?_
              refine X_getr hK 12100 64 fl_X6_15_7 hs_a0 sl_7_1 kd30_5.2.2.2.2.2.2.2.2.2.2.1 (fun b175 eb175 hs_b175 => ?_)
              refine X_iload hK (i := 7) 0 kd30_5.2.2.2.2.2.2.2.2.2.2.2 rfl ?_
              refine X_iald hK hs_b175 (by decide) sl_12100 (by omega) (by omega) kd30_6.1 (fun z176 ez176 lz176 uz176 => ?_)
              refine X_iadd hK kd30_6.2.1 ?_
              refine X_norm (fun z177 ez177 lz177 uz177 => ?_)
              refine X_lload hK (i := 4) 6 kd30_6.2.2.1 rfl ?_
              refine X_aloadn hK (i := 0) 2 kd30_6.2.2.2.1 rfl rfl ?_
              refine X_getr hK 12802 64 fl_X6_38_7 hs_a0 sl_7_8 kd30_6.2.2.2.2.1 (fun b178 eb178 hs_b178 => ?_)
              refine X_iload hK (i := 7) 0 kd30_6.2.2.2.2.2.1 rfl ?_
              refine X_lald hK hs_b178 (by decide) sl_12802 (by omega) (by omega) kd30_6.2.2.2.2.2.2.1 (fun y179 => ?_)
              refine X_lor hK kd30_6.2.2.2.2.2.2.2.1 (fun y180 => ?_)
              refine X_callV hK [.int (iI (x1 + 1)), .int (iI z174), .int (iI z177), .long y180] [] lk_X6_80 (c2_place_8 _ _ _ _ _ S g172 a0 (x1 + 1) z174 z177 y180 n0 w3 q137 hs_a0 (by omega) (by omega) (by omega) (by omega) ((xs_a hg172 (xne hs_a0 hs_b171 (by decide))).trans ((hg136 a0 7 0 0 hs_a0 (by decide)).trans en0)) ((xs_a hg172 (xne hs_a0 hs_b171 (by decide))).trans ((hg136 a0 7 0 3 hs_a0 (by decide)).trans ew3)) hs_w3 (by omega) ((xs_a hg172 (xne hs_a0 hs_b171 (by decide))).trans eq137) (by rw [(xv_a hg172 (xne hs_w3 hs_b171 (by decide)))]; exact v162)) hs_a0 ⟨by decide, rfl⟩ kd30_6.2.2.2.2.2.2.2.2.1 rfl rfl (by simp [Value.category]) (by decide) (by decide) (by decide) (by decide) (fun r181 S183 g182 pr181 qr181 hg182 => ?_)
              obtain ⟨rfl, rfl, k184, k185⟩ := pr181
              refine X_st [] rfl ?_
              obtain ⟨z186, ez186, lz186, uz186, kz186⟩ := k184
              refine X_iinc hK (i := 6) (z := z135) (n := 1) 1 [(6, .int (iI (z135 + 1))), (7, .int (iI ((x1 * 8) + z135))), (0, .ref a0), (1, .int (iI x1)), (2, .int (iI x2)), (3, .int (iI x3)), (4, .long y4)] kd30_6.2.2.2.2.2.2.2.2.2.1 rfl (by decide) rfl ?_
              refine X_goto hK 65 kd30_6.2.2.2.2.2.2.2.2.2.2.1 (by decide) ?_
              refine X_lv [(6, .int (iI (z135 + 1))), (0, .ref a0), (1, .int (iI x1)), (2, .int (iI x2)), (3, .int (iI x3)), (4, .long y4)] [0, 2, 3, 4, 5, 6] rfl ?_
              exact ihP161  g182 (xM.tr (xM_ua (xM.tr xM.rf xLe.rf hg136 (by decide)) hg172 hs_b171 (by decide) (by decide)) xLe.rf hg182 (by decide)) (z135 + 1) (by omega) (by omega) z186 (by omega) (by omega) ez186 kz186 (xFr.tr (xFr.t v163 hg172 hs_b171 (by decide)) k185) (by omega)
      exact P161 ((24 - 0 : Int).toNat + 1) g xM.rf 0 (by omega) (by omega) m0 (by omega) (by omega) em0 hp0 xFr.rf (by omega)
    · refine X_aloadn hK (i := 0) 0 kd30_1.2.2.1 rfl rfl ?_
      refine X_iloadn hK (i := 3) 3 kd30_1.2.2.2.1 rfl rfl ?_
      refine X_puti hK fl_X6_42_7 hs_a0 (by decide) sl_7_9 (by omega) (by omega) kd30_1.2.2.2.2.1 (fun g187 hg187 => ?_)
      refine X_iconst hK kd30_1.2.2.2.2.2.1 ?_
      refine X_istore hK (i := 6) [(6, .int (iI 0)), (0, .ref a0), (1, .int (iI x1)), (2, .int (iI x2)), (3, .int (iI x3)), (4, .long y4)] kd30_1.2.2.2.2.2.2.1 (by decide) rfl ?_
      have P223 : ∀ (nP223 : Nat) (g218 : xG) (_ : xM [(12300, 0)] S g187 g218) (z217 : Int) (_ : 0 ≤ z217) (_ : z217 ≤ 7) (_ : ∀ k, 0 ≤ k → k < z217 → 0 ≤ xv g218 w3 k) (_ : xFr 12300 S g g218 w3) (_ : 23 - z217 < (nP223 : Int)), X K E 32 [(6, .int (iI z217)), (0, .ref a0), (1, .int (iI x1)), (2, .int (iI x2)), (3, .int (iI x3)), (4, .long y4)] [] S g218 0 0 := by
        intro nP223
        induction nP223 with
        | zero => intro g218 hg218 z217 lz217 uz217 v224 v225 mP223; exact False.elim (by omega)
        | succ nP223 ihP223 =>
          intro g218 hg218 z217 lz217 uz217 v224 v225 mP223
          refine X_iload hK (i := 6) 0 kd30_1.2.2.2.2.2.2.2.1 rfl ?_
          refine X_aloadn hK (i := 0) 1 kd30_1.2.2.2.2.2.2.2.2.1 rfl rfl ?_
          refine X_getK hK fl_X6_9_7 hs_a0 ((hg218 a0 7 0 0 hs_a0 (by decide)).trans ((xs_k hg187 (by decide)).trans en0)) kd30_1.2.2.2.2.2.2.2.2.2.1 ?_
          refine X_icmp_ge hK 61 (by omega) (by omega) kd30_1.2.2.2.2.2.2.2.2.2.2.1 (by decide) (fun c226 => ?_) (fun c226 => ?_)
          · exact hret _ _ _ _ _ _ kd30_2.2.2.2.2.2.2.2.2.2.1 ⟨rfl, rfl, ⟨x3, ((hg218 a0 7 0 9 hs_a0 (by decide)).trans (xs_s hg187)), by omega, by omega, Or.inr (fun k q1 q2 => v224 k q1 (by omega))⟩, v225⟩ (Nat.le_refl _) (Nat.le_refl _)
          · refine X_aloadn hK (i := 0) 1 kd30_1.2.2.2.2.2.2.2.2.2.2.2 rfl rfl ?_
            refine X_getK hK fl_X6_22_7 hs_a0 ((hg218 a0 7 0 3 hs_a0 (by decide)).trans ((xs_k hg187 (by decide)).trans ew3)) kd30_2.1 ?_
            refine X_iload hK (i := 6) 0 kd30_2.2.1 rfl ?_
            refine X_aloadn hK (i := 0) 1 kd30_2.2.2.1 rfl rfl ?_
            refine X_getr hK 12500 8 fl_X6_28_7 hs_a0 sl_7_5 kd30_2.2.2.2.1 (fun b227 eb227 hs_b227 => ?_)
            refine X_iload hK (i := 6) 0 kd30_2.2.2.2.2.1 rfl ?_
            refine X_iald hK hs_b227 (by decide) sl_12500 (by omega) (by omega) kd30_2.2.2.2.2.2.1 (fun z228 ez228 lz228 uz228 => ?_)
            refine X_iast hK hs_w3 (by decide) (by decide) sl_12300 (by omega) (by omega) (by omega) (by omega) kd30_2.2.2.2.2.2.2.1 (fun g229 hg229 => ?_)
            refine X_iinc hK (i := 6) (z := z217) (n := 1) 0 [(6, .int (iI (z217 + 1))), (0, .ref a0), (1, .int (iI x1)), (2, .int (iI x2)), (3, .int (iI x3)), (4, .long y4)] kd30_2.2.2.2.2.2.2.2.1 rfl (by decide) rfl ?_
            refine X_goto hK 32 kd30_2.2.2.2.2.2.2.2.2.1 (by decide) ?_
            exact ihP223  g229 (xM_ua (xM.tr xM.rf xLe.rf hg218 (by decide)) hg229 hs_w3 (by decide) (by decide)) (z217 + 1) (by omega) (by omega) (xpre (P := fun x => 0 ≤ x) v224 (fun i9 hi9 h09 => (show xv g229 w3 i9 = xv g218 w3 i9 from by rw [(xv_k (i := i9) hg229 (by omega) (by omega) (by omega))])) (by rw [show xv g229 w3 z217 = _ from (show xv g229 w3 z217 = z228 from by rw [xv_s hg229 (by omega)])]; omega)) (xFr.w v225 hg229) (by omega)
      exact P223 ((23 - 0 : Int).toNat + 1) g187 xM.rf 0 (by omega) (by omega) (fun k q1 q2 => by omega) (xFr.t xFr.rf hg187 hs_a0 (by decide)) (by omega)
  · exact hret _ _ _ _ _ _ kd30_0.2.2.2.2.2.2.2.2.2.1 ⟨rfl, rfl, ⟨m0, em0, by omega, by omega, hp0⟩, xFr.rf⟩ (Nat.le_refl _) (Nat.le_refl _)

set_option maxHeartbeats 4000000 in
set_option maxRecDepth 100000 in
theorem c2_place_6 (l : Launch) (D : va_G) (kA : Nat → ClassId) (b0 : Nat) (t0 : Nat → Nat) (S : xT) (g : xG) (a0 : Nat) (x1 : Int) (x2 : Int) (x3 : Int) (y4 : Int64) (n0 : Int) (w3 : Nat) (m0 : Int) (hs_a0 : S a0 = some (7, 0)) (hx1 : 6 ≤ x1 ∧ x1 ≤ 6) (hx2 : 0 ≤ x2 ∧ x2 ≤ 255) (hx3 : (-2147483648) ≤ x3 ∧ x3 ≤ 2147483647) (hn0 : 6 ≤ n0 ∧ n0 ≤ 8) (en0 : g a0 0 = .int (iI n0)) (ew3 : g a0 3 = .ref w3) (hs_w3 : S w3 = some (12300, 8)) (hm0 : (-2147483648) ≤ m0 ∧ m0 ≤ 2147483647) (em0 : g a0 9 = .int (iI m0)) (hp0 : m0 = -1 ∨ xCo n0 (xv g w3)) : xMt l yX6_place cX6_place 8 none 2 0 0 54 D kA b0 t0 [(12500, 0), (7, 9), (12300, 0)] [.ref a0, .int (iI x1), .int (iI x2), .int (iI x3), .long y4] S g (fun (r : Option Value) (S1 : xT) (g1 : xG) => S = S1 ∧ r = none ∧ (∃ z9 : Int, g1 a0 9 = .int (iI z9) ∧ -2147483648 ≤ z9 ∧ z9 ≤ 2147483647 ∧ (z9 = -1 ∨ xCo n0 (xv g1 w3))) ∧ (xFr 12300 S g g1 w3)) := by
  refine xEnterV (by decide) (by simp [lg_sl, Value.category]) [(0, .ref a0), (1, .int (iI x1)), (2, .int (iI x2)), (3, .int (iI x3)), (4, .long y4)] rfl ?_
  intro K E hK hret _ _ _
  refine X_iloadn hK (i := 3) 3 kd30_0.1 rfl rfl ?_
  refine X_aloadn hK (i := 0) 0 kd30_0.2.1 rfl rfl ?_
  refine X_getr hK 12600 256 fl_X6_31_7 hs_a0 sl_7_6 kd30_0.2.2.1 (fun b1 eb1 hs_b1 => ?_)
  refine X_iloadn hK (i := 2) 2 kd30_0.2.2.2.1 rfl rfl ?_
  refine X_iald hK hs_b1 (by decide) sl_12600 (by omega) (by omega) kd30_0.2.2.2.2.1 (fun z2 ez2 lz2 uz2 => ?_)
  refine X_iadd hK kd30_0.2.2.2.2.2.1 ?_
  refine X_norm (fun z3 ez3 lz3 uz3 => ?_)
  refine X_aloadn hK (i := 0) 0 kd30_0.2.2.2.2.2.2.1 rfl rfl ?_
  refine X_getK hK fl_X6_42_7 hs_a0 em0 kd30_0.2.2.2.2.2.2.2.1 ?_
  refine X_icmp_gt hK 16 (by omega) (by omega) kd30_0.2.2.2.2.2.2.2.2.1 (by decide) (fun c4 => ?_) (fun c4 => ?_)
  · refine X_iloadn hK (i := 1) 1 kd30_0.2.2.2.2.2.2.2.2.2.2.1 rfl rfl ?_
    refine X_aloadn hK (i := 0) 0 kd30_0.2.2.2.2.2.2.2.2.2.2.2 rfl rfl ?_
    refine X_getK hK fl_X6_9_7 hs_a0 en0 kd30_1.1 ?_
    refine X_icmp_ne hK 62 (by omega) (by omega) kd30_1.2.1 (by decide) (fun c5 => ?_) (fun c5 => ?_)
    · refine X_iconst hK kd30_2.2.2.2.2.2.2.2.2.2.2.1 ?_
      refine X_istore hK (i := 6) [(6, .int (iI 0)), (0, .ref a0), (1, .int (iI x1)), (2, .int (iI x2)), (3, .int (iI x3)), (4, .long y4)] kd30_2.2.2.2.2.2.2.2.2.2.2.2 (by decide) rfl ?_
      have P161 : ∀ (nP161 : Nat) (g136 : xG) (_ : xM [(12500, 0), (7, 9), (12300, 0)] S g g136) (z135 : Int) (_ : 0 ≤ z135) (_ : z135 ≤ 8) (q137 : Int) (_ : (-2147483648) ≤ q137) (_ : q137 ≤ 2147483647) (_ : g136 a0 9 = .int (iI q137)) (_ : q137 = -1 ∨ xCo n0 (xv g136 w3)) (_ : xFr 12300 S g g136 w3) (_ : 24 - z135 < (nP161 : Int)), X K E 65 [(6, .int (iI z135)), (0, .ref a0), (1, .int (iI x1)), (2, .int (iI x2)), (3, .int (iI x3)), (4, .long y4)] [] S g136 0 0 := by
        intro nP161
        induction nP161 with
        | zero => intro g136 hg136 z135 lz135 uz135 q137 lq137 uq137 eq137 v162 v163 mP161; exact False.elim (by omega)
        | succ nP161 ihP161 =>
          intro g136 hg136 z135 lz135 uz135 q137 lq137 uq137 eq137 v162 v163 mP161
          refine X_iload hK (i := 6) 0 kd30_3.1 rfl ?_
          refine X_aloadn hK (i := 0) 1 kd30_3.2.1 rfl rfl ?_
          refine X_getK hK fl_X6_9_7 hs_a0 ((hg136 a0 7 0 0 hs_a0 (by decide)).trans en0) kd30_3.2.2.1 ?_
          refine X_icmp_ge hK 141 (by omega) (by omega) kd30_3.2.2.2.1 (by decide) (fun c164 => ?_) (fun c164 => ?_)
          · exact hret _ _ _ _ _ _ kd30_6.2.2.2.2.2.2.2.2.2.2.2 ⟨rfl, rfl, ⟨q137, eq137, by omega, by omega, v162⟩, v163⟩ (Nat.le_refl _) (Nat.le_refl _)
          · refine X_iloadn hK (i := 1) 2 kd30_3.2.2.2.2.1 rfl rfl ?_
            refine X_bipush hK kd30_3.2.2.2.2.2.1 (by decide) ?_
            refine X_imul hK kd30_3.2.2.2.2.2.2.1 ?_
            refine X_iload hK (i := 6) 0 kd30_3.2.2.2.2.2.2.2.1 rfl ?_
            refine X_iadd hK kd30_3.2.2.2.2.2.2.2.2.1 ?_
            refine X_istore hK (i := 7) [(7, .int (iI ((x1 * 8) + z135))), (6, .int (iI z135)), (0, .ref a0), (1, .int (iI x1)), (2, .int (iI x2)), (3, .int (iI x3)), (4, .long y4)] kd30_3.2.2.2.2.2.2.2.2.2.1 (by decide) rfl ?_
            refine X_lload hK (i := 4) 6 kd30_3.2.2.2.2.2.2.2.2.2.2.1 rfl ?_
            refine X_iload hK (i := 7) 0 kd30_3.2.2.2.2.2.2.2.2.2.2.2 rfl ?_
            refine X_lushr hK kd30_4.1 (fun y165 => ?_)
            refine X_lconst hK kd30_4.2.1 (fun y166 => ?_)
            refine X_land hK kd30_4.2.2.1 (fun y167 => ?_)
            refine X_lconst hK kd30_4.2.2.2.1 (fun y168 => ?_)
            refine X_lcmp hK kd30_4.2.2.2.2.1 (fun z169 lz169 uz169 => ?_)
            refine X_if_ne hK 135 (by omega) kd30_4.2.2.2.2.2.1 (by decide) (fun c170 => ?_) (fun c170 => ?_)
            · refine X_iinc hK (i := 6) (z := z135) (n := 1) 1 [(6, .int (iI (z135 + 1))), (7, .int (iI ((x1 * 8) + z135))), (0, .ref a0), (1, .int (iI x1)), (2, .int (iI x2)), (3, .int (iI x3)), (4, .long y4)] kd30_6.2.2.2.2.2.2.2.2.2.1 rfl (by decide) rfl ?_
              refine X_goto hK 65 kd30_6.2.2.2.2.2.2.2.2.2.2.1 (by decide) ?_
              refine X_lv [(6, .int (iI (z135 + 1))), (0, .ref a0), (1, .int (iI x1)), (2, .int (iI x2)), (3, .int (iI x3)), (4, .long y4)] [0, 2, 3, 4, 5, 6] rfl ?_
              exact ihP161  g136 (xM.tr xM.rf xLe.rf hg136 (by decide)) (z135 + 1) (by omega) (by omega) q137 (by omega) (by omega) eq137 v162 v163 (by omega)
            · refine X_aloadn hK (i := 0) 2 kd30_4.2.2.2.2.2.2.1 rfl rfl ?_
              refine X_getr hK 12500 8 fl_X6_28_7 hs_a0 sl_7_5 kd30_4.2.2.2.2.2.2.2.1 (fun b171 eb171 hs_b171 => ?_)
              refine X_iloadn hK (i := 1) 3 kd30_4.2.2.2.2.2.2.2.2.1 rfl rfl ?_
              refine X_iload hK (i := 6) 1 kd30_4.2.2.2.2.2.2.2.2.2.1 rfl ?_
              refine X_iast hK hs_b171 (by decide) (by decide) sl_12500 (by omega) (by omega) (by omega) (by omega) kd30_4.2.2.2.2.2.2.2.2.2.2.1 (fun g172 hg172 => ?_)
              refine X_aloadn hK (i := 0) 2 kd30_4.2.2.2.2.2.2.2.2.2.2.2 rfl rfl ?_
              refine X_iloadn hK (i := 1) 3 kd30_5.1 rfl rfl ?_
              refine X_iconst hK kd30_5.2.1 ?_
              refine X_iadd hK kd30_5.2.2.1 ?_
              refine X_iloadn hK (i := 2) 4 kd30_5.2.2.2.1 rfl rfl ?_
              refine X_iconst hK kd30_5.2.2.2.2.1 ?_
              refine X_iload hK (i := 6) 1 kd30_5.2.2.2.2.2.1 rfl ?_
              refine X_ishl hK kd30_5.2.2.2.2.2.2.1 (fun z173 ez173 lz173 uz173 => ?_)
              have bz173 := xshlB 7 ez173 ⟨lz173, uz173⟩ (by omega) (by decide)
              refine X_ior hK kd30_5.2.2.2.2.2.2.2.1 (fun z174 ez174 lz174 uz174 => ?_)
              have bz174 := xiorB 8 ez174 ⟨lz174, uz174⟩ (by omega) (by omega) (by decide)
              refine X_iloadn hK (i := 3) 5 kd30_5.2.2.2.2.2.2.2.2.1 rfl rfl ?_
              refine X_aloadn hK (i := 0) 2 kd30_5.2.2.2.2.2.2.2.2.2.1 rfl rfl ?_
              refine X_getr hK 12100 64 fl_X6_15_7 hs_a0 sl_7_1 kd30_5.2.2.2.2.2.2.2.2.2.2.1 (fun b175 eb175 hs_b175 => ?_)
              refine X_iload hK (i := 7) 0 kd30_5.2.2.2.2.2.2.2.2.2.2.2 rfl ?_
              refine X_iald hK hs_b175 (by decide) sl_12100 (by omega) (by omega) kd30_6.1 (fun z176 ez176 lz176 uz176 => ?_)
              refine X_iadd hK kd30_6.2.1 ?_
              refine X_norm (fun z177 ez177 lz177 uz177 => ?_)
              refine X_lload hK (i := 4) 6 kd30_6.2.2.1 rfl ?_
              refine X_aloadn hK (i := 0) 2 kd30_6.2.2.2.1 rfl rfl ?_
              refine X_getr hK 12802 64 fl_X6_38_7 hs_a0 sl_7_8 kd30_6.2.2.2.2.1 (fun b178 eb178 hs_b178 => ?_)
              refine X_iload hK (i := 7) 0 kd30_6.2.2.2.2.2.1 rfl ?_
              refine X_lald hK hs_b178 (by decide) sl_12802 (by omega) (by omega) kd30_6.2.2.2.2.2.2.1 (fun y179 => ?_)
              refine X_lor hK kd30_6.2.2.2.2.2.2.2.1 (fun y180 => ?_)
              refine X_callV hK [.int (iI (x1 + 1)), .int (iI z174), .int (iI z177), .long y180] [] lk_X6_80 (c2_place_7 _ _ _ _ _ S g172 a0 (x1 + 1) z174 z177 y180 n0 w3 q137 hs_a0 (by omega) (by omega) (by omega) (by omega) ((xs_a hg172 (xne hs_a0 hs_b171 (by decide))).trans ((hg136 a0 7 0 0 hs_a0 (by decide)).trans en0)) ((xs_a hg172 (xne hs_a0 hs_b171 (by decide))).trans ((hg136 a0 7 0 3 hs_a0 (by decide)).trans ew3)) hs_w3 (by omega) ((xs_a hg172 (xne hs_a0 hs_b171 (by decide))).trans eq137) (by rw [(xv_a hg172 (xne hs_w3 hs_b171 (by decide)))]; exact v162)) hs_a0 ⟨by decide, rfl⟩ kd30_6.2.2.2.2.2.2.2.2.1 rfl rfl (by simp [Value.category]) (by decide) (by decide) (by decide) (by decide) (fun r181 S183 g182 pr181 qr181 hg182 => ?_)
              obtain ⟨rfl, rfl, k184, k185⟩ := pr181
              refine X_st [] rfl ?_
              obtain ⟨z186, ez186, lz186, uz186, kz186⟩ := k184
              refine X_iinc hK (i := 6) (z := z135) (n := 1) 1 [(6, .int (iI (z135 + 1))), (7, .int (iI ((x1 * 8) + z135))), (0, .ref a0), (1, .int (iI x1)), (2, .int (iI x2)), (3, .int (iI x3)), (4, .long y4)] kd30_6.2.2.2.2.2.2.2.2.2.1 rfl (by decide) rfl ?_
              refine X_goto hK 65 kd30_6.2.2.2.2.2.2.2.2.2.2.1 (by decide) ?_
              refine X_lv [(6, .int (iI (z135 + 1))), (0, .ref a0), (1, .int (iI x1)), (2, .int (iI x2)), (3, .int (iI x3)), (4, .long y4)] [0, 2, 3, 4, 5, 6] rfl ?_
              exact ihP161  g182 (xM.tr (xM_ua (xM.tr xM.rf xLe.rf hg136 (by decide)) hg172 hs_b171 (by decide) (by decide)) xLe.rf hg182 (by decide)) (z135 + 1) (by omega) (by omega) z186 (by omega) (by omega) ez186 kz186 (xFr.tr (xFr.t v163 hg172 hs_b171 (by decide)) k185) (by omega)
      exact P161 ((24 - 0 : Int).toNat + 1) g xM.rf 0 (by omega) (by omega) m0 (by omega) (by omega) em0 hp0 xFr.rf (by omega)
    · refine X_aloadn hK (i := 0) 0 kd30_1.2.2.1 rfl rfl ?_
      refine X_iloadn hK (i := 3) 3 kd30_1.2.2.2.1 rfl rfl ?_
      refine X_puti hK fl_X6_42_7 hs_a0 (by decide) sl_7_9 (by omega) (by omega) kd30_1.2.2.2.2.1 (fun g187 hg187 => ?_)
      refine X_iconst hK kd30_1.2.2.2.2.2.1 ?_
      refine X_istore hK (i := 6) [(6, .int (iI 0)), (0, .ref a0), (1, .int (iI x1)), (2, .int (iI x2)), (3, .int (iI x3)), (4, .long y4)] kd30_1.2.2.2.2.2.2.1 (by decide) rfl ?_
      have P223 : ∀ (nP223 : Nat) (g218 : xG) (_ : xM [(12300, 0)] S g187 g218) (z217 : Int) (_ : 0 ≤ z217) (_ : z217 ≤ 6) (_ : ∀ k, 0 ≤ k → k < z217 → 0 ≤ xv g218 w3 k) (_ : xFr 12300 S g g218 w3) (_ : 22 - z217 < (nP223 : Int)), X K E 32 [(6, .int (iI z217)), (0, .ref a0), (1, .int (iI x1)), (2, .int (iI x2)), (3, .int (iI x3)), (4, .long y4)] [] S g218 0 0 := by
        intro nP223
        induction nP223 with
        | zero => intro g218 hg218 z217 lz217 uz217 v224 v225 mP223; exact False.elim (by omega)
        | succ nP223 ihP223 =>
          intro g218 hg218 z217 lz217 uz217 v224 v225 mP223
          refine X_iload hK (i := 6) 0 kd30_1.2.2.2.2.2.2.2.1 rfl ?_
          refine X_aloadn hK (i := 0) 1 kd30_1.2.2.2.2.2.2.2.2.1 rfl rfl ?_
          refine X_getK hK fl_X6_9_7 hs_a0 ((hg218 a0 7 0 0 hs_a0 (by decide)).trans ((xs_k hg187 (by decide)).trans en0)) kd30_1.2.2.2.2.2.2.2.2.2.1 ?_
          refine X_icmp_ge hK 61 (by omega) (by omega) kd30_1.2.2.2.2.2.2.2.2.2.2.1 (by decide) (fun c226 => ?_) (fun c226 => ?_)
          · exact hret _ _ _ _ _ _ kd30_2.2.2.2.2.2.2.2.2.2.1 ⟨rfl, rfl, ⟨x3, ((hg218 a0 7 0 9 hs_a0 (by decide)).trans (xs_s hg187)), by omega, by omega, Or.inr (fun k q1 q2 => v224 k q1 (by omega))⟩, v225⟩ (Nat.le_refl _) (Nat.le_refl _)
          · refine X_aloadn hK (i := 0) 1 kd30_1.2.2.2.2.2.2.2.2.2.2.2 rfl rfl ?_
            refine X_getK hK fl_X6_22_7 hs_a0 ((hg218 a0 7 0 3 hs_a0 (by decide)).trans ((xs_k hg187 (by decide)).trans ew3)) kd30_2.1 ?_
            refine X_iload hK (i := 6) 0 kd30_2.2.1 rfl ?_
            refine X_aloadn hK (i := 0) 1 kd30_2.2.2.1 rfl rfl ?_
            refine X_getr hK 12500 8 fl_X6_28_7 hs_a0 sl_7_5 kd30_2.2.2.2.1 (fun b227 eb227 hs_b227 => ?_)
            refine X_iload hK (i := 6) 0 kd30_2.2.2.2.2.1 rfl ?_
            refine X_iald hK hs_b227 (by decide) sl_12500 (by omega) (by omega) kd30_2.2.2.2.2.2.1 (fun z228 ez228 lz228 uz228 => ?_)
            refine X_iast hK hs_w3 (by decide) (by decide) sl_12300 (by omega) (by omega) (by omega) (by omega) kd30_2.2.2.2.2.2.2.1 (fun g229 hg229 => ?_)
            refine X_iinc hK (i := 6) (z := z217) (n := 1) 0 [(6, .int (iI (z217 + 1))), (0, .ref a0), (1, .int (iI x1)), (2, .int (iI x2)), (3, .int (iI x3)), (4, .long y4)] kd30_2.2.2.2.2.2.2.2.1 rfl (by decide) rfl ?_
            refine X_goto hK 32 kd30_2.2.2.2.2.2.2.2.2.1 (by decide) ?_
            exact ihP223  g229 (xM_ua (xM.tr xM.rf xLe.rf hg218 (by decide)) hg229 hs_w3 (by decide) (by decide)) (z217 + 1) (by omega) (by omega) (xpre (P := fun x => 0 ≤ x) v224 (fun i9 hi9 h09 => (show xv g229 w3 i9 = xv g218 w3 i9 from by rw [(xv_k (i := i9) hg229 (by omega) (by omega) (by omega))])) (by rw [show xv g229 w3 z217 = _ from (show xv g229 w3 z217 = z228 from by rw [xv_s hg229 (by omega)])]; omega)) (xFr.w v225 hg229) (by omega)
      exact P223 ((22 - 0 : Int).toNat + 1) g187 xM.rf 0 (by omega) (by omega) (fun k q1 q2 => by omega) (xFr.t xFr.rf hg187 hs_a0 (by decide)) (by omega)
  · exact hret _ _ _ _ _ _ kd30_0.2.2.2.2.2.2.2.2.2.1 ⟨rfl, rfl, ⟨m0, em0, by omega, by omega, hp0⟩, xFr.rf⟩ (Nat.le_refl _) (Nat.le_refl _)

set_option maxHeartbeats 4000000 in
set_option maxRecDepth 100000 in
theorem c2_place_5 (l : Launch) (D : va_G) (kA : Nat → ClassId) (b0 : Nat) (t0 : Nat → Nat) (S : xT) (g : xG) (a0 : Nat) (x1 : Int) (x2 : Int) (x3 : Int) (y4 : Int64) (n0 : Int) (w3 : Nat) (m0 : Int) (hs_a0 : S a0 = some (7, 0)) (hx1 : 5 ≤ x1 ∧ x1 ≤ 5) (hx2 : 0 ≤ x2 ∧ x2 ≤ 255) (hx3 : (-2147483648) ≤ x3 ∧ x3 ≤ 2147483647) (hn0 : 5 ≤ n0 ∧ n0 ≤ 8) (en0 : g a0 0 = .int (iI n0)) (ew3 : g a0 3 = .ref w3) (hs_w3 : S w3 = some (12300, 8)) (hm0 : (-2147483648) ≤ m0 ∧ m0 ≤ 2147483647) (em0 : g a0 9 = .int (iI m0)) (hp0 : m0 = -1 ∨ xCo n0 (xv g w3)) : xMt l yX6_place cX6_place 8 none 3 0 0 81 D kA b0 t0 [(12500, 0), (7, 9), (12300, 0)] [.ref a0, .int (iI x1), .int (iI x2), .int (iI x3), .long y4] S g (fun (r : Option Value) (S1 : xT) (g1 : xG) => S = S1 ∧ r = none ∧ (∃ z9 : Int, g1 a0 9 = .int (iI z9) ∧ -2147483648 ≤ z9 ∧ z9 ≤ 2147483647 ∧ (z9 = -1 ∨ xCo n0 (xv g1 w3))) ∧ (xFr 12300 S g g1 w3)) := by
  refine xEnterV (by decide) (by simp [lg_sl, Value.category]) [(0, .ref a0), (1, .int (iI x1)), (2, .int (iI x2)), (3, .int (iI x3)), (4, .long y4)] rfl ?_
  intro K E hK hret _ _ _
  refine X_iloadn hK (i := 3) 3 kd30_0.1 rfl rfl ?_
  refine X_aloadn hK (i := 0) 0 kd30_0.2.1 rfl rfl ?_
  refine X_getr hK 12600 256 fl_X6_31_7 hs_a0 sl_7_6 kd30_0.2.2.1 (fun b1 eb1 hs_b1 => ?_)
  refine X_iloadn hK (i := 2) 2 kd30_0.2.2.2.1 rfl rfl ?_
  refine X_iald hK hs_b1 (by decide) sl_12600 (by omega) (by omega) kd30_0.2.2.2.2.1 (fun z2 ez2 lz2 uz2 => ?_)
  refine X_iadd hK kd30_0.2.2.2.2.2.1 ?_
  refine X_norm (fun z3 ez3 lz3 uz3 => ?_)
  refine X_aloadn hK (i := 0) 0 kd30_0.2.2.2.2.2.2.1 rfl rfl ?_
  refine X_getK hK fl_X6_42_7 hs_a0 em0 kd30_0.2.2.2.2.2.2.2.1 ?_
  refine X_icmp_gt hK 16 (by omega) (by omega) kd30_0.2.2.2.2.2.2.2.2.1 (by decide) (fun c4 => ?_) (fun c4 => ?_)
  · refine X_iloadn hK (i := 1) 1 kd30_0.2.2.2.2.2.2.2.2.2.2.1 rfl rfl ?_
    refine X_aloadn hK (i := 0) 0 kd30_0.2.2.2.2.2.2.2.2.2.2.2 rfl rfl ?_
    refine X_getK hK fl_X6_9_7 hs_a0 en0 kd30_1.1 ?_
    refine X_icmp_ne hK 62 (by omega) (by omega) kd30_1.2.1 (by decide) (fun c5 => ?_) (fun c5 => ?_)
    · refine X_iconst hK kd30_2.2.2.2.2.2.2.2.2.2.2.1 ?_
      refine X_istore hK (i := 6) [(6, .int (iI 0)), (0, .ref a0), (1, .int (iI x1)), (2, .int (iI x2)), (3, .int (iI x3)), (4, .long y4)] kd30_2.2.2.2.2.2.2.2.2.2.2.2 (by decide) rfl ?_
      have P161 : ∀ (nP161 : Nat) (g136 : xG) (_ : xM [(12500, 0), (7, 9), (12300, 0)] S g g136) (z135 : Int) (_ : 0 ≤ z135) (_ : z135 ≤ 8) (q137 : Int) (_ : (-2147483648) ≤ q137) (_ : q137 ≤ 2147483647) (_ : g136 a0 9 = .int (iI q137)) (_ : q137 = -1 ∨ xCo n0 (xv g136 w3)) (_ : xFr 12300 S g g136 w3) (_ : 24 - z135 < (nP161 : Int)), X K E 65 [(6, .int (iI z135)), (0, .ref a0), (1, .int (iI x1)), (2, .int (iI x2)), (3, .int (iI x3)), (4, .long y4)] [] S g136 0 0 := by
        intro nP161
        induction nP161 with
        | zero => intro g136 hg136 z135 lz135 uz135 q137 lq137 uq137 eq137 v162 v163 mP161; exact False.elim (by omega)
        | succ nP161 ihP161 =>
          intro g136 hg136 z135 lz135 uz135 q137 lq137 uq137 eq137 v162 v163 mP161
          refine X_iload hK (i := 6) 0 kd30_3.1 rfl ?_
          refine X_aloadn hK (i := 0) 1 kd30_3.2.1 rfl rfl ?_
          refine X_getK hK fl_X6_9_7 hs_a0 ((hg136 a0 7 0 0 hs_a0 (by decide)).trans en0) kd30_3.2.2.1 ?_
          refine X_icmp_ge hK 141 (by omega) (by omega) kd30_3.2.2.2.1 (by decide) (fun c164 => ?_) (fun c164 => ?_)
          · exact hret _ _ _ _ _ _ kd30_6.2.2.2.2.2.2.2.2.2.2.2 ⟨rfl, rfl, ⟨q137, eq137, by omega, by omega, v162⟩, v163⟩ (Nat.le_refl _) (Nat.le_refl _)
          · refine X_iloadn hK (i := 1) 2 kd30_3.2.2.2.2.1 rfl rfl ?_
            refine X_bipush hK kd30_3.2.2.2.2.2.1 (by decide) ?_
            refine X_imul hK kd30_3.2.2.2.2.2.2.1 ?_
            refine X_iload hK (i := 6) 0 kd30_3.2.2.2.2.2.2.2.1 rfl ?_
            refine X_iadd hK kd30_3.2.2.2.2.2.2.2.2.1 ?_
            refine X_istore hK (i := 7) [(7, .int (iI ((x1 * 8) + z135))), (6, .int (iI z135)), (0, .ref a0), (1, .int (iI x1)), (2, .int (iI x2)), (3, .int (iI x3)), (4, .long y4)] kd30_3.2.2.2.2.2.2.2.2.2.1 (by decide) rfl ?_
            refine X_lload hK (i := 4) 6 kd30_3.2.2.2.2.2.2.2.2.2.2.1 rfl ?_
            refine X_iload hK (i := 7) 0 kd30_3.2.2.2.2.2.2.2.2.2.2.2 rfl ?_
            refine X_lushr hK kd30_4.1 (fun y165 => ?_)
            refine X_lconst hK kd30_4.2.1 (fun y166 => ?_)
            refine X_land hK kd30_4.2.2.1 (fun y167 => ?_)
            refine X_lconst hK kd30_4.2.2.2.1 (fun y168 => ?_)
            refine X_lcmp hK kd30_4.2.2.2.2.1 (fun z169 lz169 uz169 => ?_)
            refine X_if_ne hK 135 (by omega) kd30_4.2.2.2.2.2.1 (by decide) (fun c170 => ?_) (fun c170 => ?_)
            · refine X_iinc hK (i := 6) (z := z135) (n := 1) 1 [(6, .int (iI (z135 + 1))), (7, .int (iI ((x1 * 8) + z135))), (0, .ref a0), (1, .int (iI x1)), (2, .int (iI x2)), (3, .int (iI x3)), (4, .long y4)] kd30_6.2.2.2.2.2.2.2.2.2.1 rfl (by decide) rfl ?_
              refine X_goto hK 65 kd30_6.2.2.2.2.2.2.2.2.2.2.1 (by decide) ?_
              refine X_lv [(6, .int (iI (z135 + 1))), (0, .ref a0), (1, .int (iI x1)), (2, .int (iI x2)), (3, .int (iI x3)), (4, .long y4)] [0, 2, 3, 4, 5, 6] rfl ?_
              exact ihP161  g136 (xM.tr xM.rf xLe.rf hg136 (by decide)) (z135 + 1) (by omega) (by omega) q137 (by omega) (by omega) eq137 v162 v163 (by omega)
            · refine X_aloadn hK (i := 0) 2 kd30_4.2.2.2.2.2.2.1 rfl rfl ?_
              refine X_getr hK 12500 8 fl_X6_28_7 hs_a0 sl_7_5 kd30_4.2.2.2.2.2.2.2.1 (fun b171 eb171 hs_b171 => ?_)
              refine X_iloadn hK (i := 1) 3 kd30_4.2.2.2.2.2.2.2.2.1 rfl rfl ?_
              refine X_iload hK (i := 6) 1 kd30_4.2.2.2.2.2.2.2.2.2.1 rfl ?_
              refine X_iast hK hs_b171 (by decide) (by decide) sl_12500 (by omega) (by omega) (by omega) (by omega) kd30_4.2.2.2.2.2.2.2.2.2.2.1 (fun g172 hg172 => ?_)
              refine X_aloadn hK (i := 0) 2 kd30_4.2.2.2.2.2.2.2.2.2.2.2 rfl rfl ?_
              refine X_iloadn hK (i := 1) 3 kd30_5.1 rfl rfl ?_
              refine X_iconst hK kd30_5.2.1 ?_
              refine X_iadd hK kd30_5.2.2.1 ?_
              refine X_iloadn hK (i := 2) 4 kd30_5.2.2.2.1 rfl rfl ?_
              refine X_iconst hK kd30_5.2.2.2.2.1 ?_
              refine X_iload hK (i := 6) 1 kd30_5.2.2.2.2.2.1 rfl ?_
              refine X_ishl hK kd30_5.2.2.2.2.2.2.1 (fun z173 ez173 lz173 uz173 => ?_)
              have bz173 := xshlB 7 ez173 ⟨lz173, uz173⟩ (by omega) (by decide)
              refine X_ior hK kd30_5.2.2.2.2.2.2.2.1 (fun z174 ez174 lz174 uz174 => ?_)
              have bz174 := xiorB 8 ez174 ⟨lz174, uz174⟩ (by omega) (by omega) (by decide)
              refine X_iloadn hK (i := 3) 5 kd30_5.2.2.2.2.2.2.2.2.1 rfl rfl ?_
              refine X_aloadn hK (i := 0) 2 kd30_5.2.2.2.2.2.2.2.2.2.1 rfl rfl ?_
              refine X_getr hK 12100 64 fl_X6_15_7 hs_a0 sl_7_1 kd30_5.2.2.2.2.2.2.2.2.2.2.1 (fun b175 eb175 hs_b175 => ?_)
              refine X_iload hK (i := 7) 0 kd30_5.2.2.2.2.2.2.2.2.2.2.2 rfl ?_
              refine X_iald hK hs_b175 (by decide) sl_12100 (by omega) (by omega) kd30_6.1 (fun z176 ez176 lz176 uz176 => ?_)
              refine X_iadd hK kd30_6.2.1 ?_
              refine X_norm (fun z177 ez177 lz177 uz177 => ?_)
              refine X_lload hK (i := 4) 6 kd30_6.2.2.1 rfl ?_
              refine X_aloadn hK (i := 0) 2 kd30_6.2.2.2.1 rfl rfl ?_
              refine X_getr hK 12802 64 fl_X6_38_7 hs_a0 sl_7_8 kd30_6.2.2.2.2.1 (fun b178 eb178 hs_b178 => ?_)
              refine X_iload hK (i := 7) 0 kd30_6.2.2.2.2.2.1 rfl ?_
              refine X_lald hK hs_b178 (by decide) sl_12802 (by omega) (by omega) kd30_6.2.2.2.2.2.2.1 (fun y179 => ?_)
              refine X_lor hK kd30_6.2.2.2.2.2.2.2.1 (fun y180 => ?_)
              refine X_callV hK [.int (iI (x1 + 1)), .int (iI z174), .int (iI z177), .long y180] [] lk_X6_80 (c2_place_6 _ _ _ _ _ S g172 a0 (x1 + 1) z174 z177 y180 n0 w3 q137 hs_a0 (by omega) (by omega) (by omega) (by omega) ((xs_a hg172 (xne hs_a0 hs_b171 (by decide))).trans ((hg136 a0 7 0 0 hs_a0 (by decide)).trans en0)) ((xs_a hg172 (xne hs_a0 hs_b171 (by decide))).trans ((hg136 a0 7 0 3 hs_a0 (by decide)).trans ew3)) hs_w3 (by omega) ((xs_a hg172 (xne hs_a0 hs_b171 (by decide))).trans eq137) (by rw [(xv_a hg172 (xne hs_w3 hs_b171 (by decide)))]; exact v162)) hs_a0 ⟨by decide, rfl⟩ kd30_6.2.2.2.2.2.2.2.2.1 rfl rfl (by simp [Value.category]) (by decide) (by decide) (by decide) (by decide) (fun r181 S183 g182 pr181 qr181 hg182 => ?_)
              obtain ⟨rfl, rfl, k184, k185⟩ := pr181
              refine X_st [] rfl ?_
              obtain ⟨z186, ez186, lz186, uz186, kz186⟩ := k184
              refine X_iinc hK (i := 6) (z := z135) (n := 1) 1 [(6, .int (iI (z135 + 1))), (7, .int (iI ((x1 * 8) + z135))), (0, .ref a0), (1, .int (iI x1)), (2, .int (iI x2)), (3, .int (iI x3)), (4, .long y4)] kd30_6.2.2.2.2.2.2.2.2.2.1 rfl (by decide) rfl ?_
              refine X_goto hK 65 kd30_6.2.2.2.2.2.2.2.2.2.2.1 (by decide) ?_
              refine X_lv [(6, .int (iI (z135 + 1))), (0, .ref a0), (1, .int (iI x1)), (2, .int (iI x2)), (3, .int (iI x3)), (4, .long y4)] [0, 2, 3, 4, 5, 6] rfl ?_
              exact ihP161  g182 (xM.tr (xM_ua (xM.tr xM.rf xLe.rf hg136 (by decide)) hg172 hs_b171 (by decide) (by decide)) xLe.rf hg182 (by decide)) (z135 + 1) (by omega) (by omega) z186 (by omega) (by omega) ez186 kz186 (xFr.tr (xFr.t v163 hg172 hs_b171 (by decide)) k185) (by omega)
      exact P161 ((24 - 0 : Int).toNat + 1) g xM.rf 0 (by omega) (by omega) m0 (by omega) (by omega) em0 hp0 xFr.rf (by omega)
    · refine X_aloadn hK (i := 0) 0 kd30_1.2.2.1 rfl rfl ?_
      refine X_iloadn hK (i := 3) 3 kd30_1.2.2.2.1 rfl rfl ?_
      refine X_puti hK fl_X6_42_7 hs_a0 (by decide) sl_7_9 (by omega) (by omega) kd30_1.2.2.2.2.1 (fun g187 hg187 => ?_)
      refine X_iconst hK kd30_1.2.2.2.2.2.1 ?_
      refine X_istore hK (i := 6) [(6, .int (iI 0)), (0, .ref a0), (1, .int (iI x1)), (2, .int (iI x2)), (3, .int (iI x3)), (4, .long y4)] kd30_1.2.2.2.2.2.2.1 (by decide) rfl ?_
      have P223 : ∀ (nP223 : Nat) (g218 : xG) (_ : xM [(12300, 0)] S g187 g218) (z217 : Int) (_ : 0 ≤ z217) (_ : z217 ≤ 5) (_ : ∀ k, 0 ≤ k → k < z217 → 0 ≤ xv g218 w3 k) (_ : xFr 12300 S g g218 w3) (_ : 21 - z217 < (nP223 : Int)), X K E 32 [(6, .int (iI z217)), (0, .ref a0), (1, .int (iI x1)), (2, .int (iI x2)), (3, .int (iI x3)), (4, .long y4)] [] S g218 0 0 := by
        intro nP223
        induction nP223 with
        | zero => intro g218 hg218 z217 lz217 uz217 v224 v225 mP223; exact False.elim (by omega)
        | succ nP223 ihP223 =>
          intro g218 hg218 z217 lz217 uz217 v224 v225 mP223
          refine X_iload hK (i := 6) 0 kd30_1.2.2.2.2.2.2.2.1 rfl ?_
          refine X_aloadn hK (i := 0) 1 kd30_1.2.2.2.2.2.2.2.2.1 rfl rfl ?_
          refine X_getK hK fl_X6_9_7 hs_a0 ((hg218 a0 7 0 0 hs_a0 (by decide)).trans ((xs_k hg187 (by decide)).trans en0)) kd30_1.2.2.2.2.2.2.2.2.2.1 ?_
          refine X_icmp_ge hK 61 (by omega) (by omega) kd30_1.2.2.2.2.2.2.2.2.2.2.1 (by decide) (fun c226 => ?_) (fun c226 => ?_)
          · exact hret _ _ _ _ _ _ kd30_2.2.2.2.2.2.2.2.2.2.1 ⟨rfl, rfl, ⟨x3, ((hg218 a0 7 0 9 hs_a0 (by decide)).trans (xs_s hg187)), by omega, by omega, Or.inr (fun k q1 q2 => v224 k q1 (by omega))⟩, v225⟩ (Nat.le_refl _) (Nat.le_refl _)
          · refine X_aloadn hK (i := 0) 1 kd30_1.2.2.2.2.2.2.2.2.2.2.2 rfl rfl ?_
            refine X_getK hK fl_X6_22_7 hs_a0 ((hg218 a0 7 0 3 hs_a0 (by decide)).trans ((xs_k hg187 (by decide)).trans ew3)) kd30_2.1 ?_
            refine X_iload hK (i := 6) 0 kd30_2.2.1 rfl ?_
            refine X_aloadn hK (i := 0) 1 kd30_2.2.2.1 rfl rfl ?_
            refine X_getr hK 12500 8 fl_X6_28_7 hs_a0 sl_7_5 kd30_2.2.2.2.1 (fun b227 eb227 hs_b227 => ?_)
            refine X_iload hK (i := 6) 0 kd30_2.2.2.2.2.1 rfl ?_
            refine X_iald hK hs_b227 (by decide) sl_12500 (by omega) (by omega) kd30_2.2.2.2.2.2.1 (fun z228 ez228 lz228 uz228 => ?_)
            refine X_iast hK hs_w3 (by decide) (by decide) sl_12300 (by omega) (by omega) (by omega) (by omega) kd30_2.2.2.2.2.2.2.1 (fun g229 hg229 => ?_)
            refine X_iinc hK (i := 6) (z := z217) (n := 1) 0 [(6, .int (iI (z217 + 1))), (0, .ref a0), (1, .int (iI x1)), (2, .int (iI x2)), (3, .int (iI x3)), (4, .long y4)] kd30_2.2.2.2.2.2.2.2.1 rfl (by decide) rfl ?_
            refine X_goto hK 32 kd30_2.2.2.2.2.2.2.2.2.1 (by decide) ?_
            exact ihP223  g229 (xM_ua (xM.tr xM.rf xLe.rf hg218 (by decide)) hg229 hs_w3 (by decide) (by decide)) (z217 + 1) (by omega) (by omega) (xpre (P := fun x => 0 ≤ x) v224 (fun i9 hi9 h09 => (show xv g229 w3 i9 = xv g218 w3 i9 from by rw [(xv_k (i := i9) hg229 (by omega) (by omega) (by omega))])) (by rw [show xv g229 w3 z217 = _ from (show xv g229 w3 z217 = z228 from by rw [xv_s hg229 (by omega)])]; omega)) (xFr.w v225 hg229) (by omega)
      exact P223 ((21 - 0 : Int).toNat + 1) g187 xM.rf 0 (by omega) (by omega) (fun k q1 q2 => by omega) (xFr.t xFr.rf hg187 hs_a0 (by decide)) (by omega)
  · exact hret _ _ _ _ _ _ kd30_0.2.2.2.2.2.2.2.2.2.1 ⟨rfl, rfl, ⟨m0, em0, by omega, by omega, hp0⟩, xFr.rf⟩ (Nat.le_refl _) (Nat.le_refl _)

set_option maxHeartbeats 4000000 in
set_option maxRecDepth 100000 in
theorem c2_place_4 (l : Launch) (D : va_G) (kA : Nat → ClassId) (b0 : Nat) (t0 : Nat → Nat) (S : xT) (g : xG) (a0 : Nat) (x1 : Int) (x2 : Int) (x3 : Int) (y4 : Int64) (n0 : Int) (w3 : Nat) (m0 : Int) (hs_a0 : S a0 = some (7, 0)) (hx1 : 4 ≤ x1 ∧ x1 ≤ 4) (hx2 : 0 ≤ x2 ∧ x2 ≤ 255) (hx3 : (-2147483648) ≤ x3 ∧ x3 ≤ 2147483647) (hn0 : 4 ≤ n0 ∧ n0 ≤ 8) (en0 : g a0 0 = .int (iI n0)) (ew3 : g a0 3 = .ref w3) (hs_w3 : S w3 = some (12300, 8)) (hm0 : (-2147483648) ≤ m0 ∧ m0 ≤ 2147483647) (em0 : g a0 9 = .int (iI m0)) (hp0 : m0 = -1 ∨ xCo n0 (xv g w3)) : xMt l yX6_place cX6_place 8 none 4 0 0 108 D kA b0 t0 [(12500, 0), (7, 9), (12300, 0)] [.ref a0, .int (iI x1), .int (iI x2), .int (iI x3), .long y4] S g (fun (r : Option Value) (S1 : xT) (g1 : xG) => S = S1 ∧ r = none ∧ (∃ z9 : Int, g1 a0 9 = .int (iI z9) ∧ -2147483648 ≤ z9 ∧ z9 ≤ 2147483647 ∧ (z9 = -1 ∨ xCo n0 (xv g1 w3))) ∧ (xFr 12300 S g g1 w3)) := by
  refine xEnterV (by decide) (by simp [lg_sl, Value.category]) [(0, .ref a0), (1, .int (iI x1)), (2, .int (iI x2)), (3, .int (iI x3)), (4, .long y4)] rfl ?_
  intro K E hK hret _ _ _
  refine X_iloadn hK (i := 3) 3 kd30_0.1 rfl rfl ?_
  refine X_aloadn hK (i := 0) 0 kd30_0.2.1 rfl rfl ?_
  refine X_getr hK 12600 256 fl_X6_31_7 hs_a0 sl_7_6 kd30_0.2.2.1 (fun b1 eb1 hs_b1 => ?_)
  refine X_iloadn hK (i := 2) 2 kd30_0.2.2.2.1 rfl rfl ?_
  refine X_iald hK hs_b1 (by decide) sl_12600 (by omega) (by omega) kd30_0.2.2.2.2.1 (fun z2 ez2 lz2 uz2 => ?_)
  refine X_iadd hK kd30_0.2.2.2.2.2.1 ?_
  refine X_norm (fun z3 ez3 lz3 uz3 => ?_)
  refine X_aloadn hK (i := 0) 0 kd30_0.2.2.2.2.2.2.1 rfl rfl ?_
  refine X_getK hK fl_X6_42_7 hs_a0 em0 kd30_0.2.2.2.2.2.2.2.1 ?_
  refine X_icmp_gt hK 16 (by omega) (by omega) kd30_0.2.2.2.2.2.2.2.2.1 (by decide) (fun c4 => ?_) (fun c4 => ?_)
  · refine X_iloadn hK (i := 1) 1 kd30_0.2.2.2.2.2.2.2.2.2.2.1 rfl rfl ?_
    refine X_aloadn hK (i := 0) 0 kd30_0.2.2.2.2.2.2.2.2.2.2.2 rfl rfl ?_
    refine X_getK hK fl_X6_9_7 hs_a0 en0 kd30_1.1 ?_
    refine X_icmp_ne hK 62 (by omega) (by omega) kd30_1.2.1 (by decide) (fun c5 => ?_) (fun c5 => ?_)
    · refine X_iconst hK kd30_2.2.2.2.2.2.2.2.2.2.2.1 ?_
      refine X_istore hK (i := 6) [(6, .int (iI 0)), (0, .ref a0), (1, .int (iI x1)), (2, .int (iI x2)), (3, .int (iI x3)), (4, .long y4)] kd30_2.2.2.2.2.2.2.2.2.2.2.2 (by decide) rfl ?_
      have P161 : ∀ (nP161 : Nat) (g136 : xG) (_ : xM [(12500, 0), (7, 9), (12300, 0)] S g g136) (z135 : Int) (_ : 0 ≤ z135) (_ : z135 ≤ 8) (q137 : Int) (_ : (-2147483648) ≤ q137) (_ : q137 ≤ 2147483647) (_ : g136 a0 9 = .int (iI q137)) (_ : q137 = -1 ∨ xCo n0 (xv g136 w3)) (_ : xFr 12300 S g g136 w3) (_ : 24 - z135 < (nP161 : Int)), X K E 65 [(6, .int (iI z135)), (0, .ref a0), (1, .int (iI x1)), (2, .int (iI x2)), (3, .int (iI x3)), (4, .long y4)] [] S g136 0 0 := by
        intro nP161
        induction nP161 with
        | zero => intro g136 hg136 z135 lz135 uz135 q137 lq137 uq137 eq137 v162 v163 mP161; exact False.elim (by omega)
        | succ nP161 ihP161 =>
          intro g136 hg136 z135 lz135 uz135 q137 lq137 uq137 eq137 v162 v163 mP161
          refine X_iload hK (i := 6) 0 kd30_3.1 rfl ?_
          refine X_aloadn hK (i := 0) 1 kd30_3.2.1 rfl rfl ?_
          refine X_getK hK fl_X6_9_7 hs_a0 ((hg136 a0 7 0 0 hs_a0 (by decide)).trans en0) kd30_3.2.2.1 ?_
          refine X_icmp_ge hK 141 (by omega) (by omega) kd30_3.2.2.2.1 (by decide) (fun c164 => ?_) (fun c164 => ?_)
          · exact hret _ _ _ _ _ _ kd30_6.2.2.2.2.2.2.2.2.2.2.2 ⟨rfl, rfl, ⟨q137, eq137, by omega, by omega, v162⟩, v163⟩ (Nat.le_refl _) (Nat.le_refl _)
          · refine X_iloadn hK (i := 1) 2 kd30_3.2.2.2.2.1 rfl rfl ?_
            refine X_bipush hK kd30_3.2.2.2.2.2.1 (by decide) ?_
            refine X_imul hK kd30_3.2.2.2.2.2.2.1 ?_
            refine X_iload hK (i := 6) 0 kd30_3.2.2.2.2.2.2.2.1 rfl ?_
            refine X_iadd hK kd30_3.2.2.2.2.2.2.2.2.1 ?_
            refine X_istore hK (i := 7) [(7, .int (iI ((x1 * 8) + z135))), (6, .int (iI z135)), (0, .ref a0), (1, .int (iI x1)), (2, .int (iI x2)), (3, .int (iI x3)), (4, .long y4)] kd30_3.2.2.2.2.2.2.2.2.2.1 (by decide) rfl ?_
            refine X_lload hK (i := 4) 6 kd30_3.2.2.2.2.2.2.2.2.2.2.1 rfl ?_
            refine X_iload hK (i := 7) 0 kd30_3.2.2.2.2.2.2.2.2.2.2.2 rfl ?_
            refine X_lushr hK kd30_4.1 (fun y165 => ?_)
            refine X_lconst hK kd30_4.2.1 (fun y166 => ?_)
            refine X_land hK kd30_4.2.2.1 (fun y167 => ?_)
            refine X_lconst hK kd30_4.2.2.2.1 (fun y168 => ?_)
            refine X_lcmp hK kd30_4.2.2.2.2.1 (fun z169 lz169 uz169 => ?_)
            refine X_if_ne hK 135 (by omega) kd30_4.2.2.2.2.2.1 (by decide) (fun c170 => ?_) (fun c170 => ?_)
            · refine X_iinc hK (i := 6) (z := z135) (n := 1) 1 [(6, .int (iI (z135 + 1))), (7, .int (iI ((x1 * 8) + z135))), (0, .ref a0), (1, .int (iI x1)), (2, .int (iI x2)), (3, .int (iI x3)), (4, .long y4)] kd30_6.2.2.2.2.2.2.2.2.2.1 rfl (by decide) rfl ?_
              refine X_goto hK 65 kd30_6.2.2.2.2.2.2.2.2.2.2.1 (by decide) ?_
              refine X_lv [(6, .int (iI (z135 + 1))), (0, .ref a0), (1, .int (iI x1)), (2, .int (iI x2)), (3, .int (iI x3)), (4, .long y4)] [0, 2, 3, 4, 5, 6] rfl ?_
              exact ihP161  g136 (xM.tr xM.rf xLe.rf hg136 (by decide)) (z135 + 1) (by omega) (by omega) q137 (by omega) (by omega) eq137 v162 v163 (by omega)
            · refine X_aloadn hK (i := 0) 2 kd30_4.2.2.2.2.2.2.1 rfl rfl ?_
              refine X_getr hK 12500 8 fl_X6_28_7 hs_a0 sl_7_5 kd30_4.2.2.2.2.2.2.2.1 (fun b171 eb171 hs_b171 => ?_)
              refine X_iloadn hK (i := 1) 3 kd30_4.2.2.2.2.2.2.2.2.1 rfl rfl ?_
              refine X_iload hK (i := 6) 1 kd30_4.2.2.2.2.2.2.2.2.2.1 rfl ?_
              refine X_iast hK hs_b171 (by decide) (by decide) sl_12500 (by omega) (by omega) (by omega) (by omega) kd30_4.2.2.2.2.2.2.2.2.2.2.1 (fun g172 hg172 => ?_)
              refine X_aloadn hK (i := 0) 2 kd30_4.2.2.2.2.2.2.2.2.2.2.2 rfl rfl ?_
              refine X_iloadn hK (i := 1) 3 kd30_5.1 rfl rfl ?_
              refine X_iconst hK kd30_5.2.1 ?_
              refine X_iadd hK kd30_5.2.2.1 ?_
              refine X_iloadn hK (i := 2) 4 kd30_5.2.2.2.1 rfl rfl ?_
              refine X_iconst hK kd30_5.2.2.2.2.1 ?_
              refine X_iload hK (i := 6) 1 kd30_5.2.2.2.2.2.1 rfl ?_
              refine X_ishl hK kd30_5.2.2.2.2.2.2.1 (fun z173 ez173 lz173 uz173 => ?_)
              have bz173 := xshlB 7 ez173 ⟨lz173, uz173⟩ (by omega) (by decide)
              refine X_ior hK kd30_5.2.2.2.2.2.2.2.1 (fun z174 ez174 lz174 uz174 => ?_)
              have bz174 := xiorB 8 ez174 ⟨lz174, uz174⟩ (by omega) (by omega) (by decide)
              refine X_iloadn hK (i := 3) 5 kd30_5.2.2.2.2.2.2.2.2.1 rfl rfl ?_
              refine X_aloadn hK (i := 0) 2 kd30_5.2.2.2.2.2.2.2.2.2.1 rfl rfl ?_
              refine X_getr hK 12100 64 fl_X6_15_7 hs_a0 sl_7_1 kd30_5.2.2.2.2.2.2.2.2.2.2.1 (fun b175 eb175 hs_b175 => ?_)
              refine X_iload hK (i := 7) 0 kd30_5.2.2.2.2.2.2.2.2.2.2.2 rfl ?_
              refine X_iald hK hs_b175 (by decide) sl_12100 (by omega) (by omega) kd30_6.1 (fun z176 ez176 lz176 uz176 => ?_)
              refine X_iadd hK kd30_6.2.1 ?_
              refine X_norm (fun z177 ez177 lz177 uz177 => ?_)
              refine X_lload hK (i := 4) 6 kd30_6.2.2.1 rfl ?_
              refine X_aloadn hK (i := 0) 2 kd30_6.2.2.2.1 rfl rfl ?_
              refine X_getr hK 12802 64 fl_X6_38_7 hs_a0 sl_7_8 kd30_6.2.2.2.2.1 (fun b178 eb178 hs_b178 => ?_)
              refine X_iload hK (i := 7) 0 kd30_6.2.2.2.2.2.1 rfl ?_
              refine X_lald hK hs_b178 (by decide) sl_12802 (by omega) (by omega) kd30_6.2.2.2.2.2.2.1 (fun y179 => ?_)
              refine X_lor hK kd30_6.2.2.2.2.2.2.2.1 (fun y180 => ?_)
              refine X_callV hK [.int (iI (x1 + 1)), .int (iI z174), .int (iI z177), .long y180] [] lk_X6_80 (c2_place_5 _ _ _ _ _ S g172 a0 (x1 + 1) z174 z177 y180 n0 w3 q137 hs_a0 (by omega) (by omega) (by omega) (by omega) ((xs_a hg172 (xne hs_a0 hs_b171 (by decide))).trans ((hg136 a0 7 0 0 hs_a0 (by decide)).trans en0)) ((xs_a hg172 (xne hs_a0 hs_b171 (by decide))).trans ((hg136 a0 7 0 3 hs_a0 (by decide)).trans ew3)) hs_w3 (by omega) ((xs_a hg172 (xne hs_a0 hs_b171 (by decide))).trans eq137) (by rw [(xv_a hg172 (xne hs_w3 hs_b171 (by decide)))]; exact v162)) hs_a0 ⟨by decide, rfl⟩ kd30_6.2.2.2.2.2.2.2.2.1 rfl rfl (by simp [Value.category]) (by decide) (by decide) (by decide) (by decide) (fun r181 S183 g182 pr181 qr181 hg182 => ?_)
              obtain ⟨rfl, rfl, k184, k185⟩ := pr181
              refine X_st [] rfl ?_
              obtain ⟨z186, ez186, lz186, uz186, kz186⟩ := k184
              refine X_iinc hK (i := 6) (z := z135) (n := 1) 1 [(6, .int (iI (z135 + 1))), (7, .int (iI ((x1 * 8) + z135))), (0, .ref a0), (1, .int (iI x1)), (2, .int (iI x2)), (3, .int (iI x3)), (4, .long y4)] kd30_6.2.2.2.2.2.2.2.2.2.1 rfl (by decide) rfl ?_
              refine X_goto hK 65 kd30_6.2.2.2.2.2.2.2.2.2.2.1 (by decide) ?_
              refine X_lv [(6, .int (iI (z135 + 1))), (0, .ref a0), (1, .int (iI x1)), (2, .int (iI x2)), (3, .int (iI x3)), (4, .long y4)] [0, 2, 3, 4, 5, 6] rfl ?_
              exact ihP161  g182 (xM.tr (xM_ua (xM.tr xM.rf xLe.rf hg136 (by decide)) hg172 hs_b171 (by decide) (by decide)) xLe.rf hg182 (by decide)) (z135 + 1) (by omega) (by omega) z186 (by omega) (by omega) ez186 kz186 (xFr.tr (xFr.t v163 hg172 hs_b171 (by decide)) k185) (by omega)
      exact P161 ((24 - 0 : Int).toNat + 1) g xM.rf 0 (by omega) (by omega) m0 (by omega) (by omega) em0 hp0 xFr.rf (by omega)
    · refine X_aloadn hK (i := 0) 0 kd30_1.2.2.1 rfl rfl ?_
      refine X_iloadn hK (i := 3) 3 kd30_1.2.2.2.1 rfl rfl ?_
      refine X_puti hK fl_X6_42_7 hs_a0 (by decide) sl_7_9 (by omega) (by omega) kd30_1.2.2.2.2.1 (fun g187 hg187 => ?_)
      refine X_iconst hK kd30_1.2.2.2.2.2.1 ?_
      refine X_istore hK (i := 6) [(6, .int (iI 0)), (0, .ref a0), (1, .int (iI x1)), (2, .int (iI x2)), (3, .int (iI x3)), (4, .long y4)] kd30_1.2.2.2.2.2.2.1 (by decide) rfl ?_
      have P223 : ∀ (nP223 : Nat) (g218 : xG) (_ : xM [(12300, 0)] S g187 g218) (z217 : Int) (_ : 0 ≤ z217) (_ : z217 ≤ 4) (_ : ∀ k, 0 ≤ k → k < z217 → 0 ≤ xv g218 w3 k) (_ : xFr 12300 S g g218 w3) (_ : 20 - z217 < (nP223 : Int)), X K E 32 [(6, .int (iI z217)), (0, .ref a0), (1, .int (iI x1)), (2, .int (iI x2)), (3, .int (iI x3)), (4, .long y4)] [] S g218 0 0 := by
        intro nP223
        induction nP223 with
        | zero => intro g218 hg218 z217 lz217 uz217 v224 v225 mP223; exact False.elim (by omega)
        | succ nP223 ihP223 =>
          intro g218 hg218 z217 lz217 uz217 v224 v225 mP223
          refine X_iload hK (i := 6) 0 kd30_1.2.2.2.2.2.2.2.1 rfl ?_
          refine X_aloadn hK (i := 0) 1 kd30_1.2.2.2.2.2.2.2.2.1 rfl rfl ?_
          refine X_getK hK fl_X6_9_7 hs_a0 ((hg218 a0 7 0 0 hs_a0 (by decide)).trans ((xs_k hg187 (by decide)).trans en0)) kd30_1.2.2.2.2.2.2.2.2.2.1 ?_
          refine X_icmp_ge hK 61 (by omega) (by omega) kd30_1.2.2.2.2.2.2.2.2.2.2.1 (by decide) (fun c226 => ?_) (fun c226 => ?_)
          · exact hret _ _ _ _ _ _ kd30_2.2.2.2.2.2.2.2.2.2.1 ⟨rfl, rfl, ⟨x3, ((hg218 a0 7 0 9 hs_a0 (by decide)).trans (xs_s hg187)), by omega, by omega, Or.inr (fun k q1 q2 => v224 k q1 (by omega))⟩, v225⟩ (Nat.le_refl _) (Nat.le_refl _)
          · refine X_aloadn hK (i := 0) 1 kd30_1.2.2.2.2.2.2.2.2.2.2.2 rfl rfl ?_
            refine X_getK hK fl_X6_22_7 hs_a0 ((hg218 a0 7 0 3 hs_a0 (by decide)).trans ((xs_k hg187 (by decide)).trans ew3)) kd30_2.1 ?_
            refine X_iload hK (i := 6) 0 kd30_2.2.1 rfl ?_
            refine X_aloadn hK (i := 0) 1 kd30_2.2.2.1 rfl rfl ?_
            refine X_getr hK 12500 8 fl_X6_28_7 hs_a0 sl_7_5 kd30_2.2.2.2.1 (fun b227 eb227 hs_b227 => ?_)
            refine X_iload hK (i := 6) 0 kd30_2.2.2.2.2.1 rfl ?_
            refine X_iald hK hs_b227 (by decide) sl_12500 (by omega) (by omega) kd30_2.2.2.2.2.2.1 (fun z228 ez228 lz228 uz228 => ?_)
            refine X_iast hK hs_w3 (by decide) (by decide) sl_12300 (by omega) (by omega) (by omega) (by omega) kd30_2.2.2.2.2.2.2.1 (fun g229 hg229 => ?_)
            refine X_iinc hK (i := 6) (z := z217) (n := 1) 0 [(6, .int (iI (z217 + 1))), (0, .ref a0), (1, .int (iI x1)), (2, .int (iI x2)), (3, .int (iI x3)), (4, .long y4)] kd30_2.2.2.2.2.2.2.2.1 rfl (by decide) rfl ?_
            refine X_goto hK 32 kd30_2.2.2.2.2.2.2.2.2.1 (by decide) ?_
            exact ihP223  g229 (xM_ua (xM.tr xM.rf xLe.rf hg218 (by decide)) hg229 hs_w3 (by decide) (by decide)) (z217 + 1) (by omega) (by omega) (xpre (P := fun x => 0 ≤ x) v224 (fun i9 hi9 h09 => (show xv g229 w3 i9 = xv g218 w3 i9 from by rw [(xv_k (i := i9) hg229 (by omega) (by omega) (by omega))])) (by rw [show xv g229 w3 z217 = _ from (show xv g229 w3 z217 = z228 from by rw [xv_s hg229 (by omega)])]; omega)) (xFr.w v225 hg229) (by omega)
      exact P223 ((20 - 0 : Int).toNat + 1) g187 xM.rf 0 (by omega) (by omega) (fun k q1 q2 => by omega) (xFr.t xFr.rf hg187 hs_a0 (by decide)) (by omega)
  · exact hret _ _ _ _ _ _ kd30_0.2.2.2.2.2.2.2.2.2.1 ⟨rfl, rfl, ⟨m0, em0, by omega, by omega, hp0⟩, xFr.rf⟩ (Nat.le_refl _) (Nat.le_refl _)

set_option maxHeartbeats 4000000 in
set_option maxRecDepth 100000 in
theorem c2_place_3 (l : Launch) (D : va_G) (kA : Nat → ClassId) (b0 : Nat) (t0 : Nat → Nat) (S : xT) (g : xG) (a0 : Nat) (x1 : Int) (x2 : Int) (x3 : Int) (y4 : Int64) (n0 : Int) (w3 : Nat) (m0 : Int) (hs_a0 : S a0 = some (7, 0)) (hx1 : 3 ≤ x1 ∧ x1 ≤ 3) (hx2 : 0 ≤ x2 ∧ x2 ≤ 255) (hx3 : (-2147483648) ≤ x3 ∧ x3 ≤ 2147483647) (hn0 : 3 ≤ n0 ∧ n0 ≤ 8) (en0 : g a0 0 = .int (iI n0)) (ew3 : g a0 3 = .ref w3) (hs_w3 : S w3 = some (12300, 8)) (hm0 : (-2147483648) ≤ m0 ∧ m0 ≤ 2147483647) (em0 : g a0 9 = .int (iI m0)) (hp0 : m0 = -1 ∨ xCo n0 (xv g w3)) : xMt l yX6_place cX6_place 8 none 5 0 0 135 D kA b0 t0 [(12500, 0), (7, 9), (12300, 0)] [.ref a0, .int (iI x1), .int (iI x2), .int (iI x3), .long y4] S g (fun (r : Option Value) (S1 : xT) (g1 : xG) => S = S1 ∧ r = none ∧ (∃ z9 : Int, g1 a0 9 = .int (iI z9) ∧ -2147483648 ≤ z9 ∧ z9 ≤ 2147483647 ∧ (z9 = -1 ∨ xCo n0 (xv g1 w3))) ∧ (xFr 12300 S g g1 w3)) := by
  refine xEnterV (by decide) (by simp [lg_sl, Value.category]) [(0, .ref a0), (1, .int (iI x1)), (2, .int (iI x2)), (3, .int (iI x3)), (4, .long y4)] rfl ?_
  intro K E hK hret _ _ _
  refine X_iloadn hK (i := 3) 3 kd30_0.1 rfl rfl ?_
  refine X_aloadn hK (i := 0) 0 kd30_0.2.1 rfl rfl ?_
  refine X_getr hK 12600 256 fl_X6_31_7 hs_a0 sl_7_6 kd30_0.2.2.1 (fun b1 eb1 hs_b1 => ?_)
  refine X_iloadn hK (i := 2) 2 kd30_0.2.2.2.1 rfl rfl ?_
  refine X_iald hK hs_b1 (by decide) sl_12600 (by omega) (by omega) kd30_0.2.2.2.2.1 (fun z2 ez2 lz2 uz2 => ?_)
  refine X_iadd hK kd30_0.2.2.2.2.2.1 ?_
  refine X_norm (fun z3 ez3 lz3 uz3 => ?_)
  refine X_aloadn hK (i := 0) 0 kd30_0.2.2.2.2.2.2.1 rfl rfl ?_
  refine X_getK hK fl_X6_42_7 hs_a0 em0 kd30_0.2.2.2.2.2.2.2.1 ?_
  refine X_icmp_gt hK 16 (by omega) (by omega) kd30_0.2.2.2.2.2.2.2.2.1 (by decide) (fun c4 => ?_) (fun c4 => ?_)
  · refine X_iloadn hK (i := 1) 1 kd30_0.2.2.2.2.2.2.2.2.2.2.1 rfl rfl ?_
    refine X_aloadn hK (i := 0) 0 kd30_0.2.2.2.2.2.2.2.2.2.2.2 rfl rfl ?_
    refine X_getK hK fl_X6_9_7 hs_a0 en0 kd30_1.1 ?_
    refine X_icmp_ne hK 62 (by omega) (by omega) kd30_1.2.1 (by decide) (fun c5 => ?_) (fun c5 => ?_)
    · refine X_iconst hK kd30_2.2.2.2.2.2.2.2.2.2.2.1 ?_
      refine X_istore hK (i := 6) [(6, .int (iI 0)), (0, .ref a0), (1, .int (iI x1)), (2, .int (iI x2)), (3, .int (iI x3)), (4, .long y4)] kd30_2.2.2.2.2.2.2.2.2.2.2.2 (by decide) rfl ?_
      have P161 : ∀ (nP161 : Nat) (g136 : xG) (_ : xM [(12500, 0), (7, 9), (12300, 0)] S g g136) (z135 : Int) (_ : 0 ≤ z135) (_ : z135 ≤ 8) (q137 : Int) (_ : (-2147483648) ≤ q137) (_ : q137 ≤ 2147483647) (_ : g136 a0 9 = .int (iI q137)) (_ : q137 = -1 ∨ xCo n0 (xv g136 w3)) (_ : xFr 12300 S g g136 w3) (_ : 24 - z135 < (nP161 : Int)), X K E 65 [(6, .int (iI z135)), (0, .ref a0), (1, .int (iI x1)), (2, .int (iI x2)), (3, .int (iI x3)), (4, .long y4)] [] S g136 0 0 := by
        intro nP161
        induction nP161 with
        | zero => intro g136 hg136 z135 lz135 uz135 q137 lq137 uq137 eq137 v162 v163 mP161; exact False.elim (by omega)
        | succ nP161 ihP161 =>
          intro g136 hg136 z135 lz135 uz135 q137 lq137 uq137 eq137 v162 v163 mP161
          refine X_iload hK (i := 6) 0 kd30_3.1 rfl ?_
          refine X_aloadn hK (i := 0) 1 kd30_3.2.1 rfl rfl ?_
          refine X_getK hK fl_X6_9_7 hs_a0 ((hg136 a0 7 0 0 hs_a0 (by decide)).trans en0) kd30_3.2.2.1 ?_
          refine X_icmp_ge hK 141 (by omega) (by omega) kd30_3.2.2.2.1 (by decide) (fun c164 => ?_) (fun c164 => ?_)
          · exact hret _ _ _ _ _ _ kd30_6.2.2.2.2.2.2.2.2.2.2.2 ⟨rfl, rfl, ⟨q137, eq137, by omega, by omega, v162⟩, v163⟩ (Nat.le_refl _) (Nat.le_refl _)
          · refine X_iloadn hK (i := 1) 2 kd30_3.2.2.2.2.1 rfl rfl ?_
            refine X_bipush hK kd30_3.2.2.2.2.2.1 (by decide) ?_
            refine X_imul hK kd30_3.2.2.2.2.2.2.1 ?_
            refine X_iload hK (i := 6) 0 kd30_3.2.2.2.2.2.2.2.1 rfl ?_
            refine X_iadd hK kd30_3.2.2.2.2.2.2.2.2.1 ?_
            refine X_istore hK (i := 7) [(7, .int (iI ((x1 * 8) + z135))), (6, .int (iI z135)), (0, .ref a0), (1, .int (iI x1)), (2, .int (iI x2)), (3, .int (iI x3)), (4, .long y4)] kd30_3.2.2.2.2.2.2.2.2.2.1 (by decide) rfl ?_
            refine X_lload hK (i := 4) 6 kd30_3.2.2.2.2.2.2.2.2.2.2.1 rfl ?_
            refine X_iload hK (i := 7) 0 kd30_3.2.2.2.2.2.2.2.2.2.2.2 rfl ?_
            refine X_lushr hK kd30_4.1 (fun y165 => ?_)
            refine X_lconst hK kd30_4.2.1 (fun y166 => ?_)
            refine X_land hK kd30_4.2.2.1 (fun y167 => ?_)
            refine X_lconst hK kd30_4.2.2.2.1 (fun y168 => ?_)
            refine X_lcmp hK kd30_4.2.2.2.2.1 (fun z169 lz169 uz169 => ?_)
            refine X_if_ne hK 135 (by omega) kd30_4.2.2.2.2.2.1 (by decide) (fun c170 => ?_) (fun c170 => ?_)
            · refine X_iinc hK (i := 6) (z := z135) (n := 1) 1 [(6, .int (iI (z135 + 1))), (7, .int (iI ((x1 * 8) + z135))), (0, .ref a0), (1, .int (iI x1)), (2, .int (iI x2)), (3, .int (iI x3)), (4, .long y4)] kd30_6.2.2.2.2.2.2.2.2.2.1 rfl (by decide) rfl ?_
              refine X_goto hK 65 kd30_6.2.2.2.2.2.2.2.2.2.2.1 (by decide) ?_
              refine X_lv [(6, .int (iI (z135 + 1))), (0, .ref a0), (1, .int (iI x1)), (2, .int (iI x2)), (3, .int (iI x3)), (4, .long y4)] [0, 2, 3, 4, 5, 6] rfl ?_
              exact ihP161  g136 (xM.tr xM.rf xLe.rf hg136 (by decide)) (z135 + 1) (by omega) (by omega) q137 (by omega) (by omega) eq137 v162 v163 (by omega)
            · refine X_aloadn hK (i := 0) 2 kd30_4.2.2.2.2.2.2.1 rfl rfl ?_
              refine X_getr hK 12500 8 fl_X6_28_7 hs_a0 sl_7_5 kd30_4.2.2.2.2.2.2.2.1 (fun b171 eb171 hs_b171 => ?_)
              refine X_iloadn hK (i := 1) 3 kd30_4.2.2.2.2.2.2.2.2.1 rfl rfl ?_
              refine X_iload hK (i := 6) 1 kd30_4.2.2.2.2.2.2.2.2.2.1 rfl ?_
              refine X_iast hK hs_b171 (by decide) (by decide) sl_12500 (by omega) (by omega) (by omega) (by omega) kd30_4.2.2.2.2.2.2.2.2.2.2.1 (fun g172 hg172 => ?_)
              refine X_aloadn hK (i := 0) 2 kd30_4.2.2.2.2.2.2.2.2.2.2.2 rfl rfl ?_
              refine X_iloadn hK (i := 1) 3 kd30_5.1 rfl rfl ?_
              refine X_iconst hK kd30_5.2.1 ?_
              refine X_iadd hK kd30_5.2.2.1 ?_
              refine X_iloadn hK (i := 2) 4 kd30_5.2.2.2.1 rfl rfl ?_
              refine X_iconst hK kd30_5.2.2.2.2.1 ?_
              refine X_iload hK (i := 6) 1 kd30_5.2.2.2.2.2.1 rfl ?_
              refine X_ishl hK kd30_5.2.2.2.2.2.2.1 (fun z173 ez173 lz173 uz173 => ?_)
              have bz173 := xshlB 7 ez173 ⟨lz173, uz173⟩ (by omega) (by decide)
              refine X_ior hK kd30_5.2.2.2.2.2.2.2.1 (fun z174 ez174 lz174 uz174 => ?_)
              have bz174 := xiorB 8 ez174 ⟨lz174, uz174⟩ (by omega) (by omega) (by decide)
              refine X_iloadn hK (i := 3) 5 kd30_5.2.2.2.2.2.2.2.2.1 rfl rfl ?_
              refine X_aloadn hK (i := 0) 2 kd30_5.2.2.2.2.2.2.2.2.2.1 rfl rfl ?_
              refine X_getr hK 12100 64 fl_X6_15_7 hs_a0 sl_7_1 kd30_5.2.2.2.2.2.2.2.2.2.2.1 (fun b175 eb175 hs_b175 => ?_)
              refine X_iload hK (i := 7) 0 kd30_5.2.2.2.2.2.2.2.2.2.2.2 rfl ?_
              refine X_iald hK hs_b175 (by decide) sl_12100 (by omega) (by omega) kd30_6.1 (fun z176 ez176 lz176 uz176 => ?_)
              refine X_iadd hK kd30_6.2.1 ?_
              refine X_norm (fun z177 ez177 lz177 uz177 => ?_)
              refine X_lload hK (i := 4) 6 kd30_6.2.2.1 rfl ?_
              refine X_aloadn hK (i := 0) 2 kd30_6.2.2.2.1 rfl rfl ?_
              refine X_getr hK 12802 64 fl_X6_38_7 hs_a0 sl_7_8 kd30_6.2.2.2.2.1 (fun b178 eb178 hs_b178 => ?_)
              refine X_iload hK (i := 7) 0 kd30_6.2.2.2.2.2.1 rfl ?_
              refine X_lald hK hs_b178 (by decide) sl_12802 (by omega) (by omega) kd30_6.2.2.2.2.2.2.1 (fun y179 => ?_)
              refine X_lor hK kd30_6.2.2.2.2.2.2.2.1 (fun y180 => ?_)
              refine X_callV hK [.int (iI (x1 + 1)), .int (iI z174), .int (iI z177), .long y180] [] lk_X6_80 (c2_place_4 _ _ _ _ _ S g172 a0 (x1 + 1) z174 z177 y180 n0 w3 q137 hs_a0 (by omega) (by omega) (by omega) (by omega) ((xs_a hg172 (xne hs_a0 hs_b171 (by decide))).trans ((hg136 a0 7 0 0 hs_a0 (by decide)).trans en0)) ((xs_a hg172 (xne hs_a0 hs_b171 (by decide))).trans ((hg136 a0 7 0 3 hs_a0 (by decide)).trans ew3)) hs_w3 (by omega) ((xs_a hg172 (xne hs_a0 hs_b171 (by decide))).trans eq137) (by rw [(xv_a hg172 (xne hs_w3 hs_b171 (by decide)))]; exact v162)) hs_a0 ⟨by decide, rfl⟩ kd30_6.2.2.2.2.2.2.2.2.1 rfl rfl (by simp [Value.category]) (by decide) (by decide) (by decide) (by decide) (fun r181 S183 g182 pr181 qr181 hg182 => ?_)
              obtain ⟨rfl, rfl, k184, k185⟩ := pr181
              refine X_st [] rfl ?_
              obtain ⟨z186, ez186, lz186, uz186, kz186⟩ := k184
              refine X_iinc hK (i := 6) (z := z135) (n := 1) 1 [(6, .int (iI (z135 + 1))), (7, .int (iI ((x1 * 8) + z135))), (0, .ref a0), (1, .int (iI x1)), (2, .int (iI x2)), (3, .int (iI x3)), (4, .long y4)] kd30_6.2.2.2.2.2.2.2.2.2.1 rfl (by decide) rfl ?_
              refine X_goto hK 65 kd30_6.2.2.2.2.2.2.2.2.2.2.1 (by decide) ?_
              refine X_lv [(6, .int (iI (z135 + 1))), (0, .ref a0), (1, .int (iI x1)), (2, .int (iI x2)), (3, .int (iI x3)), (4, .long y4)] [0, 2, 3, 4, 5, 6] rfl ?_
              exact ihP161  g182 (xM.tr (xM_ua (xM.tr xM.rf xLe.rf hg136 (by decide)) hg172 hs_b171 (by decide) (by decide)) xLe.rf hg182 (by decide)) (z135 + 1) (by omega) (by omega) z186 (by omega) (by omega) ez186 kz186 (xFr.tr (xFr.t v163 hg172 hs_b171 (by decide)) k185) (by omega)
      exact P161 ((24 - 0 : Int).toNat + 1) g xM.rf 0 (by omega) (by omega) m0 (by omega) (by omega) em0 hp0 xFr.rf (by omega)
    · refine X_aloadn hK (i := 0) 0 kd30_1.2.2.1 rfl rfl ?_
      refine X_iloadn hK (i := 3) 3 kd30_1.2.2.2.1 rfl rfl ?_
      refine X_puti hK fl_X6_42_7 hs_a0 (by decide) sl_7_9 (by omega) (by omega) kd30_1.2.2.2.2.1 (fun g187 hg187 => ?_)
      refine X_iconst hK kd30_1.2.2.2.2.2.1 ?_
      refine X_istore hK (i := 6) [(6, .int (iI 0)), (0, .ref a0), (1, .int (iI x1)), (2, .int (iI x2)), (3, .int (iI x3)), (4, .long y4)] kd30_1.2.2.2.2.2.2.1 (by decide) rfl ?_
      have P223 : ∀ (nP223 : Nat) (g218 : xG) (_ : xM [(12300, 0)] S g187 g218) (z217 : Int) (_ : 0 ≤ z217) (_ : z217 ≤ 3) (_ : ∀ k, 0 ≤ k → k < z217 → 0 ≤ xv g218 w3 k) (_ : xFr 12300 S g g218 w3) (_ : 19 - z217 < (nP223 : Int)), X K E 32 [(6, .int (iI z217)), (0, .ref a0), (1, .int (iI x1)), (2, .int (iI x2)), (3, .int (iI x3)), (4, .long y4)] [] S g218 0 0 := by
        intro nP223
        induction nP223 with
        | zero => intro g218 hg218 z217 lz217 uz217 v224 v225 mP223; exact False.elim (by omega)
        | succ nP223 ihP223 =>
          intro g218 hg218 z217 lz217 uz217 v224 v225 mP223
          refine X_iload hK (i := 6) 0 kd30_1.2.2.2.2.2.2.2.1 rfl ?_
          refine X_aloadn hK (i := 0) 1 kd30_1.2.2.2.2.2.2.2.2.1 rfl rfl ?_
          refine X_getK hK fl_X6_9_7 hs_a0 ((hg218 a0 7 0 0 hs_a0 (by decide)).trans ((xs_k hg187 (by decide)).trans en0)) kd30_1.2.2.2.2.2.2.2.2.2.1 ?_
          refine X_icmp_ge hK 61 (by omega) (by omega) kd30_1.2.2.2.2.2.2.2.2.2.2.1 (by decide) (fun c226 => ?_) (fun c226 => ?_)
          · exact hret _ _ _ _ _ _ kd30_2.2.2.2.2.2.2.2.2.2.1 ⟨rfl, rfl, ⟨x3, ((hg218 a0 7 0 9 hs_a0 (by decide)).trans (xs_s hg187)), by omega, by omega, Or.inr (fun k q1 q2 => v224 k q1 (by omega))⟩, v225⟩ (Nat.le_refl _) (Nat.le_refl _)
          · refine X_aloadn hK (i := 0) 1 kd30_1.2.2.2.2.2.2.2.2.2.2.2 rfl rfl ?_
            refine X_getK hK fl_X6_22_7 hs_a0 ((hg218 a0 7 0 3 hs_a0 (by decide)).trans ((xs_k hg187 (by decide)).trans ew3)) kd30_2.1 ?_
            refine X_iload hK (i := 6) 0 kd30_2.2.1 rfl ?_
            refine X_aloadn hK (i := 0) 1 kd30_2.2.2.1 rfl rfl ?_
            refine X_getr hK 12500 8 fl_X6_28_7 hs_a0 sl_7_5 kd30_2.2.2.2.1 (fun b227 eb227 hs_b227 => ?_)
            refine X_iload hK (i := 6) 0 kd30_2.2.2.2.2.1 rfl ?_
            refine X_iald hK hs_b227 (by decide) sl_12500 (by omega) (by omega) kd30_2.2.2.2.2.2.1 (fun z228 ez228 lz228 uz228 => ?_)
            refine X_iast hK hs_w3 (by decide) (by decide) sl_12300 (by omega) (by omega) (by omega) (by omega) kd30_2.2.2.2.2.2.2.1 (fun g229 hg229 => ?_)
            refine X_iinc hK (i := 6) (z := z217) (n := 1) 0 [(6, .int (iI (z217 + 1))), (0, .ref a0), (1, .int (iI x1)), (2, .int (iI x2)), (3, .int (iI x3)), (4, .long y4)] kd30_2.2.2.2.2.2.2.2.1 rfl (by decide) rfl ?_
            refine X_goto hK 32 kd30_2.2.2.2.2.2.2.2.2.1 (by decide) ?_
            exact ihP223  g229 (xM_ua (xM.tr xM.rf xLe.rf hg218 (by decide)) hg229 hs_w3 (by decide) (by decide)) (z217 + 1) (by omega) (by omega) (xpre (P := fun x => 0 ≤ x) v224 (fun i9 hi9 h09 => (show xv g229 w3 i9 = xv g218 w3 i9 from by rw [(xv_k (i := i9) hg229 (by omega) (by omega) (by omega))])) (by rw [show xv g229 w3 z217 = _ from (show xv g229 w3 z217 = z228 from by rw [xv_s hg229 (by omega)])]; omega)) (xFr.w v225 hg229) (by omega)
      exact P223 ((19 - 0 : Int).toNat + 1) g187 xM.rf 0 (by omega) (by omega) (fun k q1 q2 => by omega) (xFr.t xFr.rf hg187 hs_a0 (by decide)) (by omega)
  · exact hret _ _ _ _ _ _ kd30_0.2.2.2.2.2.2.2.2.2.1 ⟨rfl, rfl, ⟨m0, em0, by omega, by omega, hp0⟩, xFr.rf⟩ (Nat.le_refl _) (Nat.le_refl _)

set_option maxHeartbeats 4000000 in
set_option maxRecDepth 100000 in
theorem c2_place_2 (l : Launch) (D : va_G) (kA : Nat → ClassId) (b0 : Nat) (t0 : Nat → Nat) (S : xT) (g : xG) (a0 : Nat) (x1 : Int) (x2 : Int) (x3 : Int) (y4 : Int64) (n0 : Int) (w3 : Nat) (m0 : Int) (hs_a0 : S a0 = some (7, 0)) (hx1 : 2 ≤ x1 ∧ x1 ≤ 2) (hx2 : 0 ≤ x2 ∧ x2 ≤ 255) (hx3 : (-2147483648) ≤ x3 ∧ x3 ≤ 2147483647) (hn0 : 2 ≤ n0 ∧ n0 ≤ 8) (en0 : g a0 0 = .int (iI n0)) (ew3 : g a0 3 = .ref w3) (hs_w3 : S w3 = some (12300, 8)) (hm0 : (-2147483648) ≤ m0 ∧ m0 ≤ 2147483647) (em0 : g a0 9 = .int (iI m0)) (hp0 : m0 = -1 ∨ xCo n0 (xv g w3)) : xMt l yX6_place cX6_place 8 none 6 0 0 162 D kA b0 t0 [(12500, 0), (7, 9), (12300, 0)] [.ref a0, .int (iI x1), .int (iI x2), .int (iI x3), .long y4] S g (fun (r : Option Value) (S1 : xT) (g1 : xG) => S = S1 ∧ r = none ∧ (∃ z9 : Int, g1 a0 9 = .int (iI z9) ∧ -2147483648 ≤ z9 ∧ z9 ≤ 2147483647 ∧ (z9 = -1 ∨ xCo n0 (xv g1 w3))) ∧ (xFr 12300 S g g1 w3)) := by
  refine xEnterV (by decide) (by simp [lg_sl, Value.category]) [(0, .ref a0), (1, .int (iI x1)), (2, .int (iI x2)), (3, .int (iI x3)), (4, .long y4)] rfl ?_
  intro K E hK hret _ _ _
  refine X_iloadn hK (i := 3) 3 kd30_0.1 rfl rfl ?_
  refine X_aloadn hK (i := 0) 0 kd30_0.2.1 rfl rfl ?_
  refine X_getr hK 12600 256 fl_X6_31_7 hs_a0 sl_7_6 kd30_0.2.2.1 (fun b1 eb1 hs_b1 => ?_)
  refine X_iloadn hK (i := 2) 2 kd30_0.2.2.2.1 rfl rfl ?_
  refine X_iald hK hs_b1 (by decide) sl_12600 (by omega) (by omega) kd30_0.2.2.2.2.1 (fun z2 ez2 lz2 uz2 => ?_)
  refine X_iadd hK kd30_0.2.2.2.2.2.1 ?_
  refine X_norm (fun z3 ez3 lz3 uz3 => ?_)
  refine X_aloadn hK (i := 0) 0 kd30_0.2.2.2.2.2.2.1 rfl rfl ?_
  refine X_getK hK fl_X6_42_7 hs_a0 em0 kd30_0.2.2.2.2.2.2.2.1 ?_
  refine X_icmp_gt hK 16 (by omega) (by omega) kd30_0.2.2.2.2.2.2.2.2.1 (by decide) (fun c4 => ?_) (fun c4 => ?_)
  · refine X_iloadn hK (i := 1) 1 kd30_0.2.2.2.2.2.2.2.2.2.2.1 rfl rfl ?_
    refine X_aloadn hK (i := 0) 0 kd30_0.2.2.2.2.2.2.2.2.2.2.2 rfl rfl ?_
    refine X_getK hK fl_X6_9_7 hs_a0 en0 kd30_1.1 ?_
    refine X_icmp_ne hK 62 (by omega) (by omega) kd30_1.2.1 (by decide) (fun c5 => ?_) (fun c5 => ?_)
    · refine X_iconst hK kd30_2.2.2.2.2.2.2.2.2.2.2.1 ?_
      refine X_istore hK (i := 6) [(6, .int (iI 0)), (0, .ref a0), (1, .int (iI x1)), (2, .int (iI x2)), (3, .int (iI x3)), (4, .long y4)] kd30_2.2.2.2.2.2.2.2.2.2.2.2 (by decide) rfl ?_
      have P161 : ∀ (nP161 : Nat) (g136 : xG) (_ : xM [(12500, 0), (7, 9), (12300, 0)] S g g136) (z135 : Int) (_ : 0 ≤ z135) (_ : z135 ≤ 8) (q137 : Int) (_ : (-2147483648) ≤ q137) (_ : q137 ≤ 2147483647) (_ : g136 a0 9 = .int (iI q137)) (_ : q137 = -1 ∨ xCo n0 (xv g136 w3)) (_ : xFr 12300 S g g136 w3) (_ : 24 - z135 < (nP161 : Int)), X K E 65 [(6, .int (iI z135)), (0, .ref a0), (1, .int (iI x1)), (2, .int (iI x2)), (3, .int (iI x3)), (4, .long y4)] [] S g136 0 0 := by
        intro nP161
        induction nP161 with
        | zero => intro g136 hg136 z135 lz135 uz135 q137 lq137 uq137 eq137 v162 v163 mP161; exact False.elim (by omega)
        | succ nP161 ihP161 =>
          intro g136 hg136 z135 lz135 uz135 q137 lq137 uq137 eq137 v162 v163 mP161
          refine X_iload hK (i := 6) 0 kd30_3.1 rfl ?_
          refine X_aloadn hK (i := 0) 1 kd30_3.2.1 rfl rfl ?_
          refine X_getK hK fl_X6_9_7 hs_a0 ((hg136 a0 7 0 0 hs_a0 (by decide)).trans en0) kd30_3.2.2.1 ?_
          refine X_icmp_ge hK 141 (by omega) (by omega) kd30_3.2.2.2.1 (by decide) (fun c164 => ?_) (fun c164 => ?_)
          · exact hret _ _ _ _ _ _ kd30_6.2.2.2.2.2.2.2.2.2.2.2 ⟨rfl, rfl, ⟨q137, eq137, by omega, by omega, v162⟩, v163⟩ (Nat.le_refl _) (Nat.le_refl _)
          · refine X_iloadn hK (i := 1) 2 kd30_3.2.2.2.2.1 rfl rfl ?_
            refine X_bipush hK kd30_3.2.2.2.2.2.1 (by decide) ?_
            refine X_imul hK kd30_3.2.2.2.2.2.2.1 ?_
            refine X_iload hK (i := 6) 0 kd30_3.2.2.2.2.2.2.2.1 rfl ?_
            refine X_iadd hK kd30_3.2.2.2.2.2.2.2.2.1 ?_
            refine X_istore hK (i := 7) [(7, .int (iI ((x1 * 8) + z135))), (6, .int (iI z135)), (0, .ref a0), (1, .int (iI x1)), (2, .int (iI x2)), (3, .int (iI x3)), (4, .long y4)] kd30_3.2.2.2.2.2.2.2.2.2.1 (by decide) rfl ?_
            refine X_lload hK (i := 4) 6 kd30_3.2.2.2.2.2.2.2.2.2.2.1 rfl ?_
            refine X_iload hK (i := 7) 0 kd30_3.2.2.2.2.2.2.2.2.2.2.2 rfl ?_
            refine X_lushr hK kd30_4.1 (fun y165 => ?_)
            refine X_lconst hK kd30_4.2.1 (fun y166 => ?_)
            refine X_land hK kd30_4.2.2.1 (fun y167 => ?_)
            refine X_lconst hK kd30_4.2.2.2.1 (fun y168 => ?_)
            refine X_lcmp hK kd30_4.2.2.2.2.1 (fun z169 lz169 uz169 => ?_)
            refine X_if_ne hK 135 (by omega) kd30_4.2.2.2.2.2.1 (by decide) (fun c170 => ?_) (fun c170 => ?_)
            · refine X_iinc hK (i := 6) (z := z135) (n := 1) 1 [(6, .int (iI (z135 + 1))), (7, .int (iI ((x1 * 8) + z135))), (0, .ref a0), (1, .int (iI x1)), (2, .int (iI x2)), (3, .int (iI x3)), (4, .long y4)] kd30_6.2.2.2.2.2.2.2.2.2.1 rfl (by decide) rfl ?_
              refine X_goto hK 65 kd30_6.2.2.2.2.2.2.2.2.2.2.1 (by decide) ?_
              refine X_lv [(6, .int (iI (z135 + 1))), (0, .ref a0), (1, .int (iI x1)), (2, .int (iI x2)), (3, .int (iI x3)), (4, .long y4)] [0, 2, 3, 4, 5, 6] rfl ?_
              exact ihP161  g136 (xM.tr xM.rf xLe.rf hg136 (by decide)) (z135 + 1) (by omega) (by omega) q137 (by omega) (by omega) eq137 v162 v163 (by omega)
            · refine X_aloadn hK (i := 0) 2 kd30_4.2.2.2.2.2.2.1 rfl rfl ?_
              refine X_getr hK 12500 8 fl_X6_28_7 hs_a0 sl_7_5 kd30_4.2.2.2.2.2.2.2.1 (fun b171 eb171 hs_b171 => ?_)
              refine X_iloadn hK (i := 1) 3 kd30_4.2.2.2.2.2.2.2.2.1 rfl rfl ?_
              refine X_iload hK (i := 6) 1 kd30_4.2.2.2.2.2.2.2.2.2.1 rfl ?_
              refine X_iast hK hs_b171 (by decide) (by decide) sl_12500 (by omega) (by omega) (by omega) (by omega) kd30_4.2.2.2.2.2.2.2.2.2.2.1 (fun g172 hg172 => ?_)
              refine X_aloadn hK (i := 0) 2 kd30_4.2.2.2.2.2.2.2.2.2.2.2 rfl rfl ?_
              refine X_iloadn hK (i := 1) 3 kd30_5.1 rfl rfl ?_
              refine X_iconst hK kd30_5.2.1 ?_
              refine X_iadd hK kd30_5.2.2.1 ?_
              refine X_iloadn hK (i := 2) 4 kd30_5.2.2.2.1 rfl rfl ?_
              refine X_iconst hK kd30_5.2.2.2.2.1 ?_
              refine X_iload hK (i := 6) 1 kd30_5.2.2.2.2.2.1 rfl ?_
              refine X_ishl hK kd30_5.2.2.2.2.2.2.1 (fun z173 ez173 lz173 uz173 => ?_)
              have bz173 := xshlB 7 ez173 ⟨lz173, uz173⟩ (by omega) (by decide)
              refine X_ior hK kd30_5.2.2.2.2.2.2.2.1 (fun z174 ez174 lz174 uz174 => ?_)
              have bz174 := xiorB 8 ez174 ⟨lz174, uz174⟩ (by omega) (by omega) (by decide)
              refine X_iloadn hK (i := 3) 5 kd30_5.2.2.2.2.2.2.2.2.1 rfl rfl ?_
              refine X_aloadn hK (i := 0) 2 kd30_5.2.2.2.2.2.2.2.2.2.1 rfl rfl ?_
              refine X_getr hK 12100 64 fl_X6_15_7 hs_a0 sl_7_1 kd30_5.2.2.2.2.2.2.2.2.2.2.1 (fun b175 eb175 hs_b175 => ?_)
              refine X_iload hK (i := 7) 0 kd30_5.2.2.2.2.2.2.2.2.2.2.2 rfl ?_
              refine X_iald hK hs_b175 (by decide) sl_12100 (by omega) (by omega) kd30_6.1 (fun z176 ez176 lz176 uz176 => ?_)
              refine X_iadd hK kd30_6.2.1 ?_
              refine X_norm (fun z177 ez177 lz177 uz177 => ?_)
              refine X_lload hK (i := 4) 6 kd30_6.2.2.1 rfl ?_
              refine X_aloadn hK (i := 0) 2 kd30_6.2.2.2.1 rfl rfl ?_
              refine X_getr hK 12802 64 fl_X6_38_7 hs_a0 sl_7_8 kd30_6.2.2.2.2.1 (fun b178 eb178 hs_b178 => ?_)
              refine X_iload hK (i := 7) 0 kd30_6.2.2.2.2.2.1 rfl ?_
              refine X_lald hK hs_b178 (by decide) sl_12802 (by omega) (by omega) kd30_6.2.2.2.2.2.2.1 (fun y179 => ?_)
              refine X_lor hK kd30_6.2.2.2.2.2.2.2.1 (fun y180 => ?_)
              refine X_callV hK [.int (iI (x1 + 1)), .int (iI z174), .int (iI z177), .long y180] [] lk_X6_80 (c2_place_3 _ _ _ _ _ S g172 a0 (x1 + 1) z174 z177 y180 n0 w3 q137 hs_a0 (by omega) (by omega) (by omega) (by omega) ((xs_a hg172 (xne hs_a0 hs_b171 (by decide))).trans ((hg136 a0 7 0 0 hs_a0 (by decide)).trans en0)) ((xs_a hg172 (xne hs_a0 hs_b171 (by decide))).trans ((hg136 a0 7 0 3 hs_a0 (by decide)).trans ew3)) hs_w3 (by omega) ((xs_a hg172 (xne hs_a0 hs_b171 (by decide))).trans eq137) (by rw [(xv_a hg172 (xne hs_w3 hs_b171 (by decide)))]; exact v162)) hs_a0 ⟨by decide, rfl⟩ kd30_6.2.2.2.2.2.2.2.2.1 rfl rfl (by simp [Value.category]) (by decide) (by decide) (by decide) (by decide) (fun r181 S183 g182 pr181 qr181 hg182 => ?_)
              obtain ⟨rfl, rfl, k184, k185⟩ := pr181
              refine X_st [] rfl ?_
              obtain ⟨z186, ez186, lz186, uz186, kz186⟩ := k184
              refine X_iinc hK (i := 6) (z := z135) (n := 1) 1 [(6, .int (iI (z135 + 1))), (7, .int (iI ((x1 * 8) + z135))), (0, .ref a0), (1, .int (iI x1)), (2, .int (iI x2)), (3, .int (iI x3)), (4, .long y4)] kd30_6.2.2.2.2.2.2.2.2.2.1 rfl (by decide) rfl ?_
              refine X_goto hK 65 kd30_6.2.2.2.2.2.2.2.2.2.2.1 (by decide) ?_
              refine X_lv [(6, .int (iI (z135 + 1))), (0, .ref a0), (1, .int (iI x1)), (2, .int (iI x2)), (3, .int (iI x3)), (4, .long y4)] [0, 2, 3, 4, 5, 6] rfl ?_
              exact ihP161  g182 (xM.tr (xM_ua (xM.tr xM.rf xLe.rf hg136 (by decide)) hg172 hs_b171 (by decide) (by decide)) xLe.rf hg182 (by decide)) (z135 + 1) (by omega) (by omega) z186 (by omega) (by omega) ez186 kz186 (xFr.tr (xFr.t v163 hg172 hs_b171 (by decide)) k185) (by omega)
      exact P161 ((24 - 0 : Int).toNat + 1) g xM.rf 0 (by omega) (by omega) m0 (by omega) (by omega) em0 hp0 xFr.rf (by omega)
    · refine X_aloadn hK (i := 0) 0 kd30_1.2.2.1 rfl rfl ?_
      refine X_iloadn hK (i := 3) 3 kd30_1.2.2.2.1 rfl rfl ?_
      refine X_puti hK fl_X6_42_7 hs_a0 (by decide) sl_7_9 (by omega) (by omega) kd30_1.2.2.2.2.1 (fun g187 hg187 => ?_)
      refine X_iconst hK kd30_1.2.2.2.2.2.1 ?_
      refine X_istore hK (i := 6) [(6, .int (iI 0)), (0, .ref a0), (1, .int (iI x1)), (2, .int (iI x2)), (3, .int (iI x3)), (4, .long y4)] kd30_1.2.2.2.2.2.2.1 (by decide) rfl ?_
      have P223 : ∀ (nP223 : Nat) (g218 : xG) (_ : xM [(12300, 0)] S g187 g218) (z217 : Int) (_ : 0 ≤ z217) (_ : z217 ≤ 2) (_ : ∀ k, 0 ≤ k → k < z217 → 0 ≤ xv g218 w3 k) (_ : xFr 12300 S g g218 w3) (_ : 18 - z217 < (nP223 : Int)), X K E 32 [(6, .int (iI z217)), (0, .ref a0), (1, .int (iI x1)), (2, .int (iI x2)), (3, .int (iI x3)), (4, .long y4)] [] S g218 0 0 := by
        intro nP223
        induction nP223 with
        | zero => intro g218 hg218 z217 lz217 uz217 v224 v225 mP223; exact False.elim (by omega)
        | succ nP223 ihP223 =>
          intro g218 hg218 z217 lz217 uz217 v224 v225 mP223
          refine X_iload hK (i := 6) 0 kd30_1.2.2.2.2.2.2.2.1 rfl ?_
          refine X_aloadn hK (i := 0) 1 kd30_1.2.2.2.2.2.2.2.2.1 rfl rfl ?_
          refine X_getK hK fl_X6_9_7 hs_a0 ((hg218 a0 7 0 0 hs_a0 (by decide)).trans ((xs_k hg187 (by decide)).trans en0)) kd30_1.2.2.2.2.2.2.2.2.2.1 ?_
          refine X_icmp_ge hK 61 (by omega) (by omega) kd30_1.2.2.2.2.2.2.2.2.2.2.1 (by decide) (fun c226 => ?_) (fun c226 => ?_)
          · exact hret _ _ _ _ _ _ kd30_2.2.2.2.2.2.2.2.2.2.1 ⟨rfl, rfl, ⟨x3, ((hg218 a0 7 0 9 hs_a0 (by decide)).trans (xs_s hg187)), by omega, by omega, Or.inr (fun k q1 q2 => v224 k q1 (by omega))⟩, v225⟩ (Nat.le_refl _) (Nat.le_refl _)
          · refine X_aloadn hK (i := 0) 1 kd30_1.2.2.2.2.2.2.2.2.2.2.2 rfl rfl ?_
            refine X_getK hK fl_X6_22_7 hs_a0 ((hg218 a0 7 0 3 hs_a0 (by decide)).trans ((xs_k hg187 (by decide)).trans ew3)) kd30_2.1 ?_
            refine X_iload hK (i := 6) 0 kd30_2.2.1 rfl ?_
            refine X_aloadn hK (i := 0) 1 kd30_2.2.2.1 rfl rfl ?_
            refine X_getr hK 12500 8 fl_X6_28_7 hs_a0 sl_7_5 kd30_2.2.2.2.1 (fun b227 eb227 hs_b227 => ?_)
            refine X_iload hK (i := 6) 0 kd30_2.2.2.2.2.1 rfl ?_
            refine X_iald hK hs_b227 (by decide) sl_12500 (by omega) (by omega) kd30_2.2.2.2.2.2.1 (fun z228 ez228 lz228 uz228 => ?_)
            refine X_iast hK hs_w3 (by decide) (by decide) sl_12300 (by omega) (by omega) (by omega) (by omega) kd30_2.2.2.2.2.2.2.1 (fun g229 hg229 => ?_)
            refine X_iinc hK (i := 6) (z := z217) (n := 1) 0 [(6, .int (iI (z217 + 1))), (0, .ref a0), (1, .int (iI x1)), (2, .int (iI x2)), (3, .int (iI x3)), (4, .long y4)] kd30_2.2.2.2.2.2.2.2.1 rfl (by decide) rfl ?_
            refine X_goto hK 32 kd30_2.2.2.2.2.2.2.2.2.1 (by decide) ?_
            exact ihP223  g229 (xM_ua (xM.tr xM.rf xLe.rf hg218 (by decide)) hg229 hs_w3 (by decide) (by decide)) (z217 + 1) (by omega) (by omega) (xpre (P := fun x => 0 ≤ x) v224 (fun i9 hi9 h09 => (show xv g229 w3 i9 = xv g218 w3 i9 from by rw [(xv_k (i := i9) hg229 (by omega) (by omega) (by omega))])) (by rw [show xv g229 w3 z217 = _ from (show xv g229 w3 z217 = z228 from by rw [xv_s hg229 (by omega)])]; omega)) (xFr.w v225 hg229) (by omega)
      exact P223 ((18 - 0 : Int).toNat + 1) g187 xM.rf 0 (by omega) (by omega) (fun k q1 q2 => by omega) (xFr.t xFr.rf hg187 hs_a0 (by decide)) (by omega)
  · exact hret _ _ _ _ _ _ kd30_0.2.2.2.2.2.2.2.2.2.1 ⟨rfl, rfl, ⟨m0, em0, by omega, by omega, hp0⟩, xFr.rf⟩ (Nat.le_refl _) (Nat.le_refl _)

set_option maxHeartbeats 4000000 in
set_option maxRecDepth 100000 in
theorem c2_place_1 (l : Launch) (D : va_G) (kA : Nat → ClassId) (b0 : Nat) (t0 : Nat → Nat) (S : xT) (g : xG) (a0 : Nat) (x1 : Int) (x2 : Int) (x3 : Int) (y4 : Int64) (n0 : Int) (w3 : Nat) (m0 : Int) (hs_a0 : S a0 = some (7, 0)) (hx1 : 1 ≤ x1 ∧ x1 ≤ 1) (hx2 : 0 ≤ x2 ∧ x2 ≤ 255) (hx3 : (-2147483648) ≤ x3 ∧ x3 ≤ 2147483647) (hn0 : 1 ≤ n0 ∧ n0 ≤ 8) (en0 : g a0 0 = .int (iI n0)) (ew3 : g a0 3 = .ref w3) (hs_w3 : S w3 = some (12300, 8)) (hm0 : (-2147483648) ≤ m0 ∧ m0 ≤ 2147483647) (em0 : g a0 9 = .int (iI m0)) (hp0 : m0 = -1 ∨ xCo n0 (xv g w3)) : xMt l yX6_place cX6_place 8 none 7 0 0 189 D kA b0 t0 [(12500, 0), (7, 9), (12300, 0)] [.ref a0, .int (iI x1), .int (iI x2), .int (iI x3), .long y4] S g (fun (r : Option Value) (S1 : xT) (g1 : xG) => S = S1 ∧ r = none ∧ (∃ z9 : Int, g1 a0 9 = .int (iI z9) ∧ -2147483648 ≤ z9 ∧ z9 ≤ 2147483647 ∧ (z9 = -1 ∨ xCo n0 (xv g1 w3))) ∧ (xFr 12300 S g g1 w3)) := by
  refine xEnterV (by decide) (by simp [lg_sl, Value.category]) [(0, .ref a0), (1, .int (iI x1)), (2, .int (iI x2)), (3, .int (iI x3)), (4, .long y4)] rfl ?_
  intro K E hK hret _ _ _
  refine X_iloadn hK (i := 3) 3 kd30_0.1 rfl rfl ?_
  refine X_aloadn hK (i := 0) 0 kd30_0.2.1 rfl rfl ?_
  refine X_getr hK 12600 256 fl_X6_31_7 hs_a0 sl_7_6 kd30_0.2.2.1 (fun b1 eb1 hs_b1 => ?_)
  refine X_iloadn hK (i := 2) 2 kd30_0.2.2.2.1 rfl rfl ?_
  refine X_iald hK hs_b1 (by decide) sl_12600 (by omega) (by omega) kd30_0.2.2.2.2.1 (fun z2 ez2 lz2 uz2 => ?_)
  refine X_iadd hK kd30_0.2.2.2.2.2.1 ?_
  refine X_norm (fun z3 ez3 lz3 uz3 => ?_)
  refine X_aloadn hK (i := 0) 0 kd30_0.2.2.2.2.2.2.1 rfl rfl ?_
  refine X_getK hK fl_X6_42_7 hs_a0 em0 kd30_0.2.2.2.2.2.2.2.1 ?_
  refine X_icmp_gt hK 16 (by omega) (by omega) kd30_0.2.2.2.2.2.2.2.2.1 (by decide) (fun c4 => ?_) (fun c4 => ?_)
  · refine X_iloadn hK (i := 1) 1 kd30_0.2.2.2.2.2.2.2.2.2.2.1 rfl rfl ?_
    refine X_aloadn hK (i := 0) 0 kd30_0.2.2.2.2.2.2.2.2.2.2.2 rfl rfl ?_
    refine X_getK hK fl_X6_9_7 hs_a0 en0 kd30_1.1 ?_
    refine X_icmp_ne hK 62 (by omega) (by omega) kd30_1.2.1 (by decide) (fun c5 => ?_) (fun c5 => ?_)
    · refine X_iconst hK kd30_2.2.2.2.2.2.2.2.2.2.2.1 ?_
      refine X_istore hK (i := 6) [(6, .int (iI 0)), (0, .ref a0), (1, .int (iI x1)), (2, .int (iI x2)), (3, .int (iI x3)), (4, .long y4)] kd30_2.2.2.2.2.2.2.2.2.2.2.2 (by decide) rfl ?_
      have P161 : ∀ (nP161 : Nat) (g136 : xG) (_ : xM [(12500, 0), (7, 9), (12300, 0)] S g g136) (z135 : Int) (_ : 0 ≤ z135) (_ : z135 ≤ 8) (q137 : Int) (_ : (-2147483648) ≤ q137) (_ : q137 ≤ 2147483647) (_ : g136 a0 9 = .int (iI q137)) (_ : q137 = -1 ∨ xCo n0 (xv g136 w3)) (_ : xFr 12300 S g g136 w3) (_ : 24 - z135 < (nP161 : Int)), X K E 65 [(6, .int (iI z135)), (0, .ref a0), (1, .int (iI x1)), (2, .int (iI x2)), (3, .int (iI x3)), (4, .long y4)] [] S g136 0 0 := by
        intro nP161
        induction nP161 with
        | zero => intro g136 hg136 z135 lz135 uz135 q137 lq137 uq137 eq137 v162 v163 mP161; exact False.elim (by omega)
        | succ nP161 ihP161 =>
          intro g136 hg136 z135 lz135 uz135 q137 lq137 uq137 eq137 v162 v163 mP161
          refine X_iload hK (i := 6) 0 kd30_3.1 rfl ?_
          refine X_aloadn hK (i := 0) 1 kd30_3.2.1 rfl rfl ?_
          refine X_getK hK fl_X6_9_7 hs_a0 ((hg136 a0 7 0 0 hs_a0 (by decide)).trans en0) kd30_3.2.2.1 ?_
          refine X_icmp_ge hK 141 (by omega) (by omega) kd30_3.2.2.2.1 (by decide) (fun c164 => ?_) (fun c164 => ?_)
          · exact hret _ _ _ _ _ _ kd30_6.2.2.2.2.2.2.2.2.2.2.2 ⟨rfl, rfl, ⟨q137, eq137, by omega, by omega, v162⟩, v163⟩ (Nat.le_refl _) (Nat.le_refl _)
          · refine X_iloadn hK (i := 1) 2 kd30_3.2.2.2.2.1 rfl rfl ?_
            refine X_bipush hK kd30_3.2.2.2.2.2.1 (by decide) ?_
            refine X_imul hK kd30_3.2.2.2.2.2.2.1 ?_
            refine X_iload hK (i := 6) 0 kd30_3.2.2.2.2.2.2.2.1 rfl ?_
            refine X_iadd hK kd30_3.2.2.2.2.2.2.2.2.1 ?_
            refine X_istore hK (i := 7) [(7, .int (iI ((x1 * 8) + z135))), (6, .int (iI z135)), (0, .ref a0), (1, .int (iI x1)), (2, .int (iI x2)), (3, .int (iI x3)), (4, .long y4)] kd30_3.2.2.2.2.2.2.2.2.2.1 (by decide) rfl ?_
            refine X_lload hK (i := 4) 6 kd30_3.2.2.2.2.2.2.2.2.2.2.1 rfl ?_
            refine X_iload hK (i := 7) 0 kd30_3.2.2.2.2.2.2.2.2.2.2.2 rfl ?_
            refine X_lushr hK kd30_4.1 (fun y165 => ?_)
            refine X_lconst hK kd30_4.2.1 (fun y166 => ?_)
            refine X_land hK kd30_4.2.2.1 (fun y167 => ?_)
            refine X_lconst hK kd30_4.2.2.2.1 (fun y168 => ?_)
            refine X_lcmp hK kd30_4.2.2.2.2.1 (fun z169 lz169 uz169 => ?_)
            refine X_if_ne hK 135 (by omega) kd30_4.2.2.2.2.2.1 (by decide) (fun c170 => ?_) (fun c170 => ?_)
            · refine X_iinc hK (i := 6) (z := z135) (n := 1) 1 [(6, .int (iI (z135 + 1))), (7, .int (iI ((x1 * 8) + z135))), (0, .ref a0), (1, .int (iI x1)), (2, .int (iI x2)), (3, .int (iI x3)), (4, .long y4)] kd30_6.2.2.2.2.2.2.2.2.2.1 rfl (by decide) rfl ?_
              refine X_goto hK 65 kd30_6.2.2.2.2.2.2.2.2.2.2.1 (by decide) ?_
              refine X_lv [(6, .int (iI (z135 + 1))), (0, .ref a0), (1, .int (iI x1)), (2, .int (iI x2)), (3, .int (iI x3)), (4, .long y4)] [0, 2, 3, 4, 5, 6] rfl ?_
              exact ihP161  g136 (xM.tr xM.rf xLe.rf hg136 (by decide)) (z135 + 1) (by omega) (by omega) q137 (by omega) (by omega) eq137 v162 v163 (by omega)
            · refine X_aloadn hK (i := 0) 2 kd30_4.2.2.2.2.2.2.1 rfl rfl ?_
              refine X_getr hK 12500 8 fl_X6_28_7 hs_a0 sl_7_5 kd30_4.2.2.2.2.2.2.2.1 (fun b171 eb171 hs_b171 => ?_)
              refine X_iloadn hK (i := 1) 3 kd30_4.2.2.2.2.2.2.2.2.1 rfl rfl ?_
              refine X_iload hK (i := 6) 1 kd30_4.2.2.2.2.2.2.2.2.2.1 rfl ?_
              refine X_iast hK hs_b171 (by decide) (by decide) sl_12500 (by omega) (by omega) (by omega) (by omega) kd30_4.2.2.2.2.2.2.2.2.2.2.1 (fun g172 hg172 => ?_)
              refine X_aloadn hK (i := 0) 2 kd30_4.2.2.2.2.2.2.2.2.2.2.2 rfl rfl ?_
              refine X_iloadn hK (i := 1) 3 kd30_5.1 rfl rfl ?_
              refine X_iconst hK kd30_5.2.1 ?_
              refine X_iadd hK kd30_5.2.2.1 ?_
              refine X_iloadn hK (i := 2) 4 kd30_5.2.2.2.1 rfl rfl ?_
              refine X_iconst hK kd30_5.2.2.2.2.1 ?_
              refine X_iload hK (i := 6) 1 kd30_5.2.2.2.2.2.1 rfl ?_
              refine X_ishl hK kd30_5.2.2.2.2.2.2.1 (fun z173 ez173 lz173 uz173 => ?_)
              have bz173 := xshlB 7 ez173 ⟨lz173, uz173⟩ (by omega) (by decide)
              refine X_ior hK kd30_5.2.2.2.2.2.2.2.1 (fun z174 ez174 lz174 uz174 => ?_)
              have bz174 := xiorB 8 ez174 ⟨lz174, uz174⟩ (by omega) (by omega) (by decide)
              refine X_iloadn hK (i := 3) 5 kd30_5.2.2.2.2.2.2.2.2.1 rfl rfl ?_
              refine X_aloadn hK (i := 0) 2 kd30_5.2.2.2.2.2.2.2.2.2.1 rfl rfl ?_
              refine X_getr hK 12100 64 fl_X6_15_7 hs_a0 sl_7_1 kd30_5.2.2.2.2.2.2.2.2.2.2.1 (fun b175 eb175 hs_b175 => ?_)
              refine X_iload hK (i := 7) 0 kd30_5.2.2.2.2.2.2.2.2.2.2.2 rfl ?_
              refine X_iald hK hs_b175 (by decide) sl_12100 (by omega) (by omega) kd30_6.1 (fun z176 ez176 lz176 uz176 => ?_)
              refine X_iadd hK kd30_6.2.1 ?_
              refine X_norm (fun z177 ez177 lz177 uz177 => ?_)
              refine X_lload hK (i := 4) 6 kd30_6.2.2.1 rfl ?_
              refine X_aloadn hK (i := 0) 2 kd30_6.2.2.2.1 rfl rfl ?_
              refine X_getr hK 12802 64 fl_X6_38_7 hs_a0 sl_7_8 kd30_6.2.2.2.2.1 (fun b178 eb178 hs_b178 => ?_)
              refine X_iload hK (i := 7) 0 kd30_6.2.2.2.2.2.1 rfl ?_
              refine X_lald hK hs_b178 (by decide) sl_12802 (by omega) (by omega) kd30_6.2.2.2.2.2.2.1 (fun y179 => ?_)
              refine X_lor hK kd30_6.2.2.2.2.2.2.2.1 (fun y180 => ?_)
              refine X_callV hK [.int (iI (x1 + 1)), .int (iI z174), .int (iI z177), .long y180] [] lk_X6_80 (c2_place_2 _ _ _ _ _ S g172 a0 (x1 + 1) z174 z177 y180 n0 w3 q137 hs_a0 (by omega) (by omega) (by omega) (by omega) ((xs_a hg172 (xne hs_a0 hs_b171 (by decide))).trans ((hg136 a0 7 0 0 hs_a0 (by decide)).trans en0)) ((xs_a hg172 (xne hs_a0 hs_b171 (by decide))).trans ((hg136 a0 7 0 3 hs_a0 (by decide)).trans ew3)) hs_w3 (by omega) ((xs_a hg172 (xne hs_a0 hs_b171 (by decide))).trans eq137) (by rw [(xv_a hg172 (xne hs_w3 hs_b171 (by decide)))]; exact v162)) hs_a0 ⟨by decide, rfl⟩ kd30_6.2.2.2.2.2.2.2.2.1 rfl rfl (by simp [Value.category]) (by decide) (by decide) (by decide) (by decide) (fun r181 S183 g182 pr181 qr181 hg182 => ?_)
              obtain ⟨rfl, rfl, k184, k185⟩ := pr181
              refine X_st [] rfl ?_
              obtain ⟨z186, ez186, lz186, uz186, kz186⟩ := k184
              refine X_iinc hK (i := 6) (z := z135) (n := 1) 1 [(6, .int (iI (z135 + 1))), (7, .int (iI ((x1 * 8) + z135))), (0, .ref a0), (1, .int (iI x1)), (2, .int (iI x2)), (3, .int (iI x3)), (4, .long y4)] kd30_6.2.2.2.2.2.2.2.2.2.1 rfl (by decide) rfl ?_
              refine X_goto hK 65 kd30_6.2.2.2.2.2.2.2.2.2.2.1 (by decide) ?_
              refine X_lv [(6, .int (iI (z135 + 1))), (0, .ref a0), (1, .int (iI x1)), (2, .int (iI x2)), (3, .int (iI x3)), (4, .long y4)] [0, 2, 3, 4, 5, 6] rfl ?_
              exact ihP161  g182 (xM.tr (xM_ua (xM.tr xM.rf xLe.rf hg136 (by decide)) hg172 hs_b171 (by decide) (by decide)) xLe.rf hg182 (by decide)) (z135 + 1) (by omega) (by omega) z186 (by omega) (by omega) ez186 kz186 (xFr.tr (xFr.t v163 hg172 hs_b171 (by decide)) k185) (by omega)
      exact P161 ((24 - 0 : Int).toNat + 1) g xM.rf 0 (by omega) (by omega) m0 (by omega) (by omega) em0 hp0 xFr.rf (by omega)
    · refine X_aloadn hK (i := 0) 0 kd30_1.2.2.1 rfl rfl ?_
      refine X_iloadn hK (i := 3) 3 kd30_1.2.2.2.1 rfl rfl ?_
      refine X_puti hK fl_X6_42_7 hs_a0 (by decide) sl_7_9 (by omega) (by omega) kd30_1.2.2.2.2.1 (fun g187 hg187 => ?_)
      refine X_iconst hK kd30_1.2.2.2.2.2.1 ?_
      refine X_istore hK (i := 6) [(6, .int (iI 0)), (0, .ref a0), (1, .int (iI x1)), (2, .int (iI x2)), (3, .int (iI x3)), (4, .long y4)] kd30_1.2.2.2.2.2.2.1 (by decide) rfl ?_
      have P223 : ∀ (nP223 : Nat) (g218 : xG) (_ : xM [(12300, 0)] S g187 g218) (z217 : Int) (_ : 0 ≤ z217) (_ : z217 ≤ 1) (_ : ∀ k, 0 ≤ k → k < z217 → 0 ≤ xv g218 w3 k) (_ : xFr 12300 S g g218 w3) (_ : 17 - z217 < (nP223 : Int)), X K E 32 [(6, .int (iI z217)), (0, .ref a0), (1, .int (iI x1)), (2, .int (iI x2)), (3, .int (iI x3)), (4, .long y4)] [] S g218 0 0 := by
        intro nP223
        induction nP223 with
        | zero => intro g218 hg218 z217 lz217 uz217 v224 v225 mP223; exact False.elim (by omega)
        | succ nP223 ihP223 =>
          intro g218 hg218 z217 lz217 uz217 v224 v225 mP223
          refine X_iload hK (i := 6) 0 kd30_1.2.2.2.2.2.2.2.1 rfl ?_
          refine X_aloadn hK (i := 0) 1 kd30_1.2.2.2.2.2.2.2.2.1 rfl rfl ?_
          refine X_getK hK fl_X6_9_7 hs_a0 ((hg218 a0 7 0 0 hs_a0 (by decide)).trans ((xs_k hg187 (by decide)).trans en0)) kd30_1.2.2.2.2.2.2.2.2.2.1 ?_
          refine X_icmp_ge hK 61 (by omega) (by omega) kd30_1.2.2.2.2.2.2.2.2.2.2.1 (by decide) (fun c226 => ?_) (fun c226 => ?_)
          · exact hret _ _ _ _ _ _ kd30_2.2.2.2.2.2.2.2.2.2.1 ⟨rfl, rfl, ⟨x3, ((hg218 a0 7 0 9 hs_a0 (by decide)).trans (xs_s hg187)), by omega, by omega, Or.inr (fun k q1 q2 => v224 k q1 (by omega))⟩, v225⟩ (Nat.le_refl _) (Nat.le_refl _)
          · refine X_aloadn hK (i := 0) 1 kd30_1.2.2.2.2.2.2.2.2.2.2.2 rfl rfl ?_
            refine X_getK hK fl_X6_22_7 hs_a0 ((hg218 a0 7 0 3 hs_a0 (by decide)).trans ((xs_k hg187 (by decide)).trans ew3)) kd30_2.1 ?_
            refine X_iload hK (i := 6) 0 kd30_2.2.1 rfl ?_
            refine X_aloadn hK (i := 0) 1 kd30_2.2.2.1 rfl rfl ?_
            refine X_getr hK 12500 8 fl_X6_28_7 hs_a0 sl_7_5 kd30_2.2.2.2.1 (fun b227 eb227 hs_b227 => ?_)
            refine X_iload hK (i := 6) 0 kd30_2.2.2.2.2.1 rfl ?_
            refine X_iald hK hs_b227 (by decide) sl_12500 (by omega) (by omega) kd30_2.2.2.2.2.2.1 (fun z228 ez228 lz228 uz228 => ?_)
            refine X_iast hK hs_w3 (by decide) (by decide) sl_12300 (by omega) (by omega) (by omega) (by omega) kd30_2.2.2.2.2.2.2.1 (fun g229 hg229 => ?_)
            refine X_iinc hK (i := 6) (z := z217) (n := 1) 0 [(6, .int (iI (z217 + 1))), (0, .ref a0), (1, .int (iI x1)), (2, .int (iI x2)), (3, .int (iI x3)), (4, .long y4)] kd30_2.2.2.2.2.2.2.2.1 rfl (by decide) rfl ?_
            refine X_goto hK 32 kd30_2.2.2.2.2.2.2.2.2.1 (by decide) ?_
            exact ihP223  g229 (xM_ua (xM.tr xM.rf xLe.rf hg218 (by decide)) hg229 hs_w3 (by decide) (by decide)) (z217 + 1) (by omega) (by omega) (xpre (P := fun x => 0 ≤ x) v224 (fun i9 hi9 h09 => (show xv g229 w3 i9 = xv g218 w3 i9 from by rw [(xv_k (i := i9) hg229 (by omega) (by omega) (by omega))])) (by rw [show xv g229 w3 z217 = _ from (show xv g229 w3 z217 = z228 from by rw [xv_s hg229 (by omega)])]; omega)) (xFr.w v225 hg229) (by omega)
      exact P223 ((17 - 0 : Int).toNat + 1) g187 xM.rf 0 (by omega) (by omega) (fun k q1 q2 => by omega) (xFr.t xFr.rf hg187 hs_a0 (by decide)) (by omega)
  · exact hret _ _ _ _ _ _ kd30_0.2.2.2.2.2.2.2.2.2.1 ⟨rfl, rfl, ⟨m0, em0, by omega, by omega, hp0⟩, xFr.rf⟩ (Nat.le_refl _) (Nat.le_refl _)

set_option maxHeartbeats 4000000 in
set_option maxRecDepth 100000 in
theorem c2_place_0 (l : Launch) (D : va_G) (kA : Nat → ClassId) (b0 : Nat) (t0 : Nat → Nat) (S : xT) (g : xG) (a0 : Nat) (x1 : Int) (x2 : Int) (x3 : Int) (y4 : Int64) (n0 : Int) (w3 : Nat) (m0 : Int) (hs_a0 : S a0 = some (7, 0)) (hx1 : 0 ≤ x1 ∧ x1 ≤ 0) (hx2 : 0 ≤ x2 ∧ x2 ≤ 255) (hx3 : (-2147483648) ≤ x3 ∧ x3 ≤ 2147483647) (hn0 : 1 ≤ n0 ∧ n0 ≤ 8) (en0 : g a0 0 = .int (iI n0)) (ew3 : g a0 3 = .ref w3) (hs_w3 : S w3 = some (12300, 8)) (hm0 : (-2147483648) ≤ m0 ∧ m0 ≤ 2147483647) (em0 : g a0 9 = .int (iI m0)) (hp0 : m0 = -1 ∨ xCo n0 (xv g w3)) : xMt l yX6_place cX6_place 8 none 8 0 0 216 D kA b0 t0 [(12500, 0), (7, 9), (12300, 0)] [.ref a0, .int (iI x1), .int (iI x2), .int (iI x3), .long y4] S g (fun (r : Option Value) (S1 : xT) (g1 : xG) => S = S1 ∧ r = none ∧ (∃ z9 : Int, g1 a0 9 = .int (iI z9) ∧ -2147483648 ≤ z9 ∧ z9 ≤ 2147483647 ∧ (z9 = -1 ∨ xCo n0 (xv g1 w3))) ∧ (xFr 12300 S g g1 w3)) := by
  refine xEnterV (by decide) (by simp [lg_sl, Value.category]) [(0, .ref a0), (1, .int (iI x1)), (2, .int (iI x2)), (3, .int (iI x3)), (4, .long y4)] rfl ?_
  intro K E hK hret _ _ _
  refine X_iloadn hK (i := 3) 3 kd30_0.1 rfl rfl ?_
  refine X_aloadn hK (i := 0) 0 kd30_0.2.1 rfl rfl ?_
  refine X_getr hK 12600 256 fl_X6_31_7 hs_a0 sl_7_6 kd30_0.2.2.1 (fun b1 eb1 hs_b1 => ?_)
  refine X_iloadn hK (i := 2) 2 kd30_0.2.2.2.1 rfl rfl ?_
  refine X_iald hK hs_b1 (by decide) sl_12600 (by omega) (by omega) kd30_0.2.2.2.2.1 (fun z2 ez2 lz2 uz2 => ?_)
  refine X_iadd hK kd30_0.2.2.2.2.2.1 ?_
  refine X_norm (fun z3 ez3 lz3 uz3 => ?_)
  refine X_aloadn hK (i := 0) 0 kd30_0.2.2.2.2.2.2.1 rfl rfl ?_
  refine X_getK hK fl_X6_42_7 hs_a0 em0 kd30_0.2.2.2.2.2.2.2.1 ?_
  refine X_icmp_gt hK 16 (by omega) (by omega) kd30_0.2.2.2.2.2.2.2.2.1 (by decide) (fun c4 => ?_) (fun c4 => ?_)
  · refine X_iloadn hK (i := 1) 1 kd30_0.2.2.2.2.2.2.2.2.2.2.1 rfl rfl ?_
    refine X_aloadn hK (i := 0) 0 kd30_0.2.2.2.2.2.2.2.2.2.2.2 rfl rfl ?_
    refine X_getK hK fl_X6_9_7 hs_a0 en0 kd30_1.1 ?_
    refine X_icmp_ne hK 62 (by omega) (by omega) kd30_1.2.1 (by decide) (fun c5 => ?_) (fun c5 => False.elim (by omega))
    refine X_iconst hK kd30_2.2.2.2.2.2.2.2.2.2.2.1 ?_
    refine X_istore hK (i := 6) [(6, .int (iI 0)), (0, .ref a0), (1, .int (iI x1)), (2, .int (iI x2)), (3, .int (iI x3)), (4, .long y4)] kd30_2.2.2.2.2.2.2.2.2.2.2.2 (by decide) rfl ?_
    have P161 : ∀ (nP161 : Nat) (g136 : xG) (_ : xM [(12500, 0), (7, 9), (12300, 0)] S g g136) (z135 : Int) (_ : 0 ≤ z135) (_ : z135 ≤ 8) (q137 : Int) (_ : (-2147483648) ≤ q137) (_ : q137 ≤ 2147483647) (_ : g136 a0 9 = .int (iI q137)) (_ : q137 = -1 ∨ xCo n0 (xv g136 w3)) (_ : xFr 12300 S g g136 w3) (_ : 24 - z135 < (nP161 : Int)), X K E 65 [(6, .int (iI z135)), (0, .ref a0), (1, .int (iI x1)), (2, .int (iI x2)), (3, .int (iI x3)), (4, .long y4)] [] S g136 0 0 := by
      intro nP161
      induction nP161 with
      | zero => intro g136 hg136 z135 lz135 uz135 q137 lq137 uq137 eq137 v162 v163 mP161; exact False.elim (by omega)
      | succ nP161 ihP161 =>
        intro g136 hg136 z135 lz135 uz135 q137 lq137 uq137 eq137 v162 v163 mP161
        refine X_iload hK (i := 6) 0 kd30_3.1 rfl ?_
        refine X_aloadn hK (i := 0) 1 kd30_3.2.1 rfl rfl ?_
        refine X_getK hK fl_X6_9_7 hs_a0 ((hg136 a0 7 0 0 hs_a0 (by decide)).trans en0) kd30_3.2.2.1 ?_
        refine X_icmp_ge hK 141 (by omega) (by omega) kd30_3.2.2.2.1 (by decide) (fun c164 => ?_) (fun c164 => ?_)
        · exact hret _ _ _ _ _ _ kd30_6.2.2.2.2.2.2.2.2.2.2.2 ⟨rfl, rfl, ⟨q137, eq137, by omega, by omega, v162⟩, v163⟩ (Nat.le_refl _) (Nat.le_refl _)
        · refine X_iloadn hK (i := 1) 2 kd30_3.2.2.2.2.1 rfl rfl ?_
          refine X_bipush hK kd30_3.2.2.2.2.2.1 (by decide) ?_
          refine X_imul hK kd30_3.2.2.2.2.2.2.1 ?_
          refine X_iload hK (i := 6) 0 kd30_3.2.2.2.2.2.2.2.1 rfl ?_
          refine X_iadd hK kd30_3.2.2.2.2.2.2.2.2.1 ?_
          refine X_istore hK (i := 7) [(7, .int (iI ((x1 * 8) + z135))), (6, .int (iI z135)), (0, .ref a0), (1, .int (iI x1)), (2, .int (iI x2)), (3, .int (iI x3)), (4, .long y4)] kd30_3.2.2.2.2.2.2.2.2.2.1 (by decide) rfl ?_
          refine X_lload hK (i := 4) 6 kd30_3.2.2.2.2.2.2.2.2.2.2.1 rfl ?_
          refine X_iload hK (i := 7) 0 kd30_3.2.2.2.2.2.2.2.2.2.2.2 rfl ?_
          refine X_lushr hK kd30_4.1 (fun y165 => ?_)
          refine X_lconst hK kd30_4.2.1 (fun y166 => ?_)
          refine X_land hK kd30_4.2.2.1 (fun y167 => ?_)
          refine X_lconst hK kd30_4.2.2.2.1 (fun y168 => ?_)
          refine X_lcmp hK kd30_4.2.2.2.2.1 (fun z169 lz169 uz169 => ?_)
          refine X_if_ne hK 135 (by omega) kd30_4.2.2.2.2.2.1 (by decide) (fun c170 => ?_) (fun c170 => ?_)
          · refine X_iinc hK (i := 6) (z := z135) (n := 1) 1 [(6, .int (iI (z135 + 1))), (7, .int (iI ((x1 * 8) + z135))), (0, .ref a0), (1, .int (iI x1)), (2, .int (iI x2)), (3, .int (iI x3)), (4, .long y4)] kd30_6.2.2.2.2.2.2.2.2.2.1 rfl (by decide) rfl ?_
            refine X_goto hK 65 kd30_6.2.2.2.2.2.2.2.2.2.2.1 (by decide) ?_
            refine X_lv [(6, .int (iI (z135 + 1))), (0, .ref a0), (1, .int (iI x1)), (2, .int (iI x2)), (3, .int (iI x3)), (4, .long y4)] [0, 2, 3, 4, 5, 6] rfl ?_
            exact ihP161  g136 (xM.tr xM.rf xLe.rf hg136 (by decide)) (z135 + 1) (by omega) (by omega) q137 (by omega) (by omega) eq137 v162 v163 (by omega)
          · refine X_aloadn hK (i := 0) 2 kd30_4.2.2.2.2.2.2.1 rfl rfl ?_
            refine X_getr hK 12500 8 fl_X6_28_7 hs_a0 sl_7_5 kd30_4.2.2.2.2.2.2.2.1 (fun b171 eb171 hs_b171 => ?_)
            refine X_iloadn hK (i := 1) 3 kd30_4.2.2.2.2.2.2.2.2.1 rfl rfl ?_
            refine X_iload hK (i := 6) 1 kd30_4.2.2.2.2.2.2.2.2.2.1 rfl ?_
            refine X_iast hK hs_b171 (by decide) (by decide) sl_12500 (by omega) (by omega) (by omega) (by omega) kd30_4.2.2.2.2.2.2.2.2.2.2.1 (fun g172 hg172 => ?_)
            refine X_aloadn hK (i := 0) 2 kd30_4.2.2.2.2.2.2.2.2.2.2.2 rfl rfl ?_
            refine X_iloadn hK (i := 1) 3 kd30_5.1 rfl rfl ?_
            refine X_iconst hK kd30_5.2.1 ?_
            refine X_iadd hK kd30_5.2.2.1 ?_
            refine X_iloadn hK (i := 2) 4 kd30_5.2.2.2.1 rfl rfl ?_
            refine X_iconst hK kd30_5.2.2.2.2.1 ?_
            refine X_iload hK (i := 6) 1 kd30_5.2.2.2.2.2.1 rfl ?_
            refine X_ishl hK kd30_5.2.2.2.2.2.2.1 (fun z173 ez173 lz173 uz173 => ?_)
            have bz173 := xshlB 7 ez173 ⟨lz173, uz173⟩ (by omega) (by decide)
            refine X_ior hK kd30_5.2.2.2.2.2.2.2.1 (fun z174 ez174 lz174 uz174 => ?_)
            have bz174 := xiorB 8 ez174 ⟨lz174, uz174⟩ (by omega) (by omega) (by decide)
            refine X_iloadn hK (i := 3) 5 kd30_5.2.2.2.2.2.2.2.2.1 rfl rfl ?_
            refine X_aloadn hK (i := 0) 2 kd30_5.2.2.2.2.2.2.2.2.2.1 rfl rfl ?_
            refine X_getr hK 12100 64 fl_X6_15_7 hs_a0 sl_7_1 kd30_5.2.2.2.2.2.2.2.2.2.2.1 (fun b175 eb175 hs_b175 => ?_)
            refine X_iload hK (i := 7) 0 kd30_5.2.2.2.2.2.2.2.2.2.2.2 rfl ?_
            refine X_iald hK hs_b175 (by decide) sl_12100 (by omega) (by omega) kd30_6.1 (fun z176 ez176 lz176 uz176 => ?_)
            refine X_iadd hK kd30_6.2.1 ?_
            refine X_norm (fun z177 ez177 lz177 uz177 => ?_)
            refine X_lload hK (i := 4) 6 kd30_6.2.2.1 rfl ?_
            refine X_aloadn hK (i := 0) 2 kd30_6.2.2.2.1 rfl rfl ?_
            refine X_getr hK 12802 64 fl_X6_38_7 hs_a0 sl_7_8 kd30_6.2.2.2.2.1 (fun b178 eb178 hs_b178 => ?_)
            refine X_iload hK (i := 7) 0 kd30_6.2.2.2.2.2.1 rfl ?_
            refine X_lald hK hs_b178 (by decide) sl_12802 (by omega) (by omega) kd30_6.2.2.2.2.2.2.1 (fun y179 => ?_)
            refine X_lor hK kd30_6.2.2.2.2.2.2.2.1 (fun y180 => ?_)
            refine X_callV hK [.int (iI (x1 + 1)), .int (iI z174), .int (iI z177), .long y180] [] lk_X6_80 (c2_place_1 _ _ _ _ _ S g172 a0 (x1 + 1) z174 z177 y180 n0 w3 q137 hs_a0 (by omega) (by omega) (by omega) (by omega) ((xs_a hg172 (xne hs_a0 hs_b171 (by decide))).trans ((hg136 a0 7 0 0 hs_a0 (by decide)).trans en0)) ((xs_a hg172 (xne hs_a0 hs_b171 (by decide))).trans ((hg136 a0 7 0 3 hs_a0 (by decide)).trans ew3)) hs_w3 (by omega) ((xs_a hg172 (xne hs_a0 hs_b171 (by decide))).trans eq137) (by rw [(xv_a hg172 (xne hs_w3 hs_b171 (by decide)))]; exact v162)) hs_a0 ⟨by decide, rfl⟩ kd30_6.2.2.2.2.2.2.2.2.1 rfl rfl (by simp [Value.category]) (by decide) (by decide) (by decide) (by decide) (fun r181 S183 g182 pr181 qr181 hg182 => ?_)
            obtain ⟨rfl, rfl, k184, k185⟩ := pr181
            refine X_st [] rfl ?_
            obtain ⟨z186, ez186, lz186, uz186, kz186⟩ := k184
            refine X_iinc hK (i := 6) (z := z135) (n := 1) 1 [(6, .int (iI (z135 + 1))), (7, .int (iI ((x1 * 8) + z135))), (0, .ref a0), (1, .int (iI x1)), (2, .int (iI x2)), (3, .int (iI x3)), (4, .long y4)] kd30_6.2.2.2.2.2.2.2.2.2.1 rfl (by decide) rfl ?_
            refine X_goto hK 65 kd30_6.2.2.2.2.2.2.2.2.2.2.1 (by decide) ?_
            refine X_lv [(6, .int (iI (z135 + 1))), (0, .ref a0), (1, .int (iI x1)), (2, .int (iI x2)), (3, .int (iI x3)), (4, .long y4)] [0, 2, 3, 4, 5, 6] rfl ?_
            exact ihP161  g182 (xM.tr (xM_ua (xM.tr xM.rf xLe.rf hg136 (by decide)) hg172 hs_b171 (by decide) (by decide)) xLe.rf hg182 (by decide)) (z135 + 1) (by omega) (by omega) z186 (by omega) (by omega) ez186 kz186 (xFr.tr (xFr.t v163 hg172 hs_b171 (by decide)) k185) (by omega)
    exact P161 ((24 - 0 : Int).toNat + 1) g xM.rf 0 (by omega) (by omega) m0 (by omega) (by omega) em0 hp0 xFr.rf (by omega)
  · exact hret _ _ _ _ _ _ kd30_0.2.2.2.2.2.2.2.2.2.1 ⟨rfl, rfl, ⟨m0, em0, by omega, by omega, hp0⟩, xFr.rf⟩ (Nat.le_refl _) (Nat.le_refl _)

set_option maxHeartbeats 4000000 in
set_option maxRecDepth 100000 in
theorem c2_partBest (l : Launch) (D : va_G) (kA : Nat → ClassId) (b0 : Nat) (t0 : Nat → Nat) (S : xT) (g : xG) (a0 : Nat) (x1 : Int) (n0 : Int) (w3 : Nat) (hs_a0 : S a0 = some (7, 0)) (hx1 : (-2147483648) ≤ x1 ∧ x1 ≤ 2147483647) (hn0 : 1 ≤ n0 ∧ n0 ≤ 8) (en0 : g a0 0 = .int (iI n0)) (ew3 : g a0 3 = .ref w3) (hs_w3 : S w3 = some (12300, 8)) : xMt l yX6_partBest cX6_partBest 2 (some .int) 9 0 0 243 D kA b0 t0 [(12802, 0), (12600, 0), (7, 9), (12500, 0), (12300, 0)] [.ref a0, .int (iI x1)] S g (fun (r : Option Value) (S1 : xT) (g1 : xG) => S = S1 ∧ ∃ z : Int, r = some (.int (iI z)) ∧ (-2147483648) ≤ z ∧ z ≤ 2147483647 ∧ (z = -1 ∨ xCo n0 (xv g1 w3)) ∧ (xFr 12300 S g g1 w3)) := by
  refine xEnterI (by decide) (by simp [lg_sl, Value.category]) [(0, .ref a0), (1, .int (iI x1))] rfl ?_
  intro K E hK hret _ _ _
  refine X_aloadn hK (i := 0) 0 kd38_69.2.2.2.2.2.2.2.2.1 rfl rfl ?_
  refine X_iloadn hK (i := 1) 1 kd38_69.2.2.2.2.2.2.2.2.2.1 rfl rfl ?_
  refine X_callV hK [.int (iI x1)] [] lk_X6_73 (c_X6_findClashes _ _ _ _ _ S g a0 x1 hs_a0 (by omega)) hs_a0 ⟨by decide, rfl⟩ kd38_69.2.2.2.2.2.2.2.2.2.2.1 rfl rfl (by simp [Value.category]) (by decide) (by decide) (by decide) (by decide) (fun r1 S3 g2 pr1 qr1 hg2 => ?_)
  obtain ⟨rfl, rfl⟩ := pr1
  refine X_st [] rfl ?_
  refine X_aloadn hK (i := 0) 0 kd38_69.2.2.2.2.2.2.2.2.2.2.2 rfl rfl ?_
  refine X_callV hK [] [] lk_X6_77 (c_X6_findRest _ _ _ _ _ S g2 a0 n0 hs_a0 (by omega) ((hg2 a0 7 0 0 hs_a0 (by decide)).trans en0)) hs_a0 ⟨by decide, rfl⟩ kd38_70.1 rfl rfl (by simp [Value.category]) (by decide) (by decide) (by decide) (by decide) (fun r4 S6 g5 pr4 qr4 hg5 => ?_)
  obtain ⟨rfl, rfl⟩ := pr4
  refine X_st [] rfl ?_
  refine X_aloadn hK (i := 0) 0 kd38_70.2.1 rfl rfl ?_
  refine X_iconst hK kd38_70.2.2.1 ?_
  refine X_puti hK fl_X6_42_7 hs_a0 (by decide) sl_7_9 (by omega) (by omega) kd38_70.2.2.2.1 (fun g7 hg7 => ?_)
  refine X_aloadn hK (i := 0) 0 kd38_70.2.2.2.2.1 rfl rfl ?_
  refine X_iconst hK kd38_70.2.2.2.2.2.1 ?_
  refine X_iconst hK kd38_70.2.2.2.2.2.2.1 ?_
  refine X_iconst hK kd38_70.2.2.2.2.2.2.2.1 ?_
  refine X_lconst hK kd38_70.2.2.2.2.2.2.2.2.1 (fun y8 => ?_)
  refine X_callV hK [.int (iI 0), .int (iI 0), .int (iI 0), .long y8] [] lk_X6_80 (c2_place_0 _ _ _ _ _ S g7 a0 0 0 0 y8 n0 w3 (-1) hs_a0 (by omega) (by omega) (by omega) (by omega) ((xs_k hg7 (by decide)).trans ((hg5 a0 7 0 0 hs_a0 (by decide)).trans ((hg2 a0 7 0 0 hs_a0 (by decide)).trans en0))) ((xs_k hg7 (by decide)).trans ((hg5 a0 7 0 3 hs_a0 (by decide)).trans ((hg2 a0 7 0 3 hs_a0 (by decide)).trans ew3))) hs_w3 (by omega) (xs_s hg7) (Or.inl rfl)) hs_a0 ⟨by decide, rfl⟩ kd38_70.2.2.2.2.2.2.2.2.2.1 rfl rfl (by simp [Value.category]) (by decide) (by decide) (by decide) (by decide) (fun r9 S11 g10 pr9 qr9 hg10 => ?_)
  obtain ⟨rfl, rfl, k12, k13⟩ := pr9
  refine X_st [] rfl ?_
  obtain ⟨z14, ez14, lz14, uz14, kz14⟩ := k12
  refine X_aloadn hK (i := 0) 0 kd38_70.2.2.2.2.2.2.2.2.2.2.1 rfl rfl ?_
  refine X_getK hK fl_X6_42_7 hs_a0 ez14 kd38_70.2.2.2.2.2.2.2.2.2.2.2 ?_
  exact hret _ _ _ _ _ _ _ kd38_71 ⟨rfl, z14, rfl, (by omega), (by omega), (kz14), (xFr.tr (xFr.t (xFr.m (xFr.m xFr.rf hg2 (by decide)) hg5 (by decide)) hg7 hs_a0 (by decide)) k13)⟩ (Nat.le_refl _) (Nat.le_refl _)

set_option maxHeartbeats 4000000 in
set_option maxRecDepth 100000 in
theorem c_X6_hasPeace (l : Launch) (D : va_G) (kA : Nat → ClassId) (b0 : Nat) (t0 : Nat → Nat) (S : xT) (g : xG) (a0 : Nat) (x1 : Int) (n0 : Int) (w3 : Nat) (hs_a0 : S a0 = some (7, 0)) (hx1 : (-2147483648) ≤ x1 ∧ x1 ≤ 2147483647) (hn0 : 0 ≤ n0 ∧ n0 ≤ 8) (en0 : g a0 0 = .int (iI n0)) (ew3 : g a0 3 = .ref w3) (hs_w3 : S w3 = some (12300, 8)) (hp0 : xCo n0 (xv g w3)) : xMt l yX6_hasPeace cX6_hasPeace 4 (some .boolean) 1 0 0 25 D kA b0 t0 [] [.ref a0, .int (iI x1)] S g (fun (r : Option Value) (S1 : xT) (g1 : xG) => S = S1 ∧ g = g1 ∧ ∃ z : Int, r = some (.int (iI z)) ∧ 0 ≤ z ∧ z ≤ 1) := by
  refine xEnterZ (by decide) (by simp [lg_sl, Value.category]) [(0, .ref a0), (1, .int (iI x1))] rfl ?_
  intro K E hK hret _ _ _
  refine X_iconst hK kd43_6.2.2.2.2.2.1 ?_
  refine X_istoren hK (i := 2) [(2, .int (iI 0)), (0, .ref a0), (1, .int (iI x1))] kd43_6.2.2.2.2.2.2.1 rfl (by decide) rfl ?_
  have P475 : ∀ (nP475 : Nat) (z396 : Int) (_ : 0 ≤ z396) (_ : z396 ≤ 8) (_ : 24 - z396 < (nP475 : Int)), X K E 2 [(2, .int (iI z396)), (0, .ref a0), (1, .int (iI x1))] [] S g 0 0 := by
    intro nP475
    induction nP475 with
    | zero => intro z396 lz396 uz396 mP475; exact False.elim (by omega)
    | succ nP475 ihP475 =>
      intro z396 lz396 uz396 mP475
      refine X_iloadn hK (i := 2) 0 kd43_6.2.2.2.2.2.2.2.1 rfl rfl ?_
      refine X_aloadn hK (i := 0) 1 kd43_6.2.2.2.2.2.2.2.2.1 rfl rfl ?_
      refine X_getK hK fl_X6_9_7 hs_a0 en0 kd43_6.2.2.2.2.2.2.2.2.2.1 ?_
      refine X_icmp_ge hK 56 (by omega) (by omega) kd43_6.2.2.2.2.2.2.2.2.2.2.1 (by decide) (fun c476 => ?_) (fun c476 => ?_)
      · refine X_iconst hK kd43_9.2.1 ?_
        exact hret _ _ _ _ _ _ _ kd43_9.2.2.1 (by omega) (by omega) ⟨rfl, rfl, 1, rfl, (by omega), (by omega)⟩ (Nat.le_refl _) (Nat.le_refl _)
      · refine X_iconst hK kd43_6.2.2.2.2.2.2.2.2.2.2.2 ?_
        refine X_istoren hK (i := 3) [(3, .int (iI 0)), (2, .int (iI z396)), (0, .ref a0), (1, .int (iI x1))] kd43_7.1 rfl (by decide) rfl ?_
        have P543 : ∀ (nP543 : Nat) (z532 : Int) (_ : 0 ≤ z532) (_ : z532 ≤ 8) (_ : 24 - z532 < (nP543 : Int)), X K E 12 [(3, .int (iI z532)), (2, .int (iI z396)), (0, .ref a0), (1, .int (iI x1))] [] S g 0 0 := by
          intro nP543
          induction nP543 with
          | zero => intro z532 lz532 uz532 mP543; exact False.elim (by omega)
          | succ nP543 ihP543 =>
            intro z532 lz532 uz532 mP543
            refine X_iloadn hK (i := 3) 0 kd43_7.2.1 rfl rfl ?_
            refine X_aloadn hK (i := 0) 2 kd43_7.2.2.1 rfl rfl ?_
            refine X_getK hK fl_X6_9_7 hs_a0 en0 kd43_7.2.2.2.1 ?_
            refine X_icmp_ge hK 50 (by omega) (by omega) kd43_7.2.2.2.2.1 (by decide) (fun c544 => ?_) (fun c544 => ?_)
            · refine X_iinc hK (i := 2) (z := z396) (n := 1) 1 [(2, .int (iI (z396 + 1))), (3, .int (iI z532)), (0, .ref a0), (1, .int (iI x1))] kd43_8.2.2.2.2.2.2.2.2.2.2.2 rfl (by decide) rfl ?_
              refine X_goto hK 2 kd43_9.1 (by decide) ?_
              refine X_lv [(2, .int (iI (z396 + 1))), (0, .ref a0), (1, .int (iI x1))] [0, 2, 3] rfl ?_
              exact ihP475  (z396 + 1) (by omega) (by omega) (by omega)
            · refine X_aloadn hK (i := 0) 2 kd43_7.2.2.2.2.2.1 rfl rfl ?_
              refine X_iloadn hK (i := 2) 1 kd43_7.2.2.2.2.2.2.1 rfl rfl ?_
              refine X_aloadn hK (i := 0) 2 kd43_7.2.2.2.2.2.2.2.1 rfl rfl ?_
              refine X_getK hK fl_X6_22_7 hs_a0 ew3 kd43_7.2.2.2.2.2.2.2.2.1 ?_
              refine X_iloadn hK (i := 2) 1 kd43_7.2.2.2.2.2.2.2.2.2.1 rfl rfl ?_
              refine X_iald hK hs_w3 (by decide) sl_12300 (by omega) (by omega) kd43_7.2.2.2.2.2.2.2.2.2.2.1 (fun z545 ez545 lz545 uz545 => ?_)
              have hch546 : 0 ≤ z545 := by have h9 := hp0 z396 (by omega) (by omega); rw [xv_e (j := z396) ez545 (by omega)] at h9; exact h9
              refine X_iloadn hK (i := 3) 0 kd43_7.2.2.2.2.2.2.2.2.2.2.2 rfl rfl ?_
              refine X_aloadn hK (i := 0) 2 kd43_8.1 rfl rfl ?_
              refine X_getK hK fl_X6_22_7 hs_a0 ew3 kd43_8.2.1 ?_
              refine X_iloadn hK (i := 3) 0 kd43_8.2.2.1 rfl rfl ?_
              refine X_iald hK hs_w3 (by decide) sl_12300 (by omega) (by omega) kd43_8.2.2.2.1 (fun z547 ez547 lz547 uz547 => ?_)
              have hch548 : 0 ≤ z547 := by have h9 := hp0 z532 (by omega) (by omega); rw [xv_e (j := z532) ez547 (by omega)] at h9; exact h9
              refine X_iloadn hK (i := 1) 3 kd43_8.2.2.2.2.1 rfl rfl ?_
              refine X_callV hK [.int (iI z396), .int (iI z545), .int (iI z532), .int (iI z547), .int (iI x1)] [] lk_X6_50 (c_X6_wouldFight _ _ _ _ _ S g a0 z396 z545 z532 z547 x1 hs_a0 (by omega) (by omega) (by omega) (by omega) (by omega)) hs_a0 ⟨by decide, rfl⟩ kd43_8.2.2.2.2.2.1 rfl rfl (by simp [Value.category]) (by decide) (by decide) (by decide) (by decide) (fun r549 S551 g550 pr549 qr549 hg550 => ?_)
              obtain ⟨rfl, rfl, z552, rfl, lz552, uz552⟩ := pr549
              refine X_st [.int (iI z552)] rfl ?_
              refine X_if_eq hK 44 (by omega) kd43_8.2.2.2.2.2.2.1 (by decide) (fun c553 => ?_) (fun c553 => ?_)
              · refine X_iinc hK (i := 3) (z := z532) (n := 1) 0 [(3, .int (iI (z532 + 1))), (2, .int (iI z396)), (0, .ref a0), (1, .int (iI x1))] kd43_8.2.2.2.2.2.2.2.2.2.1 rfl (by decide) rfl ?_
                refine X_goto hK 12 kd43_8.2.2.2.2.2.2.2.2.2.2.1 (by decide) ?_
                exact ihP543  (z532 + 1) (by omega) (by omega) (by omega)
              · refine X_iconst hK kd43_8.2.2.2.2.2.2.2.1 ?_
                exact hret _ _ _ _ _ _ _ kd43_8.2.2.2.2.2.2.2.2.1 (by omega) (by omega) ⟨rfl, rfl, 0, rfl, (by omega), (by omega)⟩ (Nat.le_refl _) (Nat.le_refl _)
        exact P543 ((24 - 0 : Int).toNat + 1) 0 (by omega) (by omega) (by omega)
  exact P475 ((24 - 0 : Int).toNat + 1) 0 (by omega) (by omega) (by omega)

set_option maxHeartbeats 4000000 in
set_option maxRecDepth 100000 in
theorem c2_learn (l : Launch) (D : va_G) (kA : Nat → ClassId) (b0 : Nat) (t0 : Nat → Nat) (S : xT) (g : xG) (a0 : Nat) (x1 : Int) (a2 : Nat) (hs_a0 : S a0 = some (7, 0)) (hx1 : 1 ≤ x1 ∧ x1 ≤ 8) (hs_a2 : S a2 = some (10, 0)) : xMt l yX6_learn cX6_learn 6 none 0 0 0 0 D kA b0 t0 [(7, 0), (12100, 0), (12200, 0)] [.ref a0, .int (iI x1), .ref a2] S g (fun (r : Option Value) (S1 : xT) (g1 : xG) => S = S1 ∧ r = none ∧ (g1 a0 0 = .int (iI x1)) ∧ (xFr 7 S g g1 a0)) := by
  refine xEnterV (by decide) (by simp [lg_sl, Value.category]) [(0, .ref a0), (1, .int (iI x1)), (2, .ref a2)] rfl ?_
  intro K E hK hret _ _ _
  refine X_aloadn hK (i := 0) 0 kd26_21.2.2.2.2.2.2.2.2.2.2.2 rfl rfl ?_
  refine X_iloadn hK (i := 1) 1 kd26_22.1 rfl rfl ?_
  refine X_puti hK fl_X6_9_7 hs_a0 (by decide) sl_7_0 (by omega) (by omega) kd26_22.2.1 (fun g1 hg1 => ?_)
  refine X_iconst hK kd26_22.2.2.1 ?_
  refine X_istoren hK (i := 3) [(3, .int (iI 0)), (0, .ref a0), (1, .int (iI x1)), (2, .ref a2)] kd26_22.2.2.2.1 rfl (by decide) rfl ?_
  have P822 : ∀ (nP822 : Nat) (g684 : xG) (_ : xM [(12200, 0), (12100, 0)] S g1 g684) (z683 : Int) (_ : 0 ≤ z683) (_ : z683 ≤ 8) (_ : 24 - z683 < (nP822 : Int)), X K E 7 [(3, .int (iI z683)), (0, .ref a0), (1, .int (iI x1)), (2, .ref a2)] [] S g684 0 0 := by
    intro nP822
    induction nP822 with
    | zero => intro g684 hg684 z683 lz683 uz683 mP822; exact False.elim (by omega)
    | succ nP822 ihP822 =>
      intro g684 hg684 z683 lz683 uz683 mP822
      refine X_iloadn hK (i := 3) 0 kd26_22.2.2.2.2.1 rfl rfl ?_
      refine X_aloadn hK (i := 0) 1 kd26_22.2.2.2.2.2.1 rfl rfl ?_
      refine X_getK hK fl_X6_9_7 hs_a0 ((hg684 a0 7 0 0 hs_a0 (by decide)).trans (xs_s hg1)) kd26_22.2.2.2.2.2.2.1 ?_
      refine X_icmp_ge hK 98 (by omega) (by omega) kd26_22.2.2.2.2.2.2.2.1 (by decide) (fun c823 => ?_) (fun c823 => ?_)
      · exact hret _ _ _ _ _ _ kd26_26.2.2.2.2.2.2.2.1 ⟨rfl, rfl, ((hg684 a0 7 0 0 hs_a0 (by decide)).trans (xs_s hg1)), (xFr.m (xFr.w xFr.rf hg1) hg684 (by decide))⟩ (Nat.le_refl _) (Nat.le_refl _)
      · refine X_iconst hK kd26_22.2.2.2.2.2.2.2.2.1 ?_
        refine X_istore hK (i := 4) [(4, .int (iI 0)), (3, .int (iI z683)), (0, .ref a0), (1, .int (iI x1)), (2, .ref a2)] kd26_22.2.2.2.2.2.2.2.2.2.1 (by decide) rfl ?_
        have P940 : ∀ (nP940 : Nat) (g920 : xG) (_ : xM [(12200, 0), (12100, 0)] S g684 g920) (z919 : Int) (_ : 0 ≤ z919) (_ : z919 ≤ 8) (_ : 24 - z919 < (nP940 : Int)), X K E 18 [(4, .int (iI z919)), (3, .int (iI z683)), (0, .ref a0), (1, .int (iI x1)), (2, .ref a2)] [] S g920 0 0 := by
          intro nP940
          induction nP940 with
          | zero => intro g920 hg920 z919 lz919 uz919 mP940; exact False.elim (by omega)
          | succ nP940 ihP940 =>
            intro g920 hg920 z919 lz919 uz919 mP940
            refine X_iload hK (i := 4) 0 kd26_22.2.2.2.2.2.2.2.2.2.2.1 rfl ?_
            refine X_aloadn hK (i := 0) 2 kd26_22.2.2.2.2.2.2.2.2.2.2.2 rfl rfl ?_
            refine X_getK hK fl_X6_9_7 hs_a0 ((hg920 a0 7 0 0 hs_a0 (by decide)).trans ((hg684 a0 7 0 0 hs_a0 (by decide)).trans (xs_s hg1))) kd26_23.1 ?_
            refine X_icmp_ge hK 92 (by omega) (by omega) kd26_23.2.1 (by decide) (fun c941 => ?_) (fun c941 => ?_)
            · refine X_iinc hK (i := 3) (z := z683) (n := 1) 1 [(3, .int (iI (z683 + 1))), (4, .int (iI z919)), (0, .ref a0), (1, .int (iI x1)), (2, .ref a2)] kd26_26.2.2.2.2.2.1 rfl (by decide) rfl ?_
              refine X_goto hK 7 kd26_26.2.2.2.2.2.2.1 (by decide) ?_
              refine X_lv [(3, .int (iI (z683 + 1))), (0, .ref a0), (1, .int (iI x1)), (2, .ref a2)] [0, 2, 3, 4] rfl ?_
              exact ihP822  g920 (xM.tr (xM.tr xM.rf xLe.rf hg684 (by decide)) xLe.rf hg920 (by decide)) (z683 + 1) (by omega) (by omega) (by omega)
            · refine X_iloadn hK (i := 3) 1 kd26_23.2.2.1 rfl rfl ?_
              refine X_aloadn hK (i := 0) 2 kd26_23.2.2.2.1 rfl rfl ?_
              refine X_getK hK fl_X6_9_7 hs_a0 ((hg920 a0 7 0 0 hs_a0 (by decide)).trans ((hg684 a0 7 0 0 hs_a0 (by decide)).trans (xs_s hg1))) kd26_23.2.2.2.2.1 ?_
              refine X_imul hK kd26_23.2.2.2.2.2.1 ?_
              have hm951 := xmulB (a := z683) (b := x1) (A := 7) (B := 8) (by omega) (by omega) (by omega) (by omega)
              refine X_iload hK (i := 4) 0 kd26_23.2.2.2.2.2.2.1 rfl ?_
              refine X_iadd hK kd26_23.2.2.2.2.2.2.2.1 ?_
              refine X_istore hK (i := 5) [(5, .int (iI ((z683 * x1) + z919))), (4, .int (iI z919)), (3, .int (iI z683)), (0, .ref a0), (1, .int (iI x1)), (2, .ref a2)] kd26_23.2.2.2.2.2.2.2.2.1 (by decide) rfl ?_
              refine X_aloadn hK (i := 0) 3 kd26_23.2.2.2.2.2.2.2.2.2.1 rfl rfl ?_
              refine X_getr hK 12100 64 fl_X6_15_7 hs_a0 sl_7_1 kd26_23.2.2.2.2.2.2.2.2.2.2.1 (fun b952 eb952 hs_b952 => ?_)
              refine X_iloadn hK (i := 3) 2 kd26_23.2.2.2.2.2.2.2.2.2.2.2 rfl rfl ?_
              refine X_bipush hK kd26_24.1 (by decide) ?_
              refine X_imul hK kd26_24.2.1 ?_
              refine X_iload hK (i := 4) 1 kd26_24.2.2.1 rfl ?_
              refine X_iadd hK kd26_24.2.2.2.1 ?_
              refine X_aloadn hK (i := 2) 5 kd26_24.2.2.2.2.1 rfl rfl ?_
              refine X_getr hK 13500 420 fl_X6_45_10 hs_a2 sl_10_0 kd26_24.2.2.2.2.2.1 (fun b953 eb953 hs_b953 => ?_)
              refine X_iload hK (i := 5) 0 kd26_24.2.2.2.2.2.2.1 rfl ?_
              refine X_iald hK hs_b953 (by decide) sl_13500 (by omega) (by omega) kd26_24.2.2.2.2.2.2.2.1 (fun z954 ez954 lz954 uz954 => ?_)
              refine X_iast hK hs_b952 (by decide) (by decide) sl_12100 (by omega) (by omega) (by omega) (by omega) kd26_24.2.2.2.2.2.2.2.2.1 (fun g955 hg955 => ?_)
              refine X_aloadn hK (i := 0) 3 kd26_24.2.2.2.2.2.2.2.2.2.1 rfl rfl ?_
              refine X_getr hK 12200 64 fl_X6_19_7 hs_a0 sl_7_2 kd26_24.2.2.2.2.2.2.2.2.2.2.1 (fun b956 eb956 hs_b956 => ?_)
              refine X_iloadn hK (i := 3) 2 kd26_24.2.2.2.2.2.2.2.2.2.2.2 rfl rfl ?_
              refine X_bipush hK kd26_25.1 (by decide) ?_
              refine X_imul hK kd26_25.2.1 ?_
              refine X_iload hK (i := 4) 1 kd26_25.2.2.1 rfl ?_
              refine X_iadd hK kd26_25.2.2.2.1 ?_
              refine X_aloadn hK (i := 2) 5 kd26_25.2.2.2.2.1 rfl rfl ?_
              refine X_getK hK fl_X6_45_10 hs_a2 ((xs_a hg955 (xne hs_a2 hs_b952 (by decide))).trans eb953) kd26_25.2.2.2.2.2.1 ?_
              refine X_aloadn hK (i := 0) 3 kd26_25.2.2.2.2.2.2.1 rfl rfl ?_
              refine X_getK hK fl_X6_9_7 hs_a0 ((xs_a hg955 (xne hs_a0 hs_b952 (by decide))).trans ((hg920 a0 7 0 0 hs_a0 (by decide)).trans ((hg684 a0 7 0 0 hs_a0 (by decide)).trans (xs_s hg1)))) kd26_25.2.2.2.2.2.2.2.1 ?_
              refine X_aloadn hK (i := 0) 3 kd26_25.2.2.2.2.2.2.2.2.1 rfl rfl ?_
              refine X_getK hK fl_X6_9_7 hs_a0 ((xs_a hg955 (xne hs_a0 hs_b952 (by decide))).trans ((hg920 a0 7 0 0 hs_a0 (by decide)).trans ((hg684 a0 7 0 0 hs_a0 (by decide)).trans (xs_s hg1)))) kd26_25.2.2.2.2.2.2.2.2.2.1 ?_
              refine X_imul hK kd26_25.2.2.2.2.2.2.2.2.2.2.1 ?_
              have hm957 := xmulB (a := x1) (b := x1) (A := 8) (B := 8) (by omega) (by omega) (by omega) (by omega)
              refine X_iload hK (i := 5) 0 kd26_25.2.2.2.2.2.2.2.2.2.2.2 rfl ?_
              refine X_iadd hK kd26_26.1 ?_
              refine X_iald hK hs_b953 (by decide) sl_13500 (by omega) (by omega) kd26_26.2.1 (fun z958 ez958 lz958 uz958 => ?_)
              refine X_iast hK hs_b956 (by decide) (by decide) sl_12200 (by omega) (by omega) (by omega) (by omega) kd26_26.2.2.1 (fun g959 hg959 => ?_)
              refine X_iinc hK (i := 4) (z := z919) (n := 1) 1 [(4, .int (iI (z919 + 1))), (5, .int (iI ((z683 * x1) + z919))), (3, .int (iI z683)), (0, .ref a0), (1, .int (iI x1)), (2, .ref a2)] kd26_26.2.2.2.1 rfl (by decide) rfl ?_
              refine X_goto hK 18 kd26_26.2.2.2.2.1 (by decide) ?_
              refine X_lv [(4, .int (iI (z919 + 1))), (3, .int (iI z683)), (0, .ref a0), (1, .int (iI x1)), (2, .ref a2)] [0, 2, 3, 4, 5] rfl ?_
              exact ihP940  g959 (xM_ua (xM_ua (xM.tr xM.rf xLe.rf hg920 (by decide)) hg955 hs_b952 (by decide) (by decide)) hg959 hs_b956 (by decide) (by decide)) (z919 + 1) (by omega) (by omega) (by omega)
        exact P940 ((24 - 0 : Int).toNat + 1) g684 xM.rf 0 (by omega) (by omega) (by omega)
  exact P822 ((24 - 0 : Int).toNat + 1) g1 xM.rf 0 (by omega) (by omega) (by omega)

set_option maxHeartbeats 4000000 in
set_option maxRecDepth 100000 in
theorem c_X11_parted (l : Launch) (D : va_G) (kA : Nat → ClassId) (b0 : Nat) (t0 : Nat → Nat) (S : xT) (g : xG) (a0 : Nat) (x1 : Int) (x2 : Int) (x3 : Int) (w0 : Nat) (n0 : Int) (hs_a0 : S a0 = some (12, 0)) (hx1 : (-2147483648) ≤ x1 ∧ x1 ≤ 2147483647) (hx2 : (-2147483648) ≤ x2 ∧ x2 ≤ 2147483647) (hx3 : (-2147483648) ≤ x3 ∧ x3 ≤ 2147483647) (ew0 : g a0 0 = .ref w0) (hs_w0 : S w0 = some (10, 0)) (hn0 : 0 ≤ n0 ∧ n0 ≤ 420) (en0 : g w0 1 = .int (iI n0)) (hp0 : xPi S g a0) : xMt l yX11_parted cX11_parted 6 (some .int) 10 0 0 264 D kA b0 t0 [(10, 1), (7, 0), (12100, 0), (12200, 0), (12802, 0), (12600, 0), (7, 9), (12500, 0), (12300, 0), (12, 10), (12, 11), (12400, 0), (12701, 0)] [.ref a0, .int (iI x1), .int (iI x2), .int (iI x3)] S g (fun (r : Option Value) (S1 : xT) (g1 : xG) => S = S1 ∧ ∃ z : Int, r = some (.int (iI z)) ∧ (-2147483648) ≤ z ∧ z ≤ 2147483647 ∧ (g1 w0 1 = .int (iI (0))) ∧ (xPi S g1 a0)) := by
  refine xEnterI (by decide) (by simp [lg_sl, Value.category]) [(0, .ref a0), (1, .int (iI x1)), (2, .int (iI x2)), (3, .int (iI x3))] rfl ?_
  intro K E hK hret _ _ _
  refine X_iconst hK kd43_0.1 ?_
  obtain ⟨p8, q8, c8, d8, n8, hpi1, hpi2, hpi3, hpi4, hs_p8, hs_q8, hpi7, hpi8, hpi9, hs_c8, hs_d8, hpi12, hpi13, hpi14, hpi15⟩ := hp0
  refine X_istore hK (i := 4) [(4, .int (iI (-1))), (0, .ref a0), (1, .int (iI x1)), (2, .int (iI x2)), (3, .int (iI x3))] kd43_0.2.1 (by decide) rfl ?_
  refine X_iloadn hK (i := 1) 2 kd43_0.2.2.1 rfl rfl ?_
  refine X_iconst hK kd43_0.2.2.2.1 ?_
  refine X_bipush hK kd43_0.2.2.2.2.1 (by decide) ?_
  refine X_callS hK [.int (iI x1), .int (iI 1), .int (iI 8)] [] lk_X11_115 (c_X11_within _ _ _ _ _ S g x1 1 8 (by omega) (by omega) (by omega)) kd43_0.2.2.2.2.2.1 rfl rfl (by simp [Value.category]) (by decide) (by decide) (by decide) (by decide) (fun r1 S3 g2 pr1 qr1 hg2 => ?_)
  obtain ⟨rfl, rfl, z4, rfl, lz4, uz4, k5⟩ := pr1
  refine X_st [.int (iI z4)] rfl ?_
  refine X_if_eq hK 78 (by omega) kd43_0.2.2.2.2.2.2.1 (by decide) (fun c6 => ?_) (fun c6 => ?_)
  · refine X_iload hK (i := 4) 0 kd43_3.2.2.2.2.1 rfl ?_
    refine X_iconst hK kd43_3.2.2.2.2.2.1 ?_
    refine X_icmp_eq hK 104 (by omega) (by omega) kd43_3.2.2.2.2.2.2.1 (by decide) (fun c7 => ?_) (fun c7 => False.elim (by omega))
    refine X_aloadn hK (i := 0) 1 kd43_4.2.2.2.2.2.1 rfl rfl ?_
    refine X_getK hK fl_X11_10_12 hs_a0 ew0 kd43_4.2.2.2.2.2.2.1 ?_
    refine X_iconst hK kd43_4.2.2.2.2.2.2.2.1 ?_
    refine X_puti hK fl_X11_102_10 hs_w0 (by decide) sl_10_1 (by omega) (by omega) kd43_4.2.2.2.2.2.2.2.2.1 (fun g8 hg8 => ?_)
    refine X_iload hK (i := 4) 0 kd43_4.2.2.2.2.2.2.2.2.2.1 rfl ?_
    exact hret _ _ _ _ _ _ _ kd43_4.2.2.2.2.2.2.2.2.2.2.1 ⟨rfl, (-1), rfl, (by omega), (by omega), ((xs_s hg8).trans (by congr 2 <;> omega)), ⟨p8, q8, c8, d8, n8, hs_a0, ((xs_k hg8 (by decide)).trans hpi2), ((xs_k hg8 (by decide)).trans hpi3), hpi4, hs_p8, hs_q8, ((xs_k hg8 (by decide)).trans hpi7), ((xs_k hg8 (by decide)).trans hpi8), hpi9, hs_c8, hs_d8, ((xs_k hg8 (by decide)).trans hpi12), by omega, by omega, (by rw [(xv_a hg8 (xne hs_c8 hs_w0 (by decide)))]; exact hpi15)⟩⟩ (Nat.le_refl _) (Nat.le_refl _)
  · refine X_aloadn hK (i := 0) 1 kd43_0.2.2.2.2.2.2.2.1 rfl rfl ?_
    refine X_getK hK fl_X11_10_12 hs_a0 ew0 kd43_0.2.2.2.2.2.2.2.2.1 ?_
    refine X_getK hK fl_X11_102_10 hs_w0 en0 kd43_0.2.2.2.2.2.2.2.2.2.1 ?_
    refine X_iconst hK kd43_0.2.2.2.2.2.2.2.2.2.2.1 ?_
    refine X_iloadn hK (i := 1) 2 kd43_0.2.2.2.2.2.2.2.2.2.2.2 rfl rfl ?_
    refine X_imul hK kd43_1.1 ?_
    refine X_iloadn hK (i := 1) 2 kd43_1.2.1 rfl rfl ?_
    refine X_imul hK kd43_1.2.2.1 ?_
    have hm9 := xmulB (a := (2 * x1)) (b := x1) (A := 16) (B := 8) (by omega) (by omega) (by omega) (by omega)
    refine X_icmp_ne hK 78 (by omega) (by omega) kd43_1.2.2.2.1 (by decide) (fun c10 => ?_) (fun c10 => ?_)
    · refine X_iload hK (i := 4) 0 kd43_3.2.2.2.2.1 rfl ?_
      refine X_iconst hK kd43_3.2.2.2.2.2.1 ?_
      refine X_icmp_eq hK 104 (by omega) (by omega) kd43_3.2.2.2.2.2.2.1 (by decide) (fun c11 => ?_) (fun c11 => False.elim (by omega))
      refine X_aloadn hK (i := 0) 1 kd43_4.2.2.2.2.2.1 rfl rfl ?_
      refine X_getK hK fl_X11_10_12 hs_a0 ew0 kd43_4.2.2.2.2.2.2.1 ?_
      refine X_iconst hK kd43_4.2.2.2.2.2.2.2.1 ?_
      refine X_puti hK fl_X11_102_10 hs_w0 (by decide) sl_10_1 (by omega) (by omega) kd43_4.2.2.2.2.2.2.2.2.1 (fun g12 hg12 => ?_)
      refine X_iload hK (i := 4) 0 kd43_4.2.2.2.2.2.2.2.2.2.1 rfl ?_
      exact hret _ _ _ _ _ _ _ kd43_4.2.2.2.2.2.2.2.2.2.2.1 ⟨rfl, (-1), rfl, (by omega), (by omega), ((xs_s hg12).trans (by congr 2 <;> omega)), ⟨p8, q8, c8, d8, n8, hs_a0, ((xs_k hg12 (by decide)).trans hpi2), ((xs_k hg12 (by decide)).trans hpi3), hpi4, hs_p8, hs_q8, ((xs_k hg12 (by decide)).trans hpi7), ((xs_k hg12 (by decide)).trans hpi8), hpi9, hs_c8, hs_d8, ((xs_k hg12 (by decide)).trans hpi12), by omega, by omega, (by rw [(xv_a hg12 (xne hs_c8 hs_w0 (by decide)))]; exact hpi15)⟩⟩ (Nat.le_refl _) (Nat.le_refl _)
    · refine X_aloadn hK (i := 0) 1 kd43_1.2.2.2.2.1 rfl rfl ?_
      refine X_getK hK fl_X11_80_12 hs_a0 hpi3 kd43_1.2.2.2.2.2.1 ?_
      refine X_iloadn hK (i := 1) 2 kd43_1.2.2.2.2.2.2.1 rfl rfl ?_
      refine X_aloadn hK (i := 0) 1 kd43_1.2.2.2.2.2.2.2.1 rfl rfl ?_
      refine X_getK hK fl_X11_10_12 hs_a0 ew0 kd43_1.2.2.2.2.2.2.2.2.1 ?_
      refine X_callV hK [.int (iI x1), .ref w0] [] lk_X11_318 (c2_learn _ _ _ _ _ S g q8 x1 w0 hs_q8 (by omega) hs_w0) hs_q8 ⟨by decide, rfl⟩ kd43_1.2.2.2.2.2.2.2.2.2.1 rfl rfl (by simp [Value.category]) (by decide) (by decide) (by decide) (by decide) (fun r13 S15 g14 pr13 qr13 hg14 => ?_)
      obtain ⟨rfl, rfl, k16, k17⟩ := pr13
      refine X_st [] rfl ?_
      have eLh18 : g14 p8 0 = .int (iI n8) := (k17 p8 0 0 hs_p8 hpi4).trans hpi12
      refine X_iloadn hK (i := 2) 3 kd43_1.2.2.2.2.2.2.2.2.2.2.1 rfl rfl ?_
      refine X_if_ne hK 56 (by omega) kd43_1.2.2.2.2.2.2.2.2.2.2.2 (by decide) (fun c19 => ?_) (fun c19 => ?_)
      · refine X_iloadn hK (i := 2) 3 kd43_2.2.2.2.2.2.1 rfl rfl ?_
        refine X_iconst hK kd43_2.2.2.2.2.2.2.1 ?_
        refine X_icmp_ne hK 78 (by omega) (by omega) kd43_2.2.2.2.2.2.2.2.1 (by decide) (fun c20 => ?_) (fun c20 => ?_)
        · refine X_iload hK (i := 4) 0 kd43_3.2.2.2.2.1 rfl ?_
          refine X_iconst hK kd43_3.2.2.2.2.2.1 ?_
          refine X_icmp_eq hK 104 (by omega) (by omega) kd43_3.2.2.2.2.2.2.1 (by decide) (fun c21 => ?_) (fun c21 => False.elim (by omega))
          refine X_aloadn hK (i := 0) 1 kd43_4.2.2.2.2.2.1 rfl rfl ?_
          refine X_getK hK fl_X11_10_12 hs_a0 ((hg14 a0 12 0 0 hs_a0 (by decide)).trans ew0) kd43_4.2.2.2.2.2.2.1 ?_
          refine X_iconst hK kd43_4.2.2.2.2.2.2.2.1 ?_
          refine X_puti hK fl_X11_102_10 hs_w0 (by decide) sl_10_1 (by omega) (by omega) kd43_4.2.2.2.2.2.2.2.2.1 (fun g22 hg22 => ?_)
          refine X_iload hK (i := 4) 0 kd43_4.2.2.2.2.2.2.2.2.2.1 rfl ?_
          exact hret _ _ _ _ _ _ _ kd43_4.2.2.2.2.2.2.2.2.2.2.1 ⟨rfl, (-1), rfl, (by omega), (by omega), ((xs_s hg22).trans (by congr 2 <;> omega)), ⟨p8, q8, c8, d8, n8, hs_a0, ((xs_k hg22 (by decide)).trans ((hg14 a0 12 0 10 hs_a0 (by decide)).trans hpi2)), ((xs_k hg22 (by decide)).trans ((hg14 a0 12 0 11 hs_a0 (by decide)).trans hpi3)), hpi4, hs_p8, hs_q8, ((xs_k hg22 (by decide)).trans ((hg14 p8 7 0 3 hs_p8 (by decide)).trans hpi7)), ((xs_k hg22 (by decide)).trans ((hg14 q8 7 0 3 hs_q8 (by decide)).trans hpi8)), hpi9, hs_c8, hs_d8, ((xs_k hg22 (by decide)).trans eLh18), by omega, by omega, (by rw [(xv_a hg22 (xne hs_c8 hs_w0 (by decide))), (xv_m hg14 hs_c8 (by decide) (by decide))]; exact hpi15)⟩⟩ (Nat.le_refl _) (Nat.le_refl _)
        · refine X_iloadn hK (i := 3) 4 kd43_2.2.2.2.2.2.2.2.2.1 rfl rfl ?_
          refine X_callS hK [.int (iI x3)] [] lk_X11_324 (c_X11_isSum _ _ _ _ _ S g14 x3 (by omega)) kd43_2.2.2.2.2.2.2.2.2.2.1 rfl rfl (by simp [Value.category]) (by decide) (by decide) (by decide) (by decide) (fun r23 S25 g24 pr23 qr23 hg24 => ?_)
          obtain ⟨rfl, rfl, z26, rfl, lz26, uz26, k27⟩ := pr23
          refine X_st [.int (iI z26)] rfl ?_
          refine X_if_eq hK 78 (by omega) kd43_2.2.2.2.2.2.2.2.2.2.2.1 (by decide) (fun c28 => ?_) (fun c28 => ?_)
          · refine X_iload hK (i := 4) 0 kd43_3.2.2.2.2.1 rfl ?_
            refine X_iconst hK kd43_3.2.2.2.2.2.1 ?_
            refine X_icmp_eq hK 104 (by omega) (by omega) kd43_3.2.2.2.2.2.2.1 (by decide) (fun c29 => ?_) (fun c29 => False.elim (by omega))
            refine X_aloadn hK (i := 0) 1 kd43_4.2.2.2.2.2.1 rfl rfl ?_
            refine X_getK hK fl_X11_10_12 hs_a0 ((hg14 a0 12 0 0 hs_a0 (by decide)).trans ew0) kd43_4.2.2.2.2.2.2.1 ?_
            refine X_iconst hK kd43_4.2.2.2.2.2.2.2.1 ?_
            refine X_puti hK fl_X11_102_10 hs_w0 (by decide) sl_10_1 (by omega) (by omega) kd43_4.2.2.2.2.2.2.2.2.1 (fun g30 hg30 => ?_)
            refine X_iload hK (i := 4) 0 kd43_4.2.2.2.2.2.2.2.2.2.1 rfl ?_
            exact hret _ _ _ _ _ _ _ kd43_4.2.2.2.2.2.2.2.2.2.2.1 ⟨rfl, (-1), rfl, (by omega), (by omega), ((xs_s hg30).trans (by congr 2 <;> omega)), ⟨p8, q8, c8, d8, n8, hs_a0, ((xs_k hg30 (by decide)).trans ((hg14 a0 12 0 10 hs_a0 (by decide)).trans hpi2)), ((xs_k hg30 (by decide)).trans ((hg14 a0 12 0 11 hs_a0 (by decide)).trans hpi3)), hpi4, hs_p8, hs_q8, ((xs_k hg30 (by decide)).trans ((hg14 p8 7 0 3 hs_p8 (by decide)).trans hpi7)), ((xs_k hg30 (by decide)).trans ((hg14 q8 7 0 3 hs_q8 (by decide)).trans hpi8)), hpi9, hs_c8, hs_d8, ((xs_k hg30 (by decide)).trans eLh18), by omega, by omega, (by rw [(xv_a hg30 (xne hs_c8 hs_w0 (by decide))), (xv_m hg14 hs_c8 (by decide) (by decide))]; exact hpi15)⟩⟩ (Nat.le_refl _) (Nat.le_refl _)
          · refine X_aloadn hK (i := 0) 1 kd43_2.2.2.2.2.2.2.2.2.2.2.2 rfl rfl ?_
            refine X_getK hK fl_X11_80_12 hs_a0 ((hg14 a0 12 0 11 hs_a0 (by decide)).trans hpi3) kd43_3.1 ?_
            refine X_iloadn hK (i := 3) 4 kd43_3.2.1 rfl rfl ?_
            refine X_callV hK [.int (iI x3)] [] lk_X11_327 (c2_partBest _ _ _ _ _ S g14 q8 x3 x1 d8 hs_q8 (by omega) (by omega) k16 ((hg14 q8 7 0 3 hs_q8 (by decide)).trans hpi8) hs_d8) hs_q8 ⟨by decide, rfl⟩ kd43_3.2.2.1 rfl rfl (by simp [Value.category]) (by decide) (by decide) (by decide) (by decide) (fun r31 S33 g32 pr31 qr31 hg32 => ?_)
            obtain ⟨rfl, z34, rfl, lz34, uz34, k35, k36⟩ := pr31
            refine X_st [.int (iI z34)] rfl ?_
            refine X_istore hK (i := 4) [(4, .int (iI z34)), (0, .ref a0), (1, .int (iI x1)), (2, .int (iI x2)), (3, .int (iI x3))] kd43_3.2.2.2.1 (by decide) rfl ?_
            refine X_iload hK (i := 4) 0 kd43_3.2.2.2.2.1 rfl ?_
            refine X_iconst hK kd43_3.2.2.2.2.2.1 ?_
            refine X_icmp_eq hK 104 (by omega) (by omega) kd43_3.2.2.2.2.2.2.1 (by decide) (fun c37 => ?_) (fun c37 => ?_)
            · refine X_aloadn hK (i := 0) 1 kd43_4.2.2.2.2.2.1 rfl rfl ?_
              refine X_getK hK fl_X11_10_12 hs_a0 ((hg32 a0 12 0 0 hs_a0 (by decide)).trans ((hg14 a0 12 0 0 hs_a0 (by decide)).trans ew0)) kd43_4.2.2.2.2.2.2.1 ?_
              refine X_iconst hK kd43_4.2.2.2.2.2.2.2.1 ?_
              refine X_puti hK fl_X11_102_10 hs_w0 (by decide) sl_10_1 (by omega) (by omega) kd43_4.2.2.2.2.2.2.2.2.1 (fun g38 hg38 => ?_)
              refine X_iload hK (i := 4) 0 kd43_4.2.2.2.2.2.2.2.2.2.1 rfl ?_
              exact hret _ _ _ _ _ _ _ kd43_4.2.2.2.2.2.2.2.2.2.2.1 ⟨rfl, z34, rfl, (by omega), (by omega), ((xs_s hg38).trans (by congr 2 <;> omega)), ⟨p8, q8, c8, d8, n8, hs_a0, ((xs_k hg38 (by decide)).trans ((hg32 a0 12 0 10 hs_a0 (by decide)).trans ((hg14 a0 12 0 10 hs_a0 (by decide)).trans hpi2))), ((xs_k hg38 (by decide)).trans ((hg32 a0 12 0 11 hs_a0 (by decide)).trans ((hg14 a0 12 0 11 hs_a0 (by decide)).trans hpi3))), hpi4, hs_p8, hs_q8, ((xs_k hg38 (by decide)).trans ((hg32 p8 7 0 3 hs_p8 (by decide)).trans ((hg14 p8 7 0 3 hs_p8 (by decide)).trans hpi7))), ((xs_k hg38 (by decide)).trans ((hg32 q8 7 0 3 hs_q8 (by decide)).trans ((hg14 q8 7 0 3 hs_q8 (by decide)).trans hpi8))), hpi9, hs_c8, hs_d8, ((xs_k hg38 (by decide)).trans ((hg32 p8 7 0 0 hs_p8 (by decide)).trans eLh18)), by omega, by omega, (by rw [(xv_a hg38 (xne hs_c8 hs_w0 (by decide))), (xFr.v k36 hs_c8 hpi9), (xv_m hg14 hs_c8 (by decide) (by decide))]; exact hpi15)⟩⟩ (Nat.le_refl _) (Nat.le_refl _)
            · refine X_aloadn hK (i := 0) 1 kd43_3.2.2.2.2.2.2.2.1 rfl rfl ?_
              refine X_getK hK fl_X11_76_12 hs_a0 ((hg32 a0 12 0 10 hs_a0 (by decide)).trans ((hg14 a0 12 0 10 hs_a0 (by decide)).trans hpi2)) kd43_3.2.2.2.2.2.2.2.2.1 ?_
              refine X_astore hK (i := 5) [(5, .ref p8), (4, .int (iI z34)), (0, .ref a0), (1, .int (iI x1)), (2, .int (iI x2)), (3, .int (iI x3))] kd43_3.2.2.2.2.2.2.2.2.2.1 (by decide) rfl ?_
              refine X_aloadn hK (i := 0) 2 kd43_3.2.2.2.2.2.2.2.2.2.2.1 rfl rfl ?_
              refine X_aloadn hK (i := 0) 2 kd43_3.2.2.2.2.2.2.2.2.2.2.2 rfl rfl ?_
              refine X_getK hK fl_X11_80_12 hs_a0 ((hg32 a0 12 0 11 hs_a0 (by decide)).trans ((hg14 a0 12 0 11 hs_a0 (by decide)).trans hpi3)) kd43_4.1 ?_
              refine X_putr hK 7 0 fl_X11_76_12 hs_a0 (by decide) sl_12_10 hs_q8 kd43_4.2.1 (fun g39 hg39 => ?_)
              refine X_aloadn hK (i := 0) 2 kd43_4.2.2.1 rfl rfl ?_
              refine X_aload hK (i := 5) 0 kd43_4.2.2.2.1 rfl ?_
              refine X_putr hK 7 0 fl_X11_80_12 hs_a0 (by decide) sl_12_11 hs_p8 kd43_4.2.2.2.2.1 (fun g40 hg40 => ?_)
              refine X_aloadn hK (i := 0) 2 kd43_4.2.2.2.2.2.1 rfl rfl ?_
              refine X_getK hK fl_X11_10_12 hs_a0 ((xs_k hg40 (by decide)).trans ((xs_k hg39 (by decide)).trans ((hg32 a0 12 0 0 hs_a0 (by decide)).trans ((hg14 a0 12 0 0 hs_a0 (by decide)).trans ew0)))) kd43_4.2.2.2.2.2.2.1 ?_
              refine X_iconst hK kd43_4.2.2.2.2.2.2.2.1 ?_
              refine X_puti hK fl_X11_102_10 hs_w0 (by decide) sl_10_1 (by omega) (by omega) kd43_4.2.2.2.2.2.2.2.2.1 (fun g41 hg41 => ?_)
              refine X_iload hK (i := 4) 1 kd43_4.2.2.2.2.2.2.2.2.2.1 rfl ?_
              exact hret _ _ _ _ _ _ _ kd43_4.2.2.2.2.2.2.2.2.2.2.1 ⟨rfl, z34, rfl, (by omega), (by omega), ((xs_s hg41).trans (by congr 2 <;> omega)), ⟨q8, p8, d8, c8, x1, hs_a0, ((xs_k hg41 (by decide)).trans ((xs_k hg40 (by decide)).trans (xs_s hg39))), ((xs_k hg41 (by decide)).trans (xs_s hg40)), hpi4.symm, hs_q8, hs_p8, ((xs_k hg41 (by decide)).trans ((xs_k hg40 (by decide)).trans ((xs_k hg39 (by decide)).trans ((hg32 q8 7 0 3 hs_q8 (by decide)).trans ((hg14 q8 7 0 3 hs_q8 (by decide)).trans hpi8))))), ((xs_k hg41 (by decide)).trans ((xs_k hg40 (by decide)).trans ((xs_k hg39 (by decide)).trans ((hg32 p8 7 0 3 hs_p8 (by decide)).trans ((hg14 p8 7 0 3 hs_p8 (by decide)).trans hpi7))))), hpi9.symm, hs_d8, hs_c8, ((xs_k hg41 (by decide)).trans ((xs_k hg40 (by decide)).trans ((xs_k hg39 (by decide)).trans ((hg32 q8 7 0 0 hs_q8 (by decide)).trans k16)))), by omega, by omega, (by rw [(Eq.trans (Eq.trans (xv_a hg41 (xne hs_d8 hs_w0 (by decide))) (xv_a hg40 (xne hs_d8 hs_a0 (by decide)))) (xv_a hg39 (xne hs_d8 hs_a0 (by decide))))]; exact k35.resolve_left (by omega))⟩⟩ (Nat.le_refl _) (Nat.le_refl _)
      · refine X_aloadn hK (i := 0) 1 kd43_2.1 rfl rfl ?_
        refine X_getK hK fl_X11_80_12 hs_a0 ((hg14 a0 12 0 11 hs_a0 (by decide)).trans hpi3) kd43_2.2.1 ?_
        refine X_knowr 12400 8 hs_q8 (by decide) sl_7_4 (fun b42 eb42 hs_b42 => ?_)
        refine X_knowr 12701 64 hs_q8 (by decide) sl_7_7 (fun b43 eb43 hs_b43 => ?_)
        refine X_callV hK [] [] lk_X11_321 (c_X6_partByOffers _ _ _ _ _ S g14 q8 x1 d8 b42 b43 hs_q8 (by omega) k16 ((hg14 q8 7 0 3 hs_q8 (by decide)).trans hpi8) hs_d8 eb42 hs_b42 eb43 hs_b43) hs_q8 ⟨by decide, rfl⟩ kd43_2.2.2.1 rfl rfl (by simp [Value.category]) (by decide) (by decide) (by decide) (by decide) (fun r44 S46 g45 pr44 qr44 hg45 => ?_)
        obtain ⟨rfl, z47, rfl, lz47, uz47, k48, k49⟩ := pr44
        refine X_st [.int (iI z47)] rfl ?_
        refine X_istore hK (i := 4) [(4, .int (iI z47)), (0, .ref a0), (1, .int (iI x1)), (2, .int (iI x2)), (3, .int (iI x3))] kd43_2.2.2.2.1 (by decide) rfl ?_
        refine X_goto hK 78 kd43_2.2.2.2.2.1 (by decide) ?_
        refine X_iload hK (i := 4) 0 kd43_3.2.2.2.2.1 rfl ?_
        refine X_iconst hK kd43_3.2.2.2.2.2.1 ?_
        refine X_icmp_eq hK 104 (by omega) (by omega) kd43_3.2.2.2.2.2.2.1 (by decide) (fun c50 => ?_) (fun c50 => ?_)
        · refine X_aloadn hK (i := 0) 1 kd43_4.2.2.2.2.2.1 rfl rfl ?_
          refine X_getK hK fl_X11_10_12 hs_a0 ((hg45 a0 12 0 0 hs_a0 (by decide)).trans ((hg14 a0 12 0 0 hs_a0 (by decide)).trans ew0)) kd43_4.2.2.2.2.2.2.1 ?_
          refine X_iconst hK kd43_4.2.2.2.2.2.2.2.1 ?_
          refine X_puti hK fl_X11_102_10 hs_w0 (by decide) sl_10_1 (by omega) (by omega) kd43_4.2.2.2.2.2.2.2.2.1 (fun g51 hg51 => ?_)
          refine X_iload hK (i := 4) 0 kd43_4.2.2.2.2.2.2.2.2.2.1 rfl ?_
          exact hret _ _ _ _ _ _ _ kd43_4.2.2.2.2.2.2.2.2.2.2.1 ⟨rfl, z47, rfl, (by omega), (by omega), ((xs_s hg51).trans (by congr 2 <;> omega)), ⟨p8, q8, c8, d8, n8, hs_a0, ((xs_k hg51 (by decide)).trans ((hg45 a0 12 0 10 hs_a0 (by decide)).trans ((hg14 a0 12 0 10 hs_a0 (by decide)).trans hpi2))), ((xs_k hg51 (by decide)).trans ((hg45 a0 12 0 11 hs_a0 (by decide)).trans ((hg14 a0 12 0 11 hs_a0 (by decide)).trans hpi3))), hpi4, hs_p8, hs_q8, ((xs_k hg51 (by decide)).trans ((hg45 p8 7 0 3 hs_p8 (by decide)).trans ((hg14 p8 7 0 3 hs_p8 (by decide)).trans hpi7))), ((xs_k hg51 (by decide)).trans ((hg45 q8 7 0 3 hs_q8 (by decide)).trans ((hg14 q8 7 0 3 hs_q8 (by decide)).trans hpi8))), hpi9, hs_c8, hs_d8, ((xs_k hg51 (by decide)).trans ((hg45 p8 7 0 0 hs_p8 (by decide)).trans eLh18)), by omega, by omega, (by rw [(xv_a hg51 (xne hs_c8 hs_w0 (by decide))), (xFr.v k49 hs_c8 hpi9), (xv_m hg14 hs_c8 (by decide) (by decide))]; exact hpi15)⟩⟩ (Nat.le_refl _) (Nat.le_refl _)
        · refine X_aloadn hK (i := 0) 1 kd43_3.2.2.2.2.2.2.2.1 rfl rfl ?_
          refine X_getK hK fl_X11_76_12 hs_a0 ((hg45 a0 12 0 10 hs_a0 (by decide)).trans ((hg14 a0 12 0 10 hs_a0 (by decide)).trans hpi2)) kd43_3.2.2.2.2.2.2.2.2.1 ?_
          refine X_astore hK (i := 5) [(5, .ref p8), (4, .int (iI z47)), (0, .ref a0), (1, .int (iI x1)), (2, .int (iI x2)), (3, .int (iI x3))] kd43_3.2.2.2.2.2.2.2.2.2.1 (by decide) rfl ?_
          refine X_aloadn hK (i := 0) 2 kd43_3.2.2.2.2.2.2.2.2.2.2.1 rfl rfl ?_
          refine X_aloadn hK (i := 0) 2 kd43_3.2.2.2.2.2.2.2.2.2.2.2 rfl rfl ?_
          refine X_getK hK fl_X11_80_12 hs_a0 ((hg45 a0 12 0 11 hs_a0 (by decide)).trans ((hg14 a0 12 0 11 hs_a0 (by decide)).trans hpi3)) kd43_4.1 ?_
          refine X_putr hK 7 0 fl_X11_76_12 hs_a0 (by decide) sl_12_10 hs_q8 kd43_4.2.1 (fun g52 hg52 => ?_)
          refine X_aloadn hK (i := 0) 2 kd43_4.2.2.1 rfl rfl ?_
          refine X_aload hK (i := 5) 0 kd43_4.2.2.2.1 rfl ?_
          refine X_putr hK 7 0 fl_X11_80_12 hs_a0 (by decide) sl_12_11 hs_p8 kd43_4.2.2.2.2.1 (fun g53 hg53 => ?_)
          refine X_aloadn hK (i := 0) 2 kd43_4.2.2.2.2.2.1 rfl rfl ?_
          refine X_getK hK fl_X11_10_12 hs_a0 ((xs_k hg53 (by decide)).trans ((xs_k hg52 (by decide)).trans ((hg45 a0 12 0 0 hs_a0 (by decide)).trans ((hg14 a0 12 0 0 hs_a0 (by decide)).trans ew0)))) kd43_4.2.2.2.2.2.2.1 ?_
          refine X_iconst hK kd43_4.2.2.2.2.2.2.2.1 ?_
          refine X_puti hK fl_X11_102_10 hs_w0 (by decide) sl_10_1 (by omega) (by omega) kd43_4.2.2.2.2.2.2.2.2.1 (fun g54 hg54 => ?_)
          refine X_iload hK (i := 4) 1 kd43_4.2.2.2.2.2.2.2.2.2.1 rfl ?_
          exact hret _ _ _ _ _ _ _ kd43_4.2.2.2.2.2.2.2.2.2.2.1 ⟨rfl, z47, rfl, (by omega), (by omega), ((xs_s hg54).trans (by congr 2 <;> omega)), ⟨q8, p8, d8, c8, x1, hs_a0, ((xs_k hg54 (by decide)).trans ((xs_k hg53 (by decide)).trans (xs_s hg52))), ((xs_k hg54 (by decide)).trans (xs_s hg53)), hpi4.symm, hs_q8, hs_p8, ((xs_k hg54 (by decide)).trans ((xs_k hg53 (by decide)).trans ((xs_k hg52 (by decide)).trans ((hg45 q8 7 0 3 hs_q8 (by decide)).trans ((hg14 q8 7 0 3 hs_q8 (by decide)).trans hpi8))))), ((xs_k hg54 (by decide)).trans ((xs_k hg53 (by decide)).trans ((xs_k hg52 (by decide)).trans ((hg45 p8 7 0 3 hs_p8 (by decide)).trans ((hg14 p8 7 0 3 hs_p8 (by decide)).trans hpi7))))), hpi9.symm, hs_d8, hs_c8, ((xs_k hg54 (by decide)).trans ((xs_k hg53 (by decide)).trans ((xs_k hg52 (by decide)).trans ((hg45 q8 7 0 0 hs_q8 (by decide)).trans k16)))), by omega, by omega, (by rw [(Eq.trans (Eq.trans (xv_a hg54 (xne hs_d8 hs_w0 (by decide))) (xv_a hg53 (xne hs_d8 hs_a0 (by decide)))) (xv_a hg52 (xne hs_d8 hs_a0 (by decide))))]; exact k48)⟩⟩ (Nat.le_refl _) (Nat.le_refl _)

set_option maxHeartbeats 4000000 in
set_option maxRecDepth 100000 in
theorem c_X11_peace (l : Launch) (D : va_G) (kA : Nat → ClassId) (b0 : Nat) (t0 : Nat → Nat) (S : xT) (g : xG) (a0 : Nat) (x1 : Int) (hs_a0 : S a0 = some (12, 0)) (hx1 : (-2147483648) ≤ x1 ∧ x1 ≤ 2147483647) (hp0 : xPi S g a0) : xMt l yX11_peace cX11_peace 2 (some .int) 2 0 0 48 D kA b0 t0 [] [.ref a0, .int (iI x1)] S g (fun (r : Option Value) (S1 : xT) (g1 : xG) => S = S1 ∧ g = g1 ∧ ∃ z : Int, r = some (.int (iI z)) ∧ (-1) ≤ z ∧ z ≤ 1) := by
  refine xEnterI (by decide) (by simp [lg_sl, Value.category]) [(0, .ref a0), (1, .int (iI x1))] rfl ?_
  intro K E hK hret _ _ _
  refine X_aloadn hK (i := 0) 0 kd43_4.2.2.2.2.2.2.2.2.2.2.2 rfl rfl ?_
  obtain ⟨p8, q8, c8, d8, n8, hpi1, hpi2, hpi3, hpi4, hs_p8, hs_q8, hpi7, hpi8, hpi9, hs_c8, hs_d8, hpi12, hpi13, hpi14, hpi15⟩ := hp0
  refine X_getK hK fl_X11_76_12 hs_a0 hpi2 kd43_5.1 ?_
  refine X_getK hK fl_X11_330_7 hs_p8 hpi12 kd43_5.2.1 ?_
  refine X_if_eq hK 17 (by omega) kd43_5.2.2.1 (by decide) (fun c1 => ?_) (fun c1 => ?_)
  · refine X_iconst hK kd43_5.2.2.2.2.2.2.1 ?_
    exact hret _ _ _ _ _ _ _ kd43_5.2.2.2.2.2.2.2.1 ⟨rfl, rfl, (-1), rfl, (by omega), (by omega)⟩ (Nat.le_refl _) (Nat.le_refl _)
  · refine X_iloadn hK (i := 1) 1 kd43_5.2.2.2.1 rfl rfl ?_
    refine X_callS hK [.int (iI x1)] [] lk_X11_324 (c_X11_isSum _ _ _ _ _ S g x1 (by omega)) kd43_5.2.2.2.2.1 rfl rfl (by simp [Value.category]) (by decide) (by decide) (by decide) (by decide) (fun r2 S4 g3 pr2 qr2 hg3 => ?_)
    obtain ⟨rfl, rfl, z5, rfl, lz5, uz5, k6⟩ := pr2
    refine X_st [.int (iI z5)] rfl ?_
    refine X_if_ne hK 19 (by omega) kd43_5.2.2.2.2.2.1 (by decide) (fun c7 => ?_) (fun c7 => ?_)
    · refine X_aloadn hK (i := 0) 0 kd43_5.2.2.2.2.2.2.2.2.1 rfl rfl ?_
      refine X_getK hK fl_X11_76_12 hs_a0 hpi2 kd43_5.2.2.2.2.2.2.2.2.2.1 ?_
      refine X_iloadn hK (i := 1) 1 kd43_5.2.2.2.2.2.2.2.2.2.2.1 rfl rfl ?_
      refine X_callV hK [.int (iI x1)] [] lk_X11_336 (c_X6_hasPeace _ _ _ _ _ S g p8 x1 n8 c8 hs_p8 (by omega) (by omega) hpi12 hpi7 hs_c8 hpi15) hs_p8 ⟨by decide, rfl⟩ kd43_5.2.2.2.2.2.2.2.2.2.2.2 rfl rfl (by simp [Value.category]) (by decide) (by decide) (by decide) (by decide) (fun r8 S10 g9 pr8 qr8 hg9 => ?_)
      obtain ⟨rfl, rfl, z11, rfl, lz11, uz11⟩ := pr8
      refine X_st [.int (iI z11)] rfl ?_
      refine X_if_eq hK 34 (by omega) kd43_6.1 (by decide) (fun c12 => ?_) (fun c12 => ?_)
      · refine X_iconst hK kd43_6.2.2.2.1 ?_
        exact hret _ _ _ _ _ _ _ kd43_6.2.2.2.2.1 ⟨rfl, rfl, 0, rfl, (by omega), (by omega)⟩ (Nat.le_refl _) (Nat.le_refl _)
      · refine X_iconst hK kd43_6.2.1 ?_
        refine X_goto hK 35 kd43_6.2.2.1 (by decide) ?_
        exact hret _ _ _ _ _ _ _ kd43_6.2.2.2.2.1 ⟨rfl, rfl, 1, rfl, (by omega), (by omega)⟩ (Nat.le_refl _) (Nat.le_refl _)
    · refine X_iconst hK kd43_5.2.2.2.2.2.2.1 ?_
      exact hret _ _ _ _ _ _ _ kd43_5.2.2.2.2.2.2.2.1 ⟨rfl, rfl, (-1), rfl, (by omega), (by omega)⟩ (Nat.le_refl _) (Nat.le_refl _)
