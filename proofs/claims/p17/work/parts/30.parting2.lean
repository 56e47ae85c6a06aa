theorem m_7_16 : Cond.fieldLink RX6 28 "PaperBoys$Parting" "trial" "[I" ∈ wsL_law := ch_7 _ (List.mem_of_getElem? (i := 16) rfl)
theorem m_7_17 : Cond.fieldLink RX6 31 "PaperBoys$Parting" "rest" "[I" ∈ wsL_law := ch_7 _ (List.mem_of_getElem? (i := 17) rfl)
theorem m_7_21 : Cond.fieldLink RX6 42 "PaperBoys$Parting" "bestSum" "I" ∈ wsL_law := ch_7 _ (List.mem_of_getElem? (i := 21) rfl)
theorem m_51_12 : Cond.methodLink RX6 80 yX6_place ∈ wsL_law := ch_51 _ (List.mem_of_getElem? (i := 12) rfl)
theorem m_51_13 : Cond.instanceMethod yX6_place ∈ wsL_law := ch_51 _ (List.mem_of_getElem? (i := 13) rfl)
theorem m_51_14 : Cond.selects RX6 yX6_place yX6_place ∈ wsL_law := ch_51 _ (List.mem_of_getElem? (i := 14) rfl)
theorem m_51_15 : Cond.code yX6_place cX6_place 8 none ∈ wsL_law := ch_51 _ (List.mem_of_getElem? (i := 15) rfl)
theorem dX6_place_0 : decode cX6_place 0 = .ok (.iload_n 3, 1) := by decide +kernel
theorem dX6_place_1 : decode cX6_place 1 = .ok (.aload_n 0, 1) := by decide +kernel
theorem dX6_place_2 : decode cX6_place 2 = .ok (.getfield 31, 3) := by decide +kernel
theorem dX6_place_5 : decode cX6_place 5 = .ok (.iload_n 2, 1) := by decide +kernel
theorem dX6_place_6 : decode cX6_place 6 = .ok (.iaload, 1) := by decide +kernel
theorem dX6_place_7 : decode cX6_place 7 = .ok (.iadd, 1) := by decide +kernel
theorem dX6_place_8 : decode cX6_place 8 = .ok (.aload_n 0, 1) := by decide +kernel
theorem dX6_place_9 : decode cX6_place 9 = .ok (.getfield 42, 3) := by decide +kernel
theorem dX6_place_12 : decode cX6_place 12 = .ok (.if_icmp .gt 4, 3) := by decide +kernel
theorem dX6_place_15 : decode cX6_place 15 = .ok (.return_, 1) := by decide +kernel
theorem dX6_place_16 : decode cX6_place 16 = .ok (.iload_n 1, 1) := by decide +kernel
theorem dX6_place_17 : decode cX6_place 17 = .ok (.aload_n 0, 1) := by decide +kernel
theorem dX6_place_18 : decode cX6_place 18 = .ok (.getfield 9, 3) := by decide +kernel
theorem dX6_place_21 : decode cX6_place 21 = .ok (.if_icmp .ne 41, 3) := by decide +kernel
theorem dX6_place_24 : decode cX6_place 24 = .ok (.aload_n 0, 1) := by decide +kernel
theorem dX6_place_25 : decode cX6_place 25 = .ok (.iload_n 3, 1) := by decide +kernel
theorem dX6_place_26 : decode cX6_place 26 = .ok (.putfield 42, 3) := by decide +kernel
theorem dX6_place_29 : decode cX6_place 29 = .ok (.iconst 0, 1) := by decide +kernel
theorem dX6_place_30 : decode cX6_place 30 = .ok (.istore 6, 2) := by decide +kernel
theorem dX6_place_32 : decode cX6_place 32 = .ok (.iload 6, 2) := by decide +kernel
theorem dX6_place_34 : decode cX6_place 34 = .ok (.aload_n 0, 1) := by decide +kernel
theorem dX6_place_35 : decode cX6_place 35 = .ok (.getfield 9, 3) := by decide +kernel
theorem dX6_place_38 : decode cX6_place 38 = .ok (.if_icmp .ge 23, 3) := by decide +kernel
theorem dX6_place_41 : decode cX6_place 41 = .ok (.aload_n 0, 1) := by decide +kernel
theorem dX6_place_42 : decode cX6_place 42 = .ok (.getfield 22, 3) := by decide +kernel
theorem dX6_place_45 : decode cX6_place 45 = .ok (.iload 6, 2) := by decide +kernel
theorem dX6_place_47 : decode cX6_place 47 = .ok (.aload_n 0, 1) := by decide +kernel
theorem dX6_place_48 : decode cX6_place 48 = .ok (.getfield 28, 3) := by decide +kernel
theorem dX6_place_51 : decode cX6_place 51 = .ok (.iload 6, 2) := by decide +kernel
theorem dX6_place_53 : decode cX6_place 53 = .ok (.iaload, 1) := by decide +kernel
theorem dX6_place_54 : decode cX6_place 54 = .ok (.iastore, 1) := by decide +kernel
theorem dX6_place_55 : decode cX6_place 55 = .ok (.iinc 6 1, 3) := by decide +kernel
theorem dX6_place_58 : decode cX6_place 58 = .ok (.goto (-26), 3) := by decide +kernel
theorem dX6_place_61 : decode cX6_place 61 = .ok (.return_, 1) := by decide +kernel
theorem dX6_place_62 : decode cX6_place 62 = .ok (.iconst 0, 1) := by decide +kernel
theorem dX6_place_63 : decode cX6_place 63 = .ok (.istore 6, 2) := by decide +kernel
theorem dX6_place_65 : decode cX6_place 65 = .ok (.iload 6, 2) := by decide +kernel
theorem dX6_place_67 : decode cX6_place 67 = .ok (.aload_n 0, 1) := by decide +kernel
theorem dX6_place_68 : decode cX6_place 68 = .ok (.getfield 9, 3) := by decide +kernel
theorem dX6_place_71 : decode cX6_place 71 = .ok (.if_icmp .ge 70, 3) := by decide +kernel
theorem dX6_place_74 : decode cX6_place 74 = .ok (.iload_n 1, 1) := by decide +kernel
theorem dX6_place_75 : decode cX6_place 75 = .ok (.bipush 8, 2) := by decide +kernel
theorem dX6_place_77 : decode cX6_place 77 = .ok (.imul, 1) := by decide +kernel
theorem dX6_place_78 : decode cX6_place 78 = .ok (.iload 6, 2) := by decide +kernel
theorem dX6_place_80 : decode cX6_place 80 = .ok (.iadd, 1) := by decide +kernel
theorem dX6_place_81 : decode cX6_place 81 = .ok (.istore 7, 2) := by decide +kernel
theorem dX6_place_83 : decode cX6_place 83 = .ok (.lload 4, 2) := by decide +kernel
theorem dX6_place_85 : decode cX6_place 85 = .ok (.iload 7, 2) := by decide +kernel
theorem dX6_place_87 : decode cX6_place 87 = .ok (.lushr, 1) := by decide +kernel
theorem dX6_place_88 : decode cX6_place 88 = .ok (.lconst 1, 1) := by decide +kernel
theorem dX6_place_89 : decode cX6_place 89 = .ok (.land, 1) := by decide +kernel
theorem dX6_place_90 : decode cX6_place 90 = .ok (.lconst 0, 1) := by decide +kernel
theorem dX6_place_91 : decode cX6_place 91 = .ok (.lcmp, 1) := by decide +kernel
theorem dX6_place_92 : decode cX6_place 92 = .ok (.ifCond .ne 43, 3) := by decide +kernel
theorem dX6_place_95 : decode cX6_place 95 = .ok (.aload_n 0, 1) := by decide +kernel
theorem dX6_place_96 : decode cX6_place 96 = .ok (.getfield 28, 3) := by decide +kernel
theorem dX6_place_99 : decode cX6_place 99 = .ok (.iload_n 1, 1) := by decide +kernel
theorem dX6_place_100 : decode cX6_place 100 = .ok (.iload 6, 2) := by decide +kernel
theorem dX6_place_102 : decode cX6_place 102 = .ok (.iastore, 1) := by decide +kernel
theorem dX6_place_103 : decode cX6_place 103 = .ok (.aload_n 0, 1) := by decide +kernel
theorem dX6_place_104 : decode cX6_place 104 = .ok (.iload_n 1, 1) := by decide +kernel
theorem dX6_place_105 : decode cX6_place 105 = .ok (.iconst 1, 1) := by decide +kernel
theorem dX6_place_106 : decode cX6_place 106 = .ok (.iadd, 1) := by decide +kernel
theorem dX6_place_107 : decode cX6_place 107 = .ok (.iload_n 2, 1) := by decide +kernel
theorem dX6_place_108 : decode cX6_place 108 = .ok (.iconst 1, 1) := by decide +kernel
theorem dX6_place_109 : decode cX6_place 109 = .ok (.iload 6, 2) := by decide +kernel
theorem dX6_place_111 : decode cX6_place 111 = .ok (.ishl, 1) := by decide +kernel
theorem dX6_place_112 : decode cX6_place 112 = .ok (.ior, 1) := by decide +kernel
theorem dX6_place_113 : decode cX6_place 113 = .ok (.iload_n 3, 1) := by decide +kernel
theorem dX6_place_114 : decode cX6_place 114 = .ok (.aload_n 0, 1) := by decide +kernel
theorem dX6_place_115 : decode cX6_place 115 = .ok (.getfield 15, 3) := by decide +kernel
theorem dX6_place_118 : decode cX6_place 118 = .ok (.iload 7, 2) := by decide +kernel
theorem dX6_place_120 : decode cX6_place 120 = .ok (.iaload, 1) := by decide +kernel
theorem dX6_place_121 : decode cX6_place 121 = .ok (.iadd, 1) := by decide +kernel
theorem dX6_place_122 : decode cX6_place 122 = .ok (.lload 4, 2) := by decide +kernel
theorem dX6_place_124 : decode cX6_place 124 = .ok (.aload_n 0, 1) := by decide +kernel
theorem dX6_place_125 : decode cX6_place 125 = .ok (.getfield 38, 3) := by decide +kernel
theorem dX6_place_128 : decode cX6_place 128 = .ok (.iload 7, 2) := by decide +kernel
theorem dX6_place_130 : decode cX6_place 130 = .ok (.laload, 1) := by decide +kernel
theorem dX6_place_131 : decode cX6_place 131 = .ok (.lor, 1) := by decide +kernel
theorem dX6_place_132 : decode cX6_place 132 = .ok (.invokevirtual 80, 3) := by decide +kernel
theorem dX6_place_135 : decode cX6_place 135 = .ok (.iinc 6 1, 3) := by decide +kernel
theorem dX6_place_138 : decode cX6_place 138 = .ok (.goto (-73), 3) := by decide +kernel
theorem dX6_place_141 : decode cX6_place 141 = .ok (.return_, 1) := by decide +kernel
theorem fl_X6_28_7 : xF RX6 28 7 5 (.array .int) true := ⟨by decide, RX6, TX6, 10, tyX6, "PaperBoys$Parting", rfl, inlX6, tyX6_ok, nmX6, by decide, rfl, rfl, m_7_16, Or.inl rfl⟩
theorem fl_X6_31_7 : xF RX6 31 7 6 (.array .int) true := ⟨by decide, RX6, TX6, 10, tyX6, "PaperBoys$Parting", rfl, inlX6, tyX6_ok, nmX6, by decide, rfl, rfl, m_7_17, Or.inl rfl⟩
theorem fl_X6_42_7 : xF RX6 42 7 9 .int false := ⟨by decide, RX6, TX6, 10, tyX6, "PaperBoys$Parting", rfl, inlX6, tyX6_ok, nmX6, by decide, rfl, rfl, m_7_21, Or.inl rfl⟩
theorem lk_X6_80 : xLV RX6 80 yX6_place cX6_place 8 none 4 := ⟨m_51_12, m_51_13, m_51_14, m_3_2, m_51_15, by decide +kernel⟩