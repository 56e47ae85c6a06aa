theorem m_2_9 : Cond.initialized RX10 ∈ wsL_law := ch_2 _ (List.mem_of_getElem? (i := 9) rfl)
theorem m_5_23 : Cond.fieldLink RX10 15 "PaperBoys$Terms" "lines" "I" ∈ wsL_law := ch_5 _ (List.mem_of_getElem? (i := 23) rfl)
theorem m_6_0 : Cond.fieldLink RX10 18 "PaperBoys$Terms" "steps" "I" ∈ wsL_law := ch_6 _ (List.mem_of_getElem? (i := 0) rfl)
theorem m_6_1 : Cond.fieldLink RX10 21 "PaperBoys$Terms" "kind" "[I" ∈ wsL_law := ch_6 _ (List.mem_of_getElem? (i := 1) rfl)
theorem m_6_2 : Cond.fieldLink RX10 25 "PaperBoys$Terms" "number" "[I" ∈ wsL_law := ch_6 _ (List.mem_of_getElem? (i := 2) rfl)
theorem m_6_3 : Cond.fieldLink RX10 28 "PaperBoys$Terms" "first" "[I" ∈ wsL_law := ch_6 _ (List.mem_of_getElem? (i := 3) rfl)
theorem m_6_4 : Cond.fieldLink RX10 31 "PaperBoys$Terms" "behind" "[I" ∈ wsL_law := ch_6 _ (List.mem_of_getElem? (i := 4) rfl)
theorem m_6_5 : Cond.fieldLink RX10 34 "PaperBoys$Terms" "step" "[I" ∈ wsL_law := ch_6 _ (List.mem_of_getElem? (i := 5) rfl)
theorem m_35_10 : Cond.methodLink RX10 37 yX10_holds ∈ wsL_law := ch_35 _ (List.mem_of_getElem? (i := 10) rfl)
theorem m_35_11 : Cond.instanceMethod yX10_holds ∈ wsL_law := ch_35 _ (List.mem_of_getElem? (i := 11) rfl)
theorem m_35_12 : Cond.selects RX10 yX10_holds yX10_holds ∈ wsL_law := ch_35 _ (List.mem_of_getElem? (i := 12) rfl)
theorem m_35_13 : Cond.code yX10_holds cX10_holds 7 (some .boolean) ∈ wsL_law := ch_35 _ (List.mem_of_getElem? (i := 13) rfl)
theorem m_35_14 : Cond.methodLink RX10 57 yX10_isSo ∈ wsL_law := ch_35 _ (List.mem_of_getElem? (i := 14) rfl)
theorem m_35_15 : Cond.static yX10_isSo ∈ wsL_law := ch_35 _ (List.mem_of_getElem? (i := 15) rfl)
theorem m_35_16 : Cond.code yX10_isSo cX10_isSo 4 (some .boolean) ∈ wsL_law := ch_35 _ (List.mem_of_getElem? (i := 16) rfl)
theorem dX10_addLine_0 : decode cX10_addLine 0 = .ok (.aload_n 0, 1) := by decide +kernel
theorem dX10_addLine_1 : decode cX10_addLine 1 = .ok (.getfield 15, 3) := by decide +kernel
theorem dX10_addLine_4 : decode cX10_addLine 4 = .ok (.bipush 16, 2) := by decide +kernel
theorem dX10_addLine_6 : decode cX10_addLine 6 = .ok (.if_icmp .ge 56, 3) := by decide +kernel
theorem dX10_addLine_9 : decode cX10_addLine 9 = .ok (.aload_n 0, 1) := by decide +kernel
theorem dX10_addLine_10 : decode cX10_addLine 10 = .ok (.getfield 21, 3) := by decide +kernel
theorem dX10_addLine_13 : decode cX10_addLine 13 = .ok (.aload_n 0, 1) := by decide +kernel
theorem dX10_addLine_14 : decode cX10_addLine 14 = .ok (.getfield 15, 3) := by decide +kernel
theorem dX10_addLine_17 : decode cX10_addLine 17 = .ok (.iload_n 1, 1) := by decide +kernel
theorem dX10_addLine_18 : decode cX10_addLine 18 = .ok (.iastore, 1) := by decide +kernel
theorem dX10_addLine_19 : decode cX10_addLine 19 = .ok (.aload_n 0, 1) := by decide +kernel
theorem dX10_addLine_20 : decode cX10_addLine 20 = .ok (.getfield 25, 3) := by decide +kernel
theorem dX10_addLine_23 : decode cX10_addLine 23 = .ok (.aload_n 0, 1) := by decide +kernel
theorem dX10_addLine_24 : decode cX10_addLine 24 = .ok (.getfield 15, 3) := by decide +kernel
theorem dX10_addLine_27 : decode cX10_addLine 27 = .ok (.iload_n 2, 1) := by decide +kernel
theorem dX10_addLine_28 : decode cX10_addLine 28 = .ok (.iastore, 1) := by decide +kernel
theorem dX10_addLine_29 : decode cX10_addLine 29 = .ok (.aload_n 0, 1) := by decide +kernel
theorem dX10_addLine_30 : decode cX10_addLine 30 = .ok (.getfield 28, 3) := by decide +kernel
theorem dX10_addLine_33 : decode cX10_addLine 33 = .ok (.aload_n 0, 1) := by decide +kernel
theorem dX10_addLine_34 : decode cX10_addLine 34 = .ok (.getfield 15, 3) := by decide +kernel
theorem dX10_addLine_37 : decode cX10_addLine 37 = .ok (.iload_n 3, 1) := by decide +kernel
theorem dX10_addLine_38 : decode cX10_addLine 38 = .ok (.iastore, 1) := by decide +kernel
theorem dX10_addLine_39 : decode cX10_addLine 39 = .ok (.aload_n 0, 1) := by decide +kernel
theorem dX10_addLine_40 : decode cX10_addLine 40 = .ok (.getfield 31, 3) := by decide +kernel
theorem dX10_addLine_43 : decode cX10_addLine 43 = .ok (.aload_n 0, 1) := by decide +kernel
theorem dX10_addLine_44 : decode cX10_addLine 44 = .ok (.getfield 15, 3) := by decide +kernel
theorem dX10_addLine_47 : decode cX10_addLine 47 = .ok (.aload_n 0, 1) := by decide +kernel
theorem dX10_addLine_48 : decode cX10_addLine 48 = .ok (.getfield 18, 3) := by decide +kernel
theorem dX10_addLine_51 : decode cX10_addLine 51 = .ok (.iastore, 1) := by decide +kernel
theorem dX10_addLine_52 : decode cX10_addLine 52 = .ok (.aload_n 0, 1) := by decide +kernel
theorem dX10_addLine_53 : decode cX10_addLine 53 = .ok (.dup, 1) := by decide +kernel
theorem dX10_addLine_54 : decode cX10_addLine 54 = .ok (.getfield 15, 3) := by decide +kernel
theorem dX10_addLine_57 : decode cX10_addLine 57 = .ok (.iconst 1, 1) := by decide +kernel
theorem dX10_addLine_58 : decode cX10_addLine 58 = .ok (.iadd, 1) := by decide +kernel
theorem dX10_addLine_59 : decode cX10_addLine 59 = .ok (.putfield 15, 3) := by decide +kernel
theorem dX10_addLine_62 : decode cX10_addLine 62 = .ok (.return_, 1) := by decide +kernel
theorem dX10_addStep_0 : decode cX10_addStep 0 = .ok (.aload_n 0, 1) := by decide +kernel
theorem dX10_addStep_1 : decode cX10_addStep 1 = .ok (.getfield 18, 3) := by decide +kernel
theorem dX10_addStep_4 : decode cX10_addStep 4 = .ok (.bipush 100, 2) := by decide +kernel
theorem dX10_addStep_6 : decode cX10_addStep 6 = .ok (.if_icmp .ge 33, 3) := by decide +kernel
theorem dX10_addStep_9 : decode cX10_addStep 9 = .ok (.aload_n 0, 1) := by decide +kernel
theorem dX10_addStep_10 : decode cX10_addStep 10 = .ok (.getfield 34, 3) := by decide +kernel
theorem dX10_addStep_13 : decode cX10_addStep 13 = .ok (.aload_n 0, 1) := by decide +kernel
theorem dX10_addStep_14 : decode cX10_addStep 14 = .ok (.getfield 18, 3) := by decide +kernel
theorem dX10_addStep_17 : decode cX10_addStep 17 = .ok (.iload_n 1, 1) := by decide +kernel
theorem dX10_addStep_18 : decode cX10_addStep 18 = .ok (.bipush 16, 2) := by decide +kernel
theorem dX10_addStep_20 : decode cX10_addStep 20 = .ok (.iload_n 2, 1) := by decide +kernel
theorem dX10_addStep_21 : decode cX10_addStep 21 = .ok (.imul, 1) := by decide +kernel
theorem dX10_addStep_22 : decode cX10_addStep 22 = .ok (.iadd, 1) := by decide +kernel
theorem dX10_addStep_23 : decode cX10_addStep 23 = .ok (.bipush 64, 2) := by decide +kernel
theorem dX10_addStep_25 : decode cX10_addStep 25 = .ok (.iload_n 3, 1) := by decide +kernel
theorem dX10_addStep_26 : decode cX10_addStep 26 = .ok (.imul, 1) := by decide +kernel
theorem dX10_addStep_27 : decode cX10_addStep 27 = .ok (.iadd, 1) := by decide +kernel
theorem dX10_addStep_28 : decode cX10_addStep 28 = .ok (.iastore, 1) := by decide +kernel
theorem dX10_addStep_29 : decode cX10_addStep 29 = .ok (.aload_n 0, 1) := by decide +kernel
theorem dX10_addStep_30 : decode cX10_addStep 30 = .ok (.dup, 1) := by decide +kernel
theorem dX10_addStep_31 : decode cX10_addStep 31 = .ok (.getfield 18, 3) := by decide +kernel
theorem dX10_addStep_34 : decode cX10_addStep 34 = .ok (.iconst 1, 1) := by decide +kernel
theorem dX10_addStep_35 : decode cX10_addStep 35 = .ok (.iadd, 1) := by decide +kernel
theorem dX10_addStep_36 : decode cX10_addStep 36 = .ok (.putfield 18, 3) := by decide +kernel
theorem dX10_addStep_39 : decode cX10_addStep 39 = .ok (.return_, 1) := by decide +kernel
theorem dX10_holds_0 : decode cX10_holds 0 = .ok (.iconst 1, 1) := by decide +kernel
theorem dX10_holds_1 : decode cX10_holds 1 = .ok (.istore_n 3, 1) := by decide +kernel
theorem dX10_holds_2 : decode cX10_holds 2 = .ok (.aload_n 0, 1) := by decide +kernel
theorem dX10_holds_3 : decode cX10_holds 3 = .ok (.getfield 28, 3) := by decide +kernel
theorem dX10_holds_6 : decode cX10_holds 6 = .ok (.iload_n 1, 1) := by decide +kernel
theorem dX10_holds_7 : decode cX10_holds 7 = .ok (.iaload, 1) := by decide +kernel
theorem dX10_holds_8 : decode cX10_holds 8 = .ok (.istore 4, 2) := by decide +kernel
theorem dX10_holds_10 : decode cX10_holds 10 = .ok (.iload 4, 2) := by decide +kernel
theorem dX10_holds_12 : decode cX10_holds 12 = .ok (.aload_n 0, 1) := by decide +kernel
theorem dX10_holds_13 : decode cX10_holds 13 = .ok (.getfield 31, 3) := by decide +kernel
theorem dX10_holds_16 : decode cX10_holds 16 = .ok (.iload_n 1, 1) := by decide +kernel
theorem dX10_holds_17 : decode cX10_holds 17 = .ok (.iaload, 1) := by decide +kernel
theorem dX10_holds_18 : decode cX10_holds 18 = .ok (.if_icmp .ge 104, 3) := by decide +kernel
theorem dX10_holds_21 : decode cX10_holds 21 = .ok (.aload_n 0, 1) := by decide +kernel
theorem dX10_holds_22 : decode cX10_holds 22 = .ok (.getfield 34, 3) := by decide +kernel
theorem dX10_holds_25 : decode cX10_holds 25 = .ok (.iload 4, 2) := by decide +kernel
theorem dX10_holds_27 : decode cX10_holds 27 = .ok (.iaload, 1) := by decide +kernel
theorem dX10_holds_28 : decode cX10_holds 28 = .ok (.bipush 16, 2) := by decide +kernel
theorem dX10_holds_30 : decode cX10_holds 30 = .ok (.irem, 1) := by decide +kernel
theorem dX10_holds_31 : decode cX10_holds 31 = .ok (.istore 5, 2) := by decide +kernel
theorem dX10_holds_33 : decode cX10_holds 33 = .ok (.iload_n 3, 1) := by decide +kernel
theorem dX10_holds_34 : decode cX10_holds 34 = .ok (.iconst 1, 1) := by decide +kernel
theorem dX10_holds_35 : decode cX10_holds 35 = .ok (.iand, 1) := by decide +kernel
theorem dX10_holds_36 : decode cX10_holds 36 = .ok (.istore 6, 2) := by decide +kernel
theorem dX10_holds_38 : decode cX10_holds 38 = .ok (.iload 5, 2) := by decide +kernel
theorem dX10_holds_40 : decode cX10_holds 40 = .ok (.bipush 12, 2) := by decide +kernel
theorem dX10_holds_42 : decode cX10_holds 42 = .ok (.if_icmp .ne 10, 3) := by decide +kernel
theorem dX10_holds_45 : decode cX10_holds 45 = .ok (.iload_n 3, 1) := by decide +kernel
theorem dX10_holds_46 : decode cX10_holds 46 = .ok (.iconst 1, 1) := by decide +kernel
theorem dX10_holds_47 : decode cX10_holds 47 = .ok (.ixor, 1) := by decide +kernel
theorem dX10_holds_48 : decode cX10_holds 48 = .ok (.istore_n 3, 1) := by decide +kernel
theorem dX10_holds_49 : decode cX10_holds 49 = .ok (.goto 67, 3) := by decide +kernel
theorem dX10_holds_52 : decode cX10_holds 52 = .ok (.iload 5, 2) := by decide +kernel
theorem dX10_holds_54 : decode cX10_holds 54 = .ok (.bipush 13, 2) := by decide +kernel
theorem dX10_holds_56 : decode cX10_holds 56 = .ok (.if_icmp .ne 16, 3) := by decide +kernel
theorem dX10_holds_59 : decode cX10_holds 59 = .ok (.iload_n 3, 1) := by decide +kernel
theorem dX10_holds_60 : decode cX10_holds 60 = .ok (.iconst 1, 1) := by decide +kernel
theorem dX10_holds_61 : decode cX10_holds 61 = .ok (.iushr, 1) := by decide +kernel
theorem dX10_holds_62 : decode cX10_holds 62 = .ok (.iload 6, 2) := by decide +kernel
theorem dX10_holds_64 : decode cX10_holds 64 = .ok (.bipush (-2), 2) := by decide +kernel
theorem dX10_holds_66 : decode cX10_holds 66 = .ok (.ior, 1) := by decide +kernel
theorem dX10_holds_67 : decode cX10_holds 67 = .ok (.iand, 1) := by decide +kernel
theorem dX10_holds_68 : decode cX10_holds 68 = .ok (.istore_n 3, 1) := by decide +kernel
theorem dX10_holds_69 : decode cX10_holds 69 = .ok (.goto 47, 3) := by decide +kernel
theorem dX10_holds_72 : decode cX10_holds 72 = .ok (.iload 5, 2) := by decide +kernel
theorem dX10_holds_74 : decode cX10_holds 74 = .ok (.bipush 14, 2) := by decide +kernel
theorem dX10_holds_76 : decode cX10_holds 76 = .ok (.if_icmp .ne 13, 3) := by decide +kernel
theorem dX10_holds_79 : decode cX10_holds 79 = .ok (.iload_n 3, 1) := by decide +kernel
theorem dX10_holds_80 : decode cX10_holds 80 = .ok (.iconst 1, 1) := by decide +kernel
theorem dX10_holds_81 : decode cX10_holds 81 = .ok (.iushr, 1) := by decide +kernel
theorem dX10_holds_82 : decode cX10_holds 82 = .ok (.iload 6, 2) := by decide +kernel
theorem dX10_holds_84 : decode cX10_holds 84 = .ok (.ior, 1) := by decide +kernel
theorem dX10_holds_85 : decode cX10_holds 85 = .ok (.istore_n 3, 1) := by decide +kernel
theorem dX10_holds_86 : decode cX10_holds 86 = .ok (.goto 30, 3) := by decide +kernel
theorem dX10_holds_89 : decode cX10_holds 89 = .ok (.iload_n 3, 1) := by decide +kernel
theorem dX10_holds_90 : decode cX10_holds 90 = .ok (.iconst 1, 1) := by decide +kernel
theorem dX10_holds_91 : decode cX10_holds 91 = .ok (.ishl, 1) := by decide +kernel
theorem dX10_holds_92 : decode cX10_holds 92 = .ok (.aload_n 0, 1) := by decide +kernel
theorem dX10_holds_93 : decode cX10_holds 93 = .ok (.getfield 34, 3) := by decide +kernel
theorem dX10_holds_96 : decode cX10_holds 96 = .ok (.iload 4, 2) := by decide +kernel
theorem dX10_holds_98 : decode cX10_holds 98 = .ok (.iaload, 1) := by decide +kernel
theorem dX10_holds_99 : decode cX10_holds 99 = .ok (.aload_n 2, 1) := by decide +kernel
theorem dX10_holds_100 : decode cX10_holds 100 = .ok (.iload 5, 2) := by decide +kernel
theorem dX10_holds_102 : decode cX10_holds 102 = .ok (.iaload, 1) := by decide +kernel
theorem dX10_holds_103 : decode cX10_holds 103 = .ok (.invokestatic 57, 3) := by decide +kernel
theorem dX10_holds_106 : decode cX10_holds 106 = .ok (.ifCond .eq 7, 3) := by decide +kernel
theorem dX10_holds_109 : decode cX10_holds 109 = .ok (.iconst 1, 1) := by decide +kernel
theorem dX10_holds_110 : decode cX10_holds 110 = .ok (.goto 4, 3) := by decide +kernel
theorem dX10_holds_113 : decode cX10_holds 113 = .ok (.iconst 0, 1) := by decide +kernel
theorem dX10_holds_114 : decode cX10_holds 114 = .ok (.ior, 1) := by decide +kernel
theorem dX10_holds_115 : decode cX10_holds 115 = .ok (.istore_n 3, 1) := by decide +kernel
theorem dX10_holds_116 : decode cX10_holds 116 = .ok (.iinc 4 1, 3) := by decide +kernel
theorem dX10_holds_119 : decode cX10_holds 119 = .ok (.goto (-109), 3) := by decide +kernel
theorem dX10_holds_122 : decode cX10_holds 122 = .ok (.iload_n 3, 1) := by decide +kernel
theorem dX10_holds_123 : decode cX10_holds 123 = .ok (.iconst 1, 1) := by decide +kernel
theorem dX10_holds_124 : decode cX10_holds 124 = .ok (.iand, 1) := by decide +kernel
theorem dX10_holds_125 : decode cX10_holds 125 = .ok (.iconst 1, 1) := by decide +kernel
theorem dX10_holds_126 : decode cX10_holds 126 = .ok (.if_icmp .ne 7, 3) := by decide +kernel
theorem dX10_holds_129 : decode cX10_holds 129 = .ok (.iconst 1, 1) := by decide +kernel
theorem dX10_holds_130 : decode cX10_holds 130 = .ok (.goto 4, 3) := by decide +kernel
theorem dX10_holds_133 : decode cX10_holds 133 = .ok (.iconst 0, 1) := by decide +kernel
theorem dX10_holds_134 : decode cX10_holds 134 = .ok (.ireturn, 1) := by decide +kernel
theorem dX10_lineFor_0 : decode cX10_lineFor 0 = .ok (.iconst 0, 1) := by decide +kernel
theorem dX10_lineFor_1 : decode cX10_lineFor 1 = .ok (.istore_n 3, 1) := by decide +kernel
theorem dX10_lineFor_2 : decode cX10_lineFor 2 = .ok (.iload_n 3, 1) := by decide +kernel
theorem dX10_lineFor_3 : decode cX10_lineFor 3 = .ok (.aload_n 0, 1) := by decide +kernel
theorem dX10_lineFor_4 : decode cX10_lineFor 4 = .ok (.getfield 15, 3) := by decide +kernel
theorem dX10_lineFor_7 : decode cX10_lineFor 7 = .ok (.if_icmp .ge 30, 3) := by decide +kernel
theorem dX10_lineFor_10 : decode cX10_lineFor 10 = .ok (.aload_n 0, 1) := by decide +kernel
theorem dX10_lineFor_11 : decode cX10_lineFor 11 = .ok (.getfield 21, 3) := by decide +kernel
theorem dX10_lineFor_14 : decode cX10_lineFor 14 = .ok (.iload_n 3, 1) := by decide +kernel
theorem dX10_lineFor_15 : decode cX10_lineFor 15 = .ok (.iaload, 1) := by decide +kernel
theorem dX10_lineFor_16 : decode cX10_lineFor 16 = .ok (.iload_n 1, 1) := by decide +kernel
theorem dX10_lineFor_17 : decode cX10_lineFor 17 = .ok (.if_icmp .ne 14, 3) := by decide +kernel
theorem dX10_lineFor_20 : decode cX10_lineFor 20 = .ok (.aload_n 0, 1) := by decide +kernel
theorem dX10_lineFor_21 : decode cX10_lineFor 21 = .ok (.iload_n 3, 1) := by decide +kernel
theorem dX10_lineFor_22 : decode cX10_lineFor 22 = .ok (.aload_n 2, 1) := by decide +kernel
theorem dX10_lineFor_23 : decode cX10_lineFor 23 = .ok (.invokevirtual 37, 3) := by decide +kernel
theorem dX10_lineFor_26 : decode cX10_lineFor 26 = .ok (.ifCond .eq 5, 3) := by decide +kernel
theorem dX10_lineFor_29 : decode cX10_lineFor 29 = .ok (.iload_n 3, 1) := by decide +kernel
theorem dX10_lineFor_30 : decode cX10_lineFor 30 = .ok (.ireturn, 1) := by decide +kernel
theorem dX10_lineFor_31 : decode cX10_lineFor 31 = .ok (.iinc 3 1, 3) := by decide +kernel
theorem dX10_lineFor_34 : decode cX10_lineFor 34 = .ok (.goto (-32), 3) := by decide +kernel
theorem dX10_lineFor_37 : decode cX10_lineFor 37 = .ok (.iconst (-1), 1) := by decide +kernel
theorem dX10_lineFor_38 : decode cX10_lineFor 38 = .ok (.ireturn, 1) := by decide +kernel
theorem fl_X10_15_11 : xF RX10 15 11 1 .int false := ⟨by decide, RX10, TX10, 8, tyX10, "PaperBoys$Terms", rfl, inlX10, tyX10_ok, nmX10, by decide, rfl, rfl, m_5_23, Or.inl rfl⟩
theorem fl_X10_18_11 : xF RX10 18 11 2 .int false := ⟨by decide, RX10, TX10, 8, tyX10, "PaperBoys$Terms", rfl, inlX10, tyX10_ok, nmX10, by decide, rfl, rfl, m_6_0, Or.inl rfl⟩
theorem fl_X10_21_11 : xF RX10 21 11 3 (.array .int) true := ⟨by decide, RX10, TX10, 8, tyX10, "PaperBoys$Terms", rfl, inlX10, tyX10_ok, nmX10, by decide, rfl, rfl, m_6_1, Or.inl rfl⟩
theorem fl_X10_25_11 : xF RX10 25 11 4 (.array .int) true := ⟨by decide, RX10, TX10, 8, tyX10, "PaperBoys$Terms", rfl, inlX10, tyX10_ok, nmX10, by decide, rfl, rfl, m_6_2, Or.inl rfl⟩
theorem fl_X10_28_11 : xF RX10 28 11 5 (.array .int) true := ⟨by decide, RX10, TX10, 8, tyX10, "PaperBoys$Terms", rfl, inlX10, tyX10_ok, nmX10, by decide, rfl, rfl, m_6_3, Or.inl rfl⟩
theorem fl_X10_31_11 : xF RX10 31 11 6 (.array .int) true := ⟨by decide, RX10, TX10, 8, tyX10, "PaperBoys$Terms", rfl, inlX10, tyX10_ok, nmX10, by decide, rfl, rfl, m_6_4, Or.inl rfl⟩
theorem fl_X10_34_11 : xF RX10 34 11 7 (.array .int) true := ⟨by decide, RX10, TX10, 8, tyX10, "PaperBoys$Terms", rfl, inlX10, tyX10_ok, nmX10, by decide, rfl, rfl, m_6_5, Or.inl rfl⟩
theorem lk_X10_37 : xLV RX10 37 yX10_holds cX10_holds 7 (some .boolean) 2 := ⟨m_35_10, m_35_11, m_35_12, m_2_9, m_35_13, by decide +kernel⟩
theorem lk_X10_57 : xLS RX10 57 yX10_isSo cX10_isSo 4 (some .boolean) 2 := ⟨m_35_14, m_35_15, m_2_9, m_35_16, by decide +kernel⟩