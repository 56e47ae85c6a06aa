theorem m_6_9 : Cond.fieldLink RX7 9 "PaperBoys$Reader" "token" "[I" ∈ wsL_law := ch_6 _ (List.mem_of_getElem? (i := 9) rfl)
theorem m_6_10 : Cond.fieldLink RX7 15 "PaperBoys$Reader" "place" "[I" ∈ wsL_law := ch_6 _ (List.mem_of_getElem? (i := 10) rfl)
theorem m_6_11 : Cond.fieldLink RX7 18 "PaperBoys$Reader" "at" "I" ∈ wsL_law := ch_6 _ (List.mem_of_getElem? (i := 11) rfl)
theorem m_6_14 : Cond.fieldLink RX7 29 "PaperBoys$Reader" "fault" "I" ∈ wsL_law := ch_6 _ (List.mem_of_getElem? (i := 14) rfl)
theorem m_6_15 : Cond.fieldLink RX7 32 "PaperBoys$Reader" "faultPlace" "I" ∈ wsL_law := ch_6 _ (List.mem_of_getElem? (i := 15) rfl)
theorem m_22_19 : Cond.fieldLink RX7 55 "PaperBoys$Tape" "size" "I" ∈ wsL_law := ch_22 _ (List.mem_of_getElem? (i := 19) rfl)
theorem m_23_1 : Cond.fieldLink RX7 70 "PaperBoys$Tape" "bytes" "[I" ∈ wsL_law := ch_23 _ (List.mem_of_getElem? (i := 1) rfl)
theorem m_23_2 : Cond.methodLink RX7 73 yX7_isOfName ∈ wsL_law := ch_23 _ (List.mem_of_getElem? (i := 2) rfl)
theorem m_23_3 : Cond.static yX7_isOfName ∈ wsL_law := ch_23 _ (List.mem_of_getElem? (i := 3) rfl)
theorem m_23_4 : Cond.code yX7_isOfName cX7_isOfName 1 (some .boolean) ∈ wsL_law := ch_23 _ (List.mem_of_getElem? (i := 4) rfl)
theorem m_25_21 : Cond.methodLink RX7 47 yX7_now ∈ wsL_law := ch_25 _ (List.mem_of_getElem? (i := 21) rfl)
theorem m_25_22 : Cond.instanceMethod yX7_now ∈ wsL_law := ch_25 _ (List.mem_of_getElem? (i := 22) rfl)
theorem m_25_23 : Cond.selects RX7 yX7_now yX7_now ∈ wsL_law := ch_25 _ (List.mem_of_getElem? (i := 23) rfl)
theorem m_26_0 : Cond.code yX7_now cX7_now 1 (some .int) ∈ wsL_law := ch_26 _ (List.mem_of_getElem? (i := 0) rfl)
theorem m_26_5 : Cond.methodLink RX7 60 yX7_tell ∈ wsL_law := ch_26 _ (List.mem_of_getElem? (i := 5) rfl)
theorem m_26_6 : Cond.instanceMethod yX7_tell ∈ wsL_law := ch_26 _ (List.mem_of_getElem? (i := 6) rfl)
theorem m_26_7 : Cond.selects RX7 yX7_tell yX7_tell ∈ wsL_law := ch_26 _ (List.mem_of_getElem? (i := 7) rfl)
theorem m_26_8 : Cond.code yX7_tell cX7_tell 2 none ∈ wsL_law := ch_26 _ (List.mem_of_getElem? (i := 8) rfl)
theorem dX7_expect_0 : decode cX7_expect 0 = .ok (.aload_n 0, 1) := by decide +kernel
theorem dX7_expect_1 : decode cX7_expect 1 = .ok (.invokevirtual 47, 3) := by decide +kernel
theorem dX7_expect_4 : decode cX7_expect 4 = .ok (.iload_n 1, 1) := by decide +kernel
theorem dX7_expect_5 : decode cX7_expect 5 = .ok (.if_icmp .ne 16, 3) := by decide +kernel
theorem dX7_expect_8 : decode cX7_expect 8 = .ok (.aload_n 0, 1) := by decide +kernel
theorem dX7_expect_9 : decode cX7_expect 9 = .ok (.dup, 1) := by decide +kernel
theorem dX7_expect_10 : decode cX7_expect 10 = .ok (.getfield 18, 3) := by decide +kernel
theorem dX7_expect_13 : decode cX7_expect 13 = .ok (.iconst 1, 1) := by decide +kernel
theorem dX7_expect_14 : decode cX7_expect 14 = .ok (.iadd, 1) := by decide +kernel
theorem dX7_expect_15 : decode cX7_expect 15 = .ok (.putfield 18, 3) := by decide +kernel
theorem dX7_expect_18 : decode cX7_expect 18 = .ok (.goto 8, 3) := by decide +kernel
theorem dX7_expect_21 : decode cX7_expect 21 = .ok (.aload_n 0, 1) := by decide +kernel
theorem dX7_expect_22 : decode cX7_expect 22 = .ok (.iconst 1, 1) := by decide +kernel
theorem dX7_expect_23 : decode cX7_expect 23 = .ok (.invokevirtual 60, 3) := by decide +kernel
theorem dX7_expect_26 : decode cX7_expect 26 = .ok (.return_, 1) := by decide +kernel
theorem dX7_nameEnd_0 : decode cX7_nameEnd 0 = .ok (.iload_n 1, 1) := by decide +kernel
theorem dX7_nameEnd_1 : decode cX7_nameEnd 1 = .ok (.istore_n 2, 1) := by decide +kernel
theorem dX7_nameEnd_2 : decode cX7_nameEnd 2 = .ok (.iload_n 2, 1) := by decide +kernel
theorem dX7_nameEnd_3 : decode cX7_nameEnd 3 = .ok (.aload_n 0, 1) := by decide +kernel
theorem dX7_nameEnd_4 : decode cX7_nameEnd 4 = .ok (.getfield 55, 3) := by decide +kernel
theorem dX7_nameEnd_7 : decode cX7_nameEnd 7 = .ok (.if_icmp .ge 21, 3) := by decide +kernel
theorem dX7_nameEnd_10 : decode cX7_nameEnd 10 = .ok (.aload_n 0, 1) := by decide +kernel
theorem dX7_nameEnd_11 : decode cX7_nameEnd 11 = .ok (.getfield 70, 3) := by decide +kernel
theorem dX7_nameEnd_14 : decode cX7_nameEnd 14 = .ok (.iload_n 2, 1) := by decide +kernel
theorem dX7_nameEnd_15 : decode cX7_nameEnd 15 = .ok (.iaload, 1) := by decide +kernel
theorem dX7_nameEnd_16 : decode cX7_nameEnd 16 = .ok (.invokestatic 73, 3) := by decide +kernel
theorem dX7_nameEnd_19 : decode cX7_nameEnd 19 = .ok (.ifCond .eq 9, 3) := by decide +kernel
theorem dX7_nameEnd_22 : decode cX7_nameEnd 22 = .ok (.iinc 2 1, 3) := by decide +kernel
theorem dX7_nameEnd_25 : decode cX7_nameEnd 25 = .ok (.goto (-23), 3) := by decide +kernel
theorem dX7_nameEnd_28 : decode cX7_nameEnd 28 = .ok (.iload_n 2, 1) := by decide +kernel
theorem dX7_nameEnd_29 : decode cX7_nameEnd 29 = .ok (.ireturn, 1) := by decide +kernel
theorem dX7_now_0 : decode cX7_now 0 = .ok (.aload_n 0, 1) := by decide +kernel
theorem dX7_now_1 : decode cX7_now 1 = .ok (.getfield 18, 3) := by decide +kernel
theorem dX7_now_4 : decode cX7_now 4 = .ok (.aload_n 0, 1) := by decide +kernel
theorem dX7_now_5 : decode cX7_now 5 = .ok (.getfield 9, 3) := by decide +kernel
theorem dX7_now_8 : decode cX7_now 8 = .ok (.arraylength, 1) := by decide +kernel
theorem dX7_now_9 : decode cX7_now 9 = .ok (.if_icmp .ge 15, 3) := by decide +kernel
theorem dX7_now_12 : decode cX7_now 12 = .ok (.aload_n 0, 1) := by decide +kernel
theorem dX7_now_13 : decode cX7_now 13 = .ok (.getfield 9, 3) := by decide +kernel
theorem dX7_now_16 : decode cX7_now 16 = .ok (.aload_n 0, 1) := by decide +kernel
theorem dX7_now_17 : decode cX7_now 17 = .ok (.getfield 18, 3) := by decide +kernel
theorem dX7_now_20 : decode cX7_now 20 = .ok (.iaload, 1) := by decide +kernel
theorem dX7_now_21 : decode cX7_now 21 = .ok (.goto 5, 3) := by decide +kernel
theorem dX7_now_26 : decode cX7_now 26 = .ok (.ireturn, 1) := by decide +kernel
theorem dX7_tell_0 : decode cX7_tell 0 = .ok (.aload_n 0, 1) := by decide +kernel
theorem dX7_tell_1 : decode cX7_tell 1 = .ok (.getfield 29, 3) := by decide +kernel
theorem dX7_tell_4 : decode cX7_tell 4 = .ok (.ifCond .ne 39, 3) := by decide +kernel
theorem dX7_tell_7 : decode cX7_tell 7 = .ok (.aload_n 0, 1) := by decide +kernel
theorem dX7_tell_8 : decode cX7_tell 8 = .ok (.iload_n 1, 1) := by decide +kernel
theorem dX7_tell_9 : decode cX7_tell 9 = .ok (.putfield 29, 3) := by decide +kernel
theorem dX7_tell_12 : decode cX7_tell 12 = .ok (.aload_n 0, 1) := by decide +kernel
theorem dX7_tell_13 : decode cX7_tell 13 = .ok (.aload_n 0, 1) := by decide +kernel
theorem dX7_tell_14 : decode cX7_tell 14 = .ok (.getfield 18, 3) := by decide +kernel
theorem dX7_tell_17 : decode cX7_tell 17 = .ok (.aload_n 0, 1) := by decide +kernel
theorem dX7_tell_18 : decode cX7_tell 18 = .ok (.getfield 15, 3) := by decide +kernel
theorem dX7_tell_21 : decode cX7_tell 21 = .ok (.arraylength, 1) := by decide +kernel
theorem dX7_tell_22 : decode cX7_tell 22 = .ok (.if_icmp .ge 15, 3) := by decide +kernel
theorem dX7_tell_25 : decode cX7_tell 25 = .ok (.aload_n 0, 1) := by decide +kernel
theorem dX7_tell_26 : decode cX7_tell 26 = .ok (.getfield 15, 3) := by decide +kernel
theorem dX7_tell_29 : decode cX7_tell 29 = .ok (.aload_n 0, 1) := by decide +kernel
theorem dX7_tell_30 : decode cX7_tell 30 = .ok (.getfield 18, 3) := by decide +kernel
theorem dX7_tell_33 : decode cX7_tell 33 = .ok (.iaload, 1) := by decide +kernel
theorem dX7_tell_34 : decode cX7_tell 34 = .ok (.goto 6, 3) := by decide +kernel
theorem dX7_tell_40 : decode cX7_tell 40 = .ok (.putfield 32, 3) := by decide +kernel
theorem dX7_tell_43 : decode cX7_tell 43 = .ok (.return_, 1) := by decide +kernel
theorem fl_X7_15_8 : xF RX7 15 8 1 (.array .int) true := ⟨by decide, RX7, TX7, 7, tyX7, "PaperBoys$Reader", rfl, inlX7, tyX7_ok, nmX7, by decide, rfl, rfl, m_6_10, Or.inl rfl⟩
theorem fl_X7_18_8 : xF RX7 18 8 2 .int false := ⟨by decide, RX7, TX7, 7, tyX7, "PaperBoys$Reader", rfl, inlX7, tyX7_ok, nmX7, by decide, rfl, rfl, m_6_11, Or.inl rfl⟩
theorem fl_X7_29_8 : xF RX7 29 8 5 .int false := ⟨by decide, RX7, TX7, 7, tyX7, "PaperBoys$Reader", rfl, inlX7, tyX7_ok, nmX7, by decide, rfl, rfl, m_6_14, Or.inl rfl⟩
theorem fl_X7_32_8 : xF RX7 32 8 6 .int false := ⟨by decide, RX7, TX7, 7, tyX7, "PaperBoys$Reader", rfl, inlX7, tyX7_ok, nmX7, by decide, rfl, rfl, m_6_15, Or.inl rfl⟩
theorem fl_X7_55_10 : xF RX7 55 10 1 .int false := ⟨by decide, RX9, TX9, 2, tyX9, "PaperBoys$Tape", rfl, inlX9, tyX9_ok, nmX9, by decide, rfl, rfl, m_22_19, Or.inl rfl⟩
theorem fl_X7_70_10 : xF RX7 70 10 0 (.array .int) true := ⟨by decide, RX9, TX9, 2, tyX9, "PaperBoys$Tape", rfl, inlX9, tyX9_ok, nmX9, by decide, rfl, rfl, m_23_1, Or.inl rfl⟩
theorem fl_X7_9_8 : xF RX7 9 8 0 (.array .int) true := ⟨by decide, RX7, TX7, 7, tyX7, "PaperBoys$Reader", rfl, inlX7, tyX7_ok, nmX7, by decide, rfl, rfl, m_6_9, Or.inl rfl⟩
theorem lk_X7_47 : xLV RX7 47 yX7_now cX7_now 1 (some .int) 0 := ⟨m_25_21, m_25_22, m_25_23, m_2_13, m_26_0, by decide +kernel⟩
theorem lk_X7_60 : xLV RX7 60 yX7_tell cX7_tell 2 none 1 := ⟨m_26_5, m_26_6, m_26_7, m_2_13, m_26_8, by decide +kernel⟩
theorem lk_X7_73 : xLS RX7 73 yX7_isOfName cX7_isOfName 1 (some .boolean) 1 := ⟨m_23_2, m_23_3, m_2_13, m_23_4, by decide +kernel⟩