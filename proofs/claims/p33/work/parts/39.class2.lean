theorem m_1_11 : Cond.instanceMethod objectInit ∈ wsL_law := ch_1 _ (List.mem_of_getElem? (i := 11) rfl)
theorem m_1_12 : Cond.code objectInit ⟨#[0xb1]⟩ 1 none ∈ wsL_law := ch_1 _ (List.mem_of_getElem? (i := 12) rfl)
theorem m_2_8 : Cond.instantiable RX10 8 ∈ wsL_law := ch_2 _ (List.mem_of_getElem? (i := 8) rfl)
theorem m_2_14 : Cond.fieldLink RX11 52 "PaperBoys" "reader" "LPaperBoys$Reader;" ∈ wsL_law := ch_2 _ (List.mem_of_getElem? (i := 14) rfl)
theorem m_2_15 : Cond.fieldLink RX11 56 "PaperBoys" "draft" "LPaperBoys$Terms;" ∈ wsL_law := ch_2 _ (List.mem_of_getElem? (i := 15) rfl)
theorem m_5_19 : Cond.instanceMethod yX10_init ∈ wsL_law := ch_5 _ (List.mem_of_getElem? (i := 19) rfl)
theorem m_5_20 : Cond.code yX10_init cX10_init 1 none ∈ wsL_law := ch_5 _ (List.mem_of_getElem? (i := 20) rfl)
theorem m_5_21 : Cond.methodLink RX10 3 objectInit ∈ wsL_law := ch_5 _ (List.mem_of_getElem? (i := 21) rfl)
theorem m_5_22 : Cond.fieldLink RX10 9 "PaperBoys$Terms" "from" "I" ∈ wsL_law := ch_5 _ (List.mem_of_getElem? (i := 22) rfl)
theorem m_12_1 : Cond.instantiable RX0 6 ∈ wsL_law := ch_12 _ (List.mem_of_getElem? (i := 1) rfl)
theorem m_12_2 : Cond.initialized RX0 ∈ wsL_law := ch_12 _ (List.mem_of_getElem? (i := 2) rfl)
theorem m_12_17 : Cond.methodLink RX11 125 yX0_init ∈ wsL_law := ch_12 _ (List.mem_of_getElem? (i := 17) rfl)
theorem m_12_18 : Cond.instanceMethod yX0_init ∈ wsL_law := ch_12 _ (List.mem_of_getElem? (i := 18) rfl)
theorem m_12_19 : Cond.code yX0_init cX0_init 6 none ∈ wsL_law := ch_12 _ (List.mem_of_getElem? (i := 19) rfl)
theorem m_12_20 : Cond.methodLink RX0 1 objectInit ∈ wsL_law := ch_12 _ (List.mem_of_getElem? (i := 20) rfl)
theorem m_12_21 : Cond.fieldLink RX0 7 "PaperBoys$Boy" "coin" "I" ∈ wsL_law := ch_12 _ (List.mem_of_getElem? (i := 21) rfl)
theorem m_12_22 : Cond.fieldLink RX0 13 "PaperBoys$Boy" "number" "I" ∈ wsL_law := ch_12 _ (List.mem_of_getElem? (i := 22) rfl)
theorem m_12_23 : Cond.fieldLink RX0 16 "PaperBoys$Boy" "age" "I" ∈ wsL_law := ch_12 _ (List.mem_of_getElem? (i := 23) rfl)
theorem m_13_0 : Cond.fieldLink RX0 19 "PaperBoys$Boy" "school" "Z" ∈ wsL_law := ch_13 _ (List.mem_of_getElem? (i := 0) rfl)
theorem m_13_1 : Cond.fieldLink RX0 23 "PaperBoys$Boy" "badge" "I" ∈ wsL_law := ch_13 _ (List.mem_of_getElem? (i := 1) rfl)
theorem m_13_2 : Cond.fieldLink RX0 26 "PaperBoys$Boy" "fists" "I" ∈ wsL_law := ch_13 _ (List.mem_of_getElem? (i := 2) rfl)
theorem m_13_3 : Cond.methodLink RX11 128 yJx4a65c_add_9ea2d ∈ wsL_law := ch_13 _ (List.mem_of_getElem? (i := 3) rfl)
theorem m_13_4 : Cond.instanceMethod yJx4a65c_add_9ea2d ∈ wsL_law := ch_13 _ (List.mem_of_getElem? (i := 4) rfl)
theorem m_13_5 : Cond.selects RJx4a65c yJx4a65c_add_9ea2d yJx4a65c_add_9ea2d ∈ wsL_law := ch_13 _ (List.mem_of_getElem? (i := 5) rfl)
theorem m_13_6 : Cond.code yJx4a65c_add_9ea2d cJx4a65c_add_9ea2d 2 (some .boolean) ∈ wsL_law := ch_13 _ (List.mem_of_getElem? (i := 6) rfl)
theorem m_22_11 : Cond.fieldLink RX11 197 "PaperBoys$Reader" "fault" "I" ∈ wsL_law := ch_22 _ (List.mem_of_getElem? (i := 11) rfl)
theorem m_22_12 : Cond.fieldLink RX11 202 "PaperBoys$Reader" "faultPlace" "I" ∈ wsL_law := ch_22 _ (List.mem_of_getElem? (i := 12) rfl)
theorem m_22_13 : Cond.methodLink RX11 193 yX7_read ∈ wsL_law := ch_22 _ (List.mem_of_getElem? (i := 13) rfl)
theorem m_22_14 : Cond.instanceMethod yX7_read ∈ wsL_law := ch_22 _ (List.mem_of_getElem? (i := 14) rfl)
theorem m_22_15 : Cond.selects RX7 yX7_read yX7_read ∈ wsL_law := ch_22 _ (List.mem_of_getElem? (i := 15) rfl)
theorem m_22_16 : Cond.code yX7_read cX7_read 4 none ∈ wsL_law := ch_22 _ (List.mem_of_getElem? (i := 16) rfl)
theorem m_27_21 : Cond.methodLink RX11 198 yX11_takeDraft ∈ wsL_law := ch_27 _ (List.mem_of_getElem? (i := 21) rfl)
theorem m_27_22 : Cond.instanceMethod yX11_takeDraft ∈ wsL_law := ch_27 _ (List.mem_of_getElem? (i := 22) rfl)
theorem m_27_23 : Cond.selects RX11 yX11_takeDraft yX11_takeDraft ∈ wsL_law := ch_27 _ (List.mem_of_getElem? (i := 23) rfl)
theorem m_28_0 : Cond.code yX11_takeDraft cX11_takeDraft 3 (some .int) ∈ wsL_law := ch_28 _ (List.mem_of_getElem? (i := 0) rfl)
theorem m_28_2 : Cond.fieldLink RX11 359 "PaperBoys$Terms" "lines" "I" ∈ wsL_law := ch_28 _ (List.mem_of_getElem? (i := 2) rfl)
theorem m_32_23 : Cond.instantiable RX1 11 ∈ wsL_law := ch_32 _ (List.mem_of_getElem? (i := 23) rfl)
theorem m_33_0 : Cond.initialized RX1 ∈ wsL_law := ch_33 _ (List.mem_of_getElem? (i := 0) rfl)
theorem m_33_1 : Cond.methodLink RX11 210 yX1_init ∈ wsL_law := ch_33 _ (List.mem_of_getElem? (i := 1) rfl)
theorem m_33_2 : Cond.instanceMethod yX1_init ∈ wsL_law := ch_33 _ (List.mem_of_getElem? (i := 2) rfl)
theorem m_33_3 : Cond.code yX1_init cX1_init 7 none ∈ wsL_law := ch_33 _ (List.mem_of_getElem? (i := 3) rfl)
theorem m_33_4 : Cond.methodLink RX1 1 objectInit ∈ wsL_law := ch_33 _ (List.mem_of_getElem? (i := 4) rfl)
theorem m_33_5 : Cond.fieldLink RX1 7 "PaperBoys$Bundle" "cost" "I" ∈ wsL_law := ch_33 _ (List.mem_of_getElem? (i := 5) rfl)
theorem m_33_6 : Cond.fieldLink RX1 13 "PaperBoys$Bundle" "sold" "I" ∈ wsL_law := ch_33 _ (List.mem_of_getElem? (i := 6) rfl)
theorem m_33_7 : Cond.fieldLink RX1 16 "PaperBoys$Bundle" "back" "I" ∈ wsL_law := ch_33 _ (List.mem_of_getElem? (i := 7) rfl)
theorem m_33_8 : Cond.fieldLink RX1 19 "PaperBoys$Bundle" "eaten" "I" ∈ wsL_law := ch_33 _ (List.mem_of_getElem? (i := 8) rfl)
theorem m_33_9 : Cond.fieldLink RX1 22 "PaperBoys$Bundle" "boy" "LPaperBoys$Boy;" ∈ wsL_law := ch_33 _ (List.mem_of_getElem? (i := 9) rfl)
theorem m_33_10 : Cond.fieldLink RX1 26 "PaperBoys$Bundle" "paper" "I" ∈ wsL_law := ch_33 _ (List.mem_of_getElem? (i := 10) rfl)
theorem m_33_11 : Cond.fieldLink RX1 29 "PaperBoys$Bundle" "corner" "I" ∈ wsL_law := ch_33 _ (List.mem_of_getElem? (i := 11) rfl)
theorem m_33_12 : Cond.fieldLink RX1 32 "PaperBoys$Bundle" "copies" "I" ∈ wsL_law := ch_33 _ (List.mem_of_getElem? (i := 12) rfl)
theorem m_33_13 : Cond.fieldLink RX1 35 "PaperBoys$Bundle" "hour" "I" ∈ wsL_law := ch_33 _ (List.mem_of_getElem? (i := 13) rfl)
theorem m_33_14 : Cond.fieldLink RX1 38 "PaperBoys$Bundle" "day" "I" ∈ wsL_law := ch_33 _ (List.mem_of_getElem? (i := 14) rfl)
theorem m_33_15 : Cond.fieldLink RX1 47 "PaperBoys$Bundle" "place" "I" ∈ wsL_law := ch_33 _ (List.mem_of_getElem? (i := 15) rfl)
theorem m_33_23 : Cond.methodLink RX11 217 yX5_buy ∈ wsL_law := ch_33 _ (List.mem_of_getElem? (i := 23) rfl)
theorem m_34_0 : Cond.instanceMethod yX5_buy ∈ wsL_law := ch_34 _ (List.mem_of_getElem? (i := 0) rfl)
theorem m_34_1 : Cond.selects RX5 yX5_buy yX5_buy ∈ wsL_law := ch_34 _ (List.mem_of_getElem? (i := 1) rfl)
theorem m_34_2 : Cond.code yX5_buy cX5_buy 5 (some .boolean) ∈ wsL_law := ch_34 _ (List.mem_of_getElem? (i := 2) rfl)
theorem m_34_6 : Cond.fieldLink RX5 109 "PaperBoys$Bundle" "cost" "I" ∈ wsL_law := ch_34 _ (List.mem_of_getElem? (i := 6) rfl)
theorem m_36_0 : Cond.methodLink RX5 112 yJx4a65c_add_9ea2d ∈ wsL_law := ch_36 _ (List.mem_of_getElem? (i := 0) rfl)
theorem kd39_0 : (decode cX0_init 0 = .ok (.aload_n 0, 1)) ∧ (decode cX0_init 1 = .ok (.invokespecial 1, 3)) ∧ (decode cX0_init 4 = .ok (.aload_n 0, 1)) ∧ (decode cX0_init 5 = .ok (.iconst 0, 1)) ∧ (decode cX0_init 6 = .ok (.putfield 7, 3)) ∧ (decode cX0_init 9 = .ok (.aload_n 0, 1)) ∧ (decode cX0_init 10 = .ok (.iload_n 1, 1)) ∧ (decode cX0_init 11 = .ok (.putfield 13, 3)) ∧ (decode cX0_init 14 = .ok (.aload_n 0, 1)) ∧ (decode cX0_init 15 = .ok (.iload_n 2, 1)) ∧ (decode cX0_init 16 = .ok (.putfield 16, 3)) ∧ (decode cX0_init 19 = .ok (.aload_n 0, 1)) := by decide +kernel
theorem kd39_1 : (decode cX0_init 20 = .ok (.iload_n 3, 1)) ∧ (decode cX0_init 21 = .ok (.putfield 19, 3)) ∧ (decode cX0_init 24 = .ok (.aload_n 0, 1)) ∧ (decode cX0_init 25 = .ok (.iload 4, 2)) ∧ (decode cX0_init 27 = .ok (.putfield 23, 3)) ∧ (decode cX0_init 30 = .ok (.aload_n 0, 1)) ∧ (decode cX0_init 31 = .ok (.iload 5, 2)) ∧ (decode cX0_init 33 = .ok (.putfield 26, 3)) ∧ (decode cX0_init 36 = .ok (.return_, 1)) ∧ (decode cX10_init 0 = .ok (.aload_n 0, 1)) ∧ (decode cX10_init 1 = .ok (.invokespecial 3, 3)) ∧ (decode cX10_init 4 = .ok (.aload_n 0, 1)) := by decide +kernel
theorem kd39_2 : (decode cX10_init 5 = .ok (.iconst (-1), 1)) ∧ (decode cX10_init 6 = .ok (.putfield 9, 3)) ∧ (decode cX10_init 9 = .ok (.aload_n 0, 1)) ∧ (decode cX10_init 10 = .ok (.iconst 0, 1)) ∧ (decode cX10_init 11 = .ok (.putfield 15, 3)) ∧ (decode cX10_init 14 = .ok (.aload_n 0, 1)) ∧ (decode cX10_init 15 = .ok (.iconst 0, 1)) ∧ (decode cX10_init 16 = .ok (.putfield 18, 3)) ∧ (decode cX10_init 19 = .ok (.aload_n 0, 1)) ∧ (decode cX10_init 20 = .ok (.bipush 16, 2)) ∧ (decode cX10_init 22 = .ok (.newarray .int, 2)) ∧ (decode cX10_init 24 = .ok (.putfield 21, 3)) := by decide +kernel
theorem kd39_3 : (decode cX10_init 27 = .ok (.aload_n 0, 1)) ∧ (decode cX10_init 28 = .ok (.bipush 16, 2)) ∧ (decode cX10_init 30 = .ok (.newarray .int, 2)) ∧ (decode cX10_init 32 = .ok (.putfield 25, 3)) ∧ (decode cX10_init 35 = .ok (.aload_n 0, 1)) ∧ (decode cX10_init 36 = .ok (.bipush 16, 2)) ∧ (decode cX10_init 38 = .ok (.newarray .int, 2)) ∧ (decode cX10_init 40 = .ok (.putfield 28, 3)) ∧ (decode cX10_init 43 = .ok (.aload_n 0, 1)) ∧ (decode cX10_init 44 = .ok (.bipush 16, 2)) ∧ (decode cX10_init 46 = .ok (.newarray .int, 2)) ∧ (decode cX10_init 48 = .ok (.putfield 31, 3)) := by decide +kernel
theorem kd39_4 : (decode cX10_init 51 = .ok (.aload_n 0, 1)) ∧ (decode cX10_init 52 = .ok (.bipush 100, 2)) ∧ (decode cX10_init 54 = .ok (.newarray .int, 2)) ∧ (decode cX10_init 56 = .ok (.putfield 34, 3)) ∧ (decode cX10_init 59 = .ok (.return_, 1)) ∧ (decode cX11_boy 0 = .ok (.aload_n 0, 1)) ∧ (decode cX11_boy 1 = .ok (.getfield 19, 3)) ∧ (decode cX11_boy 4 = .ok (.getfield 109, 3)) ∧ (decode cX11_boy 7 = .ok (.invokevirtual 112, 3)) ∧ (decode cX11_boy 10 = .ok (.bipush 40, 2)) ∧ (decode cX11_boy 12 = .ok (.if_icmp .ge 32, 3)) ∧ (decode cX11_boy 15 = .ok (.iload_n 1, 1)) := by decide +kernel
theorem kd39_5 : (decode cX11_boy 16 = .ok (.bipush 6, 2)) ∧ (decode cX11_boy 18 = .ok (.bipush 18, 2)) ∧ (decode cX11_boy 20 = .ok (.invokestatic 115, 3)) ∧ (decode cX11_boy 23 = .ok (.ifCond .eq 21, 3)) ∧ (decode cX11_boy 26 = .ok (.iload_n 3, 1)) ∧ (decode cX11_boy 27 = .ok (.invokestatic 119, 3)) ∧ (decode cX11_boy 30 = .ok (.ifCond .eq 14, 3)) ∧ (decode cX11_boy 33 = .ok (.iload 4, 2)) ∧ (decode cX11_boy 35 = .ok (.iconst 0, 1)) ∧ (decode cX11_boy 36 = .ok (.bipush 99, 2)) ∧ (decode cX11_boy 38 = .ok (.invokestatic 115, 3)) ∧ (decode cX11_boy 41 = .ok (.ifCond .ne 5, 3)) := by decide +kernel
theorem kd39_6 : (decode cX11_boy 44 = .ok (.iconst (-1), 1)) ∧ (decode cX11_boy 45 = .ok (.ireturn, 1)) ∧ (decode cX11_boy 46 = .ok (.aload_n 0, 1)) ∧ (decode cX11_boy 47 = .ok (.getfield 19, 3)) ∧ (decode cX11_boy 50 = .ok (.getfield 109, 3)) ∧ (decode cX11_boy 53 = .ok (.invokevirtual 112, 3)) ∧ (decode cX11_boy 56 = .ok (.istore 5, 2)) ∧ (decode cX11_boy 58 = .ok (.aload_n 0, 1)) ∧ (decode cX11_boy 59 = .ok (.getfield 19, 3)) ∧ (decode cX11_boy 62 = .ok (.getfield 109, 3)) ∧ (decode cX11_boy 65 = .ok (.new 123, 3)) ∧ (decode cX11_boy 68 = .ok (.dup, 1)) := by decide +kernel
theorem kd39_7 : (decode cX11_boy 69 = .ok (.iload 5, 2)) ∧ (decode cX11_boy 71 = .ok (.iload_n 1, 1)) ∧ (decode cX11_boy 72 = .ok (.iload_n 2, 1)) ∧ (decode cX11_boy 73 = .ok (.iload_n 3, 1)) ∧ (decode cX11_boy 74 = .ok (.iload 4, 2)) ∧ (decode cX11_boy 76 = .ok (.invokespecial 125, 3)) ∧ (decode cX11_boy 79 = .ok (.invokevirtual 128, 3)) ∧ (decode cX11_boy 82 = .ok (.pop, 1)) ∧ (decode cX11_boy 83 = .ok (.iload 5, 2)) ∧ (decode cX11_boy 85 = .ok (.ireturn, 1)) ∧ (decode cX11_bundle 0 = .ok (.aload_n 0, 1)) ∧ (decode cX11_bundle 1 = .ok (.getfield 83, 3)) := by decide +kernel
theorem kd39_8 : (decode cX11_bundle 4 = .ok (.sipush 400, 3)) ∧ (decode cX11_bundle 7 = .ok (.if_icmp .ge 67, 3)) ∧ (decode cX11_bundle 10 = .ok (.aload_n 0, 1)) ∧ (decode cX11_bundle 11 = .ok (.getfield 19, 3)) ∧ (decode cX11_bundle 14 = .ok (.getfield 205, 3)) ∧ (decode cX11_bundle 17 = .ok (.invokevirtual 112, 3)) ∧ (decode cX11_bundle 20 = .ok (.sipush 200, 3)) ∧ (decode cX11_bundle 23 = .ok (.if_icmp .ge 51, 3)) ∧ (decode cX11_bundle 26 = .ok (.aload_n 0, 1)) ∧ (decode cX11_bundle 27 = .ok (.getfield 19, 3)) ∧ (decode cX11_bundle 30 = .ok (.iload_n 1, 1)) ∧ (decode cX11_bundle 31 = .ok (.invokevirtual 132, 3)) := by decide +kernel
theorem kd39_9 : (decode cX11_bundle 34 = .ok (.ifCond .eq 40, 3)) ∧ (decode cX11_bundle 37 = .ok (.iload_n 2, 1)) ∧ (decode cX11_bundle 38 = .ok (.invokestatic 165, 3)) ∧ (decode cX11_bundle 41 = .ok (.ifCond .eq 33, 3)) ∧ (decode cX11_bundle 44 = .ok (.iload_n 3, 1)) ∧ (decode cX11_bundle 45 = .ok (.invokestatic 142, 3)) ∧ (decode cX11_bundle 48 = .ok (.ifCond .eq 26, 3)) ∧ (decode cX11_bundle 51 = .ok (.iload 4, 2)) ∧ (decode cX11_bundle 53 = .ok (.iconst 1, 1)) ∧ (decode cX11_bundle 54 = .ok (.sipush 1000, 3)) ∧ (decode cX11_bundle 57 = .ok (.invokestatic 115, 3)) ∧ (decode cX11_bundle 60 = .ok (.ifCond .eq 14, 3)) := by decide +kernel
theorem kd39_10 : (decode cX11_bundle 63 = .ok (.iload 5, 2)) ∧ (decode cX11_bundle 65 = .ok (.iconst 4, 1)) ∧ (decode cX11_bundle 66 = .ok (.bipush 20, 2)) ∧ (decode cX11_bundle 68 = .ok (.invokestatic 115, 3)) ∧ (decode cX11_bundle 71 = .ok (.ifCond .ne 5, 3)) ∧ (decode cX11_bundle 74 = .ok (.iconst (-1), 1)) ∧ (decode cX11_bundle 75 = .ok (.ireturn, 1)) ∧ (decode cX11_bundle 76 = .ok (.new 208, 3)) ∧ (decode cX11_bundle 79 = .ok (.dup, 1)) ∧ (decode cX11_bundle 80 = .ok (.aload_n 0, 1)) ∧ (decode cX11_bundle 81 = .ok (.getfield 19, 3)) ∧ (decode cX11_bundle 84 = .ok (.getfield 109, 3)) := by decide +kernel
theorem kd39_11 : (decode cX11_bundle 87 = .ok (.iload_n 1, 1)) ∧ (decode cX11_bundle 88 = .ok (.invokevirtual 135, 3)) ∧ (decode cX11_bundle 91 = .ok (.checkcast 123, 3)) ∧ (decode cX11_bundle 94 = .ok (.iload_n 2, 1)) ∧ (decode cX11_bundle 95 = .ok (.iload_n 3, 1)) ∧ (decode cX11_bundle 96 = .ok (.iload 4, 2)) ∧ (decode cX11_bundle 98 = .ok (.iload 5, 2)) ∧ (decode cX11_bundle 100 = .ok (.aload_n 0, 1)) ∧ (decode cX11_bundle 101 = .ok (.getfield 83, 3)) ∧ (decode cX11_bundle 104 = .ok (.invokespecial 210, 3)) ∧ (decode cX11_bundle 107 = .ok (.astore 6, 2)) ∧ (decode cX11_bundle 109 = .ok (.aload_n 0, 1)) := by decide +kernel
theorem kd39_12 : (decode cX11_bundle 110 = .ok (.getfield 19, 3)) ∧ (decode cX11_bundle 113 = .ok (.aload 6, 2)) ∧ (decode cX11_bundle 115 = .ok (.aload_n 0, 1)) ∧ (decode cX11_bundle 116 = .ok (.aload_n 0, 1)) ∧ (decode cX11_bundle 117 = .ok (.getfield 83, 3)) ∧ (decode cX11_bundle 120 = .ok (.invokevirtual 213, 3)) ∧ (decode cX11_bundle 123 = .ok (.invokevirtual 217, 3)) ∧ (decode cX11_bundle 126 = .ok (.ifCond .eq 18, 3)) ∧ (decode cX11_bundle 129 = .ok (.aload_n 0, 1)) ∧ (decode cX11_bundle 130 = .ok (.getfield 19, 3)) ∧ (decode cX11_bundle 133 = .ok (.getfield 205, 3)) ∧ (decode cX11_bundle 136 = .ok (.invokevirtual 112, 3)) := by decide +kernel
theorem kd39_13 : (decode cX11_bundle 139 = .ok (.iconst 1, 1)) ∧ (decode cX11_bundle 140 = .ok (.isub, 1)) ∧ (decode cX11_bundle 141 = .ok (.goto 4, 3)) ∧ (decode cX11_bundle 144 = .ok (.iconst (-1), 1)) ∧ (decode cX11_bundle 145 = .ok (.ireturn, 1)) ∧ (decode cX11_takeDraft 0 = .ok (.aload_n 0, 1)) ∧ (decode cX11_takeDraft 1 = .ok (.getfield 56, 3)) ∧ (decode cX11_takeDraft 4 = .ok (.astore_n 2, 1)) ∧ (decode cX11_takeDraft 5 = .ok (.aload_n 2, 1)) ∧ (decode cX11_takeDraft 6 = .ok (.iload_n 1, 1)) ∧ (decode cX11_takeDraft 7 = .ok (.putfield 356, 3)) ∧ (decode cX11_takeDraft 10 = .ok (.aload_n 0, 1)) := by decide +kernel
theorem kd39_14 : (decode cX11_takeDraft 11 = .ok (.getfield 38, 3)) ∧ (decode cX11_takeDraft 14 = .ok (.aload_n 2, 1)) ∧ (decode cX11_takeDraft 15 = .ok (.invokevirtual 128, 3)) ∧ (decode cX11_takeDraft 18 = .ok (.pop, 1)) ∧ (decode cX11_takeDraft 19 = .ok (.aload_n 0, 1)) ∧ (decode cX11_takeDraft 20 = .ok (.new 42, 3)) ∧ (decode cX11_takeDraft 23 = .ok (.dup, 1)) ∧ (decode cX11_takeDraft 24 = .ok (.invokespecial 44, 3)) ∧ (decode cX11_takeDraft 27 = .ok (.putfield 56, 3)) ∧ (decode cX11_takeDraft 30 = .ok (.aload_n 2, 1)) ∧ (decode cX11_takeDraft 31 = .ok (.getfield 359, 3)) ∧ (decode cX11_takeDraft 34 = .ok (.ireturn, 1)) := by decide +kernel
theorem kd39_15 : (decode cX11_terms 0 = .ok (.sipush (-1000), 3)) ∧ (decode cX11_terms 3 = .ok (.istore_n 2, 1)) ∧ (decode cX11_terms 4 = .ok (.aload_n 0, 1)) ∧ (decode cX11_terms 5 = .ok (.getfield 38, 3)) ∧ (decode cX11_terms 8 = .ok (.invokevirtual 112, 3)) ∧ (decode cX11_terms 11 = .ok (.bipush 10, 2)) ∧ (decode cX11_terms 13 = .ok (.if_icmp .ge 69, 3)) ∧ (decode cX11_terms 16 = .ok (.iload_n 1, 1)) ∧ (decode cX11_terms 17 = .ok (.invokestatic 159, 3)) ∧ (decode cX11_terms 20 = .ok (.ifCond .eq 62, 3)) ∧ (decode cX11_terms 23 = .ok (.iload_n 1, 1)) ∧ (decode cX11_terms 24 = .ok (.aload_n 0, 1)) := by decide +kernel
theorem kd39_16 : (decode cX11_terms 25 = .ok (.getfield 83, 3)) ∧ (decode cX11_terms 28 = .ok (.if_icmp .lt 54, 3)) ∧ (decode cX11_terms 31 = .ok (.aload_n 0, 1)) ∧ (decode cX11_terms 32 = .ok (.getfield 52, 3)) ∧ (decode cX11_terms 35 = .ok (.aload_n 0, 1)) ∧ (decode cX11_terms 36 = .ok (.getfield 10, 3)) ∧ (decode cX11_terms 39 = .ok (.aload_n 0, 1)) ∧ (decode cX11_terms 40 = .ok (.getfield 56, 3)) ∧ (decode cX11_terms 43 = .ok (.invokevirtual 193, 3)) ∧ (decode cX11_terms 46 = .ok (.aload_n 0, 1)) ∧ (decode cX11_terms 47 = .ok (.aload_n 0, 1)) ∧ (decode cX11_terms 48 = .ok (.getfield 52, 3)) := by decide +kernel
theorem kd39_17 : (decode cX11_terms 51 = .ok (.getfield 197, 3)) ∧ (decode cX11_terms 54 = .ok (.putfield 87, 3)) ∧ (decode cX11_terms 57 = .ok (.aload_n 0, 1)) ∧ (decode cX11_terms 58 = .ok (.getfield 87, 3)) ∧ (decode cX11_terms 61 = .ok (.ifCond .ne 11, 3)) ∧ (decode cX11_terms 64 = .ok (.aload_n 0, 1)) ∧ (decode cX11_terms 65 = .ok (.iload_n 1, 1)) ∧ (decode cX11_terms 66 = .ok (.invokevirtual 198, 3)) ∧ (decode cX11_terms 69 = .ok (.goto 12, 3)) ∧ (decode cX11_terms 72 = .ok (.iconst (-1), 1)) ∧ (decode cX11_terms 73 = .ok (.aload_n 0, 1)) ∧ (decode cX11_terms 74 = .ok (.getfield 52, 3)) := by decide +kernel
theorem kd39_18 : (decode cX11_terms 77 = .ok (.getfield 202, 3)) ∧ (decode cX11_terms 80 = .ok (.isub, 1)) ∧ (decode cX11_terms 81 = .ok (.istore_n 2, 1)) ∧ (decode cX11_terms 82 = .ok (.aload_n 0, 1)) ∧ (decode cX11_terms 83 = .ok (.getfield 10, 3)) ∧ (decode cX11_terms 86 = .ok (.iconst 0, 1)) ∧ (decode cX11_terms 87 = .ok (.putfield 102, 3)) ∧ (decode cX11_terms 90 = .ok (.iload_n 2, 1)) ∧ (decode cX11_terms 91 = .ok (.ireturn, 1)) ∧ (decode cX1_init 0 = .ok (.aload_n 0, 1)) ∧ (decode cX1_init 1 = .ok (.invokespecial 1, 3)) ∧ (decode cX1_init 4 = .ok (.aload_n 0, 1)) := by decide +kernel
theorem kd39_19 : (decode cX1_init 5 = .ok (.iconst 0, 1)) ∧ (decode cX1_init 6 = .ok (.putfield 7, 3)) ∧ (decode cX1_init 9 = .ok (.aload_n 0, 1)) ∧ (decode cX1_init 10 = .ok (.iconst 0, 1)) ∧ (decode cX1_init 11 = .ok (.putfield 13, 3)) ∧ (decode cX1_init 14 = .ok (.aload_n 0, 1)) ∧ (decode cX1_init 15 = .ok (.iconst 0, 1)) ∧ (decode cX1_init 16 = .ok (.putfield 16, 3)) ∧ (decode cX1_init 19 = .ok (.aload_n 0, 1)) ∧ (decode cX1_init 20 = .ok (.iconst 0, 1)) ∧ (decode cX1_init 21 = .ok (.putfield 19, 3)) ∧ (decode cX1_init 24 = .ok (.aload_n 0, 1)) := by decide +kernel
theorem kd39_20 : (decode cX1_init 25 = .ok (.aload_n 1, 1)) ∧ (decode cX1_init 26 = .ok (.putfield 22, 3)) ∧ (decode cX1_init 29 = .ok (.aload_n 0, 1)) ∧ (decode cX1_init 30 = .ok (.iload_n 2, 1)) ∧ (decode cX1_init 31 = .ok (.putfield 26, 3)) ∧ (decode cX1_init 34 = .ok (.aload_n 0, 1)) ∧ (decode cX1_init 35 = .ok (.iload_n 3, 1)) ∧ (decode cX1_init 36 = .ok (.putfield 29, 3)) ∧ (decode cX1_init 39 = .ok (.aload_n 0, 1)) ∧ (decode cX1_init 40 = .ok (.iload 4, 2)) ∧ (decode cX1_init 42 = .ok (.putfield 32, 3)) ∧ (decode cX1_init 45 = .ok (.aload_n 0, 1)) := by decide +kernel
theorem kd39_21 : (decode cX1_init 46 = .ok (.iload 5, 2)) ∧ (decode cX1_init 48 = .ok (.putfield 35, 3)) ∧ (decode cX1_init 51 = .ok (.aload_n 0, 1)) ∧ (decode cX1_init 52 = .ok (.iload 6, 2)) ∧ (decode cX1_init 54 = .ok (.putfield 38, 3)) ∧ (decode cX1_init 57 = .ok (.aload_n 0, 1)) ∧ (decode cX1_init 58 = .ok (.iload 6, 2)) ∧ (decode cX1_init 60 = .ok (.iload_n 2, 1)) ∧ (decode cX1_init 61 = .ok (.iload_n 3, 1)) ∧ (decode cX1_init 62 = .ok (.invokestatic 41, 3)) ∧ (decode cX1_init 65 = .ok (.putfield 47, 3)) ∧ (decode cX1_init 68 = .ok (.return_, 1)) := by decide +kernel
theorem kd39_22 : (decode cX5_buy 0 = .ok (.aload_n 0, 1)) ∧ (decode cX5_buy 1 = .ok (.aload_n 1, 1)) ∧ (decode cX5_buy 2 = .ok (.invokevirtual 92, 3)) ∧ (decode cX5_buy 5 = .ok (.aload_n 1, 1)) ∧ (decode cX5_buy 6 = .ok (.getfield 83, 3)) ∧ (decode cX5_buy 9 = .ok (.aload_n 2, 1)) ∧ (decode cX5_buy 10 = .ok (.iconst 0, 1)) ∧ (decode cX5_buy 11 = .ok (.aload_n 0, 1)) ∧ (decode cX5_buy 12 = .ok (.getfield 31, 3)) ∧ (decode cX5_buy 15 = .ok (.invokevirtual 96, 3)) ∧ (decode cX5_buy 18 = .ok (.invokestatic 102, 3)) ∧ (decode cX5_buy 21 = .ok (.istore_n 3, 1)) := by decide +kernel
theorem kd39_23 : (decode cX5_buy 22 = .ok (.aload_n 1, 1)) ∧ (decode cX5_buy 23 = .ok (.getfield 49, 3)) ∧ (decode cX5_buy 26 = .ok (.getfield 106, 3)) ∧ (decode cX5_buy 29 = .ok (.iload_n 3, 1)) ∧ (decode cX5_buy 30 = .ok (.isub, 1)) ∧ (decode cX5_buy 31 = .ok (.istore 4, 2)) ∧ (decode cX5_buy 33 = .ok (.aload_n 1, 1)) ∧ (decode cX5_buy 34 = .ok (.getfield 83, 3)) ∧ (decode cX5_buy 37 = .ok (.aload_n 2, 1)) ∧ (decode cX5_buy 38 = .ok (.iconst 3, 1)) ∧ (decode cX5_buy 39 = .ok (.aload_n 0, 1)) ∧ (decode cX5_buy 40 = .ok (.getfield 31, 3)) := by decide +kernel
theorem kd39_24 : (decode cX5_buy 43 = .ok (.invokevirtual 96, 3)) ∧ (decode cX5_buy 46 = .ok (.if_icmp .gt 18, 3)) ∧ (decode cX5_buy 49 = .ok (.iload 4, 2)) ∧ (decode cX5_buy 51 = .ok (.aload_n 2, 1)) ∧ (decode cX5_buy 52 = .ok (.iconst 5, 1)) ∧ (decode cX5_buy 53 = .ok (.aload_n 0, 1)) ∧ (decode cX5_buy 54 = .ok (.getfield 31, 3)) ∧ (decode cX5_buy 57 = .ok (.invokevirtual 96, 3)) ∧ (decode cX5_buy 60 = .ok (.ineg, 1)) ∧ (decode cX5_buy 61 = .ok (.if_icmp .ge 5, 3)) ∧ (decode cX5_buy 64 = .ok (.iconst 0, 1)) ∧ (decode cX5_buy 65 = .ok (.ireturn, 1)) := by decide +kernel
theorem kd39_25 : (decode cX5_buy 66 = .ok (.aload_n 1, 1)) ∧ (decode cX5_buy 67 = .ok (.iload_n 3, 1)) ∧ (decode cX5_buy 68 = .ok (.putfield 109, 3)) ∧ (decode cX5_buy 71 = .ok (.aload_n 1, 1)) ∧ (decode cX5_buy 72 = .ok (.getfield 49, 3)) ∧ (decode cX5_buy 75 = .ok (.iload 4, 2)) ∧ (decode cX5_buy 77 = .ok (.putfield 106, 3)) ∧ (decode cX5_buy 80 = .ok (.aload_n 0, 1)) ∧ (decode cX5_buy 81 = .ok (.getfield 25, 3)) ∧ (decode cX5_buy 84 = .ok (.aload_n 1, 1)) ∧ (decode cX5_buy 85 = .ok (.invokevirtual 112, 3)) ∧ (decode cX5_buy 88 = .ok (.pop, 1)) := by decide +kernel
theorem kd39_26 : (decode cX5_buy 89 = .ok (.iconst 1, 1)) ∧ (decode cX5_buy 90 = .ok (.ireturn, 1)) := by decide +kernel
theorem fl_X0_13_5001 : xF RX0 13 5001 0 .int true := ⟨by decide, RX0, TX0, 6, tyX0, "PaperBoys$Boy", rfl, inlX0, tyX0_ok, nmX0, by decide, rfl, rfl, m_12_22, Or.inl rfl⟩
theorem fl_X0_16_5001 : xF RX0 16 5001 1 .int true := ⟨by decide, RX0, TX0, 6, tyX0, "PaperBoys$Boy", rfl, inlX0, tyX0_ok, nmX0, by decide, rfl, rfl, m_12_23, Or.inl rfl⟩
theorem fl_X0_19_5001 : xF RX0 19 5001 2 .boolean true := ⟨by decide, RX0, TX0, 6, tyX0, "PaperBoys$Boy", rfl, inlX0, tyX0_ok, nmX0, by decide, rfl, rfl, m_13_0, Or.inl rfl⟩
theorem fl_X0_23_5001 : xF RX0 23 5001 4 .int false := ⟨by decide, RX0, TX0, 6, tyX0, "PaperBoys$Boy", rfl, inlX0, tyX0_ok, nmX0, by decide, rfl, rfl, m_13_1, Or.inl rfl⟩
theorem fl_X0_26_5001 : xF RX0 26 5001 3 .int true := ⟨by decide, RX0, TX0, 6, tyX0, "PaperBoys$Boy", rfl, inlX0, tyX0_ok, nmX0, by decide, rfl, rfl, m_13_2, Or.inl rfl⟩
theorem fl_X0_7_5001 : xF RX0 7 5001 5 .int false := ⟨by decide, RX0, TX0, 6, tyX0, "PaperBoys$Boy", rfl, inlX0, tyX0_ok, nmX0, by decide, rfl, rfl, m_12_21, Or.inl rfl⟩
theorem fl_X10_15_5011 : xF RX10 15 5011 1 .int false := ⟨by decide, RX10, TX10, 8, tyX10, "PaperBoys$Terms", rfl, inlX10, tyX10_ok, nmX10, by decide, rfl, rfl, m_5_23, Or.inl rfl⟩
theorem fl_X10_18_5011 : xF RX10 18 5011 2 .int false := ⟨by decide, RX10, TX10, 8, tyX10, "PaperBoys$Terms", rfl, inlX10, tyX10_ok, nmX10, by decide, rfl, rfl, m_6_0, Or.inl rfl⟩
theorem fl_X10_21_5011 : xF RX10 21 5011 3 (.array .int) true := ⟨by decide, RX10, TX10, 8, tyX10, "PaperBoys$Terms", rfl, inlX10, tyX10_ok, nmX10, by decide, rfl, rfl, m_6_1, Or.inl rfl⟩
theorem fl_X10_25_5011 : xF RX10 25 5011 4 (.array .int) true := ⟨by decide, RX10, TX10, 8, tyX10, "PaperBoys$Terms", rfl, inlX10, tyX10_ok, nmX10, by decide, rfl, rfl, m_6_2, Or.inl rfl⟩
theorem fl_X10_28_5011 : xF RX10 28 5011 5 (.array .int) true := ⟨by decide, RX10, TX10, 8, tyX10, "PaperBoys$Terms", rfl, inlX10, tyX10_ok, nmX10, by decide, rfl, rfl, m_6_3, Or.inl rfl⟩
theorem fl_X10_31_5011 : xF RX10 31 5011 6 (.array .int) true := ⟨by decide, RX10, TX10, 8, tyX10, "PaperBoys$Terms", rfl, inlX10, tyX10_ok, nmX10, by decide, rfl, rfl, m_6_4, Or.inl rfl⟩
theorem fl_X10_34_5011 : xF RX10 34 5011 7 (.array .int) true := ⟨by decide, RX10, TX10, 8, tyX10, "PaperBoys$Terms", rfl, inlX10, tyX10_ok, nmX10, by decide, rfl, rfl, m_6_5, Or.inl rfl⟩
theorem fl_X10_9_5011 : xF RX10 9 5011 0 .int false := ⟨by decide, RX10, TX10, 8, tyX10, "PaperBoys$Terms", rfl, inlX10, tyX10_ok, nmX10, by decide, rfl, rfl, m_5_22, Or.inl rfl⟩
theorem fl_X11_197_8 : xF RX11 197 8 5 .int false := ⟨by decide, RX7, TX7, 7, tyX7, "PaperBoys$Reader", rfl, inlX7, tyX7_ok, nmX7, by decide, rfl, rfl, m_22_11, Or.inl rfl⟩
theorem fl_X11_202_8 : xF RX11 202 8 6 .int false := ⟨by decide, RX7, TX7, 7, tyX7, "PaperBoys$Reader", rfl, inlX7, tyX7_ok, nmX7, by decide, rfl, rfl, m_22_12, Or.inl rfl⟩
theorem fl_X11_359_11 : xF RX11 359 11 1 .int false := ⟨by decide, RX10, TX10, 8, tyX10, "PaperBoys$Terms", rfl, inlX10, tyX10_ok, nmX10, by decide, rfl, rfl, m_28_2, Or.inl rfl⟩
theorem fl_X11_52_12 : xF RX11 52 12 6 (.object "PaperBoys$Reader") true := ⟨by decide, RX11, TX11, 18, tyX11, "PaperBoys", rfl, inlX11, tyX11_ok, nmX11, by decide, rfl, rfl, m_2_14, Or.inl rfl⟩
theorem fl_X11_56_12 : xF RX11 56 12 7 (.object "PaperBoys$Terms") false := ⟨by decide, RX11, TX11, 18, tyX11, "PaperBoys", rfl, inlX11, tyX11_ok, nmX11, by decide, rfl, rfl, m_2_15, Or.inl rfl⟩
theorem fl_X1_13_5002 : xF RX1 13 5002 8 .int false := ⟨by decide, RX1, TX1, 11, tyX1, "PaperBoys$Bundle", rfl, inlX1, tyX1_ok, nmX1, by decide, rfl, rfl, m_33_6, Or.inl rfl⟩
theorem fl_X1_16_5002 : xF RX1 16 5002 9 .int false := ⟨by decide, RX1, TX1, 11, tyX1, "PaperBoys$Bundle", rfl, inlX1, tyX1_ok, nmX1, by decide, rfl, rfl, m_33_7, Or.inl rfl⟩
theorem fl_X1_19_5002 : xF RX1 19 5002 10 .int false := ⟨by decide, RX1, TX1, 11, tyX1, "PaperBoys$Bundle", rfl, inlX1, tyX1_ok, nmX1, by decide, rfl, rfl, m_33_8, Or.inl rfl⟩
theorem fl_X1_22_5002 : xF RX1 22 5002 0 (.object "PaperBoys$Boy") true := ⟨by decide, RX1, TX1, 11, tyX1, "PaperBoys$Bundle", rfl, inlX1, tyX1_ok, nmX1, by decide, rfl, rfl, m_33_9, Or.inl rfl⟩
theorem fl_X1_26_5002 : xF RX1 26 5002 1 .int true := ⟨by decide, RX1, TX1, 11, tyX1, "PaperBoys$Bundle", rfl, inlX1, tyX1_ok, nmX1, by decide, rfl, rfl, m_33_10, Or.inl rfl⟩
theorem fl_X1_29_5002 : xF RX1 29 5002 2 .int true := ⟨by decide, RX1, TX1, 11, tyX1, "PaperBoys$Bundle", rfl, inlX1, tyX1_ok, nmX1, by decide, rfl, rfl, m_33_11, Or.inl rfl⟩
theorem fl_X1_32_5002 : xF RX1 32 5002 3 .int true := ⟨by decide, RX1, TX1, 11, tyX1, "PaperBoys$Bundle", rfl, inlX1, tyX1_ok, nmX1, by decide, rfl, rfl, m_33_12, Or.inl rfl⟩
theorem fl_X1_35_5002 : xF RX1 35 5002 4 .int true := ⟨by decide, RX1, TX1, 11, tyX1, "PaperBoys$Bundle", rfl, inlX1, tyX1_ok, nmX1, by decide, rfl, rfl, m_33_13, Or.inl rfl⟩
theorem fl_X1_38_5002 : xF RX1 38 5002 5 .int true := ⟨by decide, RX1, TX1, 11, tyX1, "PaperBoys$Bundle", rfl, inlX1, tyX1_ok, nmX1, by decide, rfl, rfl, m_33_14, Or.inl rfl⟩
theorem fl_X1_47_5002 : xF RX1 47 5002 6 .int true := ⟨by decide, RX1, TX1, 11, tyX1, "PaperBoys$Bundle", rfl, inlX1, tyX1_ok, nmX1, by decide, rfl, rfl, m_33_15, Or.inl rfl⟩
theorem fl_X1_7_5002 : xF RX1 7 5002 7 .int false := ⟨by decide, RX1, TX1, 11, tyX1, "PaperBoys$Bundle", rfl, inlX1, tyX1_ok, nmX1, by decide, rfl, rfl, m_33_5, Or.inl rfl⟩
theorem fl_X5_109_2 : xF RX5 109 2 7 .int false := ⟨by decide, RX1, TX1, 11, tyX1, "PaperBoys$Bundle", rfl, inlX1, tyX1_ok, nmX1, by decide, rfl, rfl, m_34_6, Or.inl rfl⟩
theorem li_X11_125 : xLI RX11 125 yX0_init cX0_init 6 5 := ⟨Or.inl m_12_17, m_12_18, m_12_2, m_12_19, rfl, by decide +kernel⟩
theorem li_X11_210 : xLI RX11 210 yX1_init cX1_init 7 6 := ⟨Or.inl m_33_1, m_33_2, m_33_0, m_33_3, rfl, by decide +kernel⟩
theorem li_X11_44 : xLI RX11 44 yX10_init cX10_init 1 0 := ⟨Or.inr (by decide), m_5_19, m_2_9, m_5_20, rfl, by decide +kernel⟩
theorem lk_X11_128 : xLV RX11 128 yJx4a65c_add_9ea2d cJx4a65c_add_9ea2d 2 (some .boolean) 1 := ⟨m_13_3, m_13_4, m_13_5, m_2_5, m_13_6, by decide +kernel⟩
theorem lk_X11_193 : xLV RX11 193 yX7_read cX7_read 4 none 2 := ⟨m_22_13, m_22_14, m_22_15, m_2_13, m_22_16, by decide +kernel⟩
theorem lk_X11_198 : xLV RX11 198 yX11_takeDraft cX11_takeDraft 3 (some .int) 1 := ⟨m_27_21, m_27_22, m_27_23, m_1_2, m_28_0, by decide +kernel⟩
theorem lk_X11_217 : xLV RX11 217 yX5_buy cX5_buy 5 (some .boolean) 2 := ⟨m_33_23, m_34_0, m_34_1, m_1_19, m_34_2, by decide +kernel⟩
theorem lk_X1_41 : xLN RX1 41 yX11_placeOf cX11_placeOf 3 (some .int) 3 := ⟨by decide, m_33_16, m_1_2, m_33_17, by decide +kernel⟩
theorem lk_X5_112 : xLV RX5 112 yJx4a65c_add_9ea2d cJx4a65c_add_9ea2d 2 (some .boolean) 1 := ⟨m_36_0, m_13_4, m_13_5, m_2_5, m_13_6, by decide +kernel⟩
theorem nw_X11_123 : xNw RX11 123 1 RX0 TX0 6 tyX0 [.int 0, .int 0, .int 0, .int 0, .int 0, .int 0] := ⟨by decide, rfl, inlX0, tyX0_ok, dfX0, m_12_0, m_12_1, m_12_2⟩
theorem nw_X11_208 : xNw RX11 208 2 RX1 TX1 11 tyX1 [.null, .int 0, .int 0, .int 0, .int 0, .int 0, .int 0, .int 0, .int 0, .int 0, .int 0] := ⟨by decide, rfl, inlX1, tyX1_ok, dfX1, m_32_22, m_32_23, m_33_0⟩
theorem nw_X11_42 : xNw RX11 42 11 RX10 TX10 8 tyX10 [.int 0, .int 0, .int 0, .null, .null, .null, .null, .null] := ⟨by decide, rfl, inlX10, tyX10_ok, dfX10, m_2_7, m_2_8, m_2_9⟩
theorem xgd {α : Type} {p : α → Prop} {l : List α} {d : α} (k : Nat) (h : ∀ c ∈ l, p c) (hd : p d) : p (l.getD k d) := by
  rw [List.getD_eq_getElem?_getD]
  cases h9 : l[k]? with
  | none => exact hd
  | some c => exact h c (List.mem_of_getElem? h9)
theorem xsl_p {p : Nat × Int × Int → Prop} (hO : ∀ l ∈ xslO, ∀ c ∈ l, p c) (hV : ∀ l ∈ xslV, ∀ c ∈ l, p c) (hA : ∀ c ∈ xslA, p c) (h9 : p (9, 0, 0)) (t k : Nat) : p (xsl t k) := by
  unfold xsl
  split
  · exact xgd k (xgd (p := fun l => ∀ c ∈ l, p c) t hO (fun c h => absurd h List.not_mem_nil)) h9
  · split
    · exact xgd k (xgd (p := fun l => ∀ c ∈ l, p c) _ hV (fun c h => absurd h List.not_mem_nil)) h9
    · exact xgd _ hA h9
theorem xsl_raw (t k : Nat) {r : Int} (h : 5000 ≤ r ∧ r < 5100) : (xsl t k).2.1 ≠ r := by
  have := xsl_p (p := fun c => c.2.1 < 5000 ∨ 5100 ≤ c.2.1) (by decide +kernel) (by decide +kernel) (by decide +kernel) (by decide) t k
  omega
theorem slr (ci k : Nat) (h : ci < 100) : xsl (5000 + ci) k = (9, 0, 0) := by
  unfold xsl
  rw [if_neg (by omega), if_pos (by omega)]
  have : (5000 + ci) / 100 - 1 = 49 := by omega
  rw [this]
  rfl
theorem xokr {S : xT} {v : Value} (ci k : Nat) (h : ci < 100) : xok S (xsl (5000 + ci) k) v := by
  rw [slr ci k h]
  trivial
theorem xk0 {S : xT} {v : Value} {t k : Nat} {lo hi z : Int} (h : xsl t k = (0, lo, hi)) (e : v = .int (iI z)) (h1 : lo ≤ z) (h2 : z ≤ hi) : xok S (xsl t k) v := by rw [h]; exact ⟨z, e, h1, h2⟩
theorem xk1 {S : xT} {v : Value} {t k b : Nat} (τ q : Nat) (h : xsl t k = (1, (τ : Int), (q : Int))) (e : v = .ref b) (hb : S b = some (τ, q)) : xok S (xsl t k) v := by rw [h]; exact ⟨b, e, hb⟩
theorem xk3 {S : xT} {v : Value} {t k : Nat} {p q : Int} {y : Int64} (h : xsl t k = (3, p, q)) (e : v = .long y) : xok S (xsl t k) v := by rw [h]; exact ⟨y, e⟩
theorem xk7 {S : xT} {v : Value} {t k b m : Nat} {q : Int} (τ : Nat) (h : xsl t k = (7, (τ : Int), q)) (e : v = .ref b) (hb : S b = some (τ, m)) : xok S (xsl t k) v := by rw [h]; exact ⟨b, m, e, hb⟩
theorem xk9 {S : xT} {v : Value} {t k : Nat} (h : xsl t k = (9, 0, 0)) : xok S (xsl t k) v := by rw [h]; trivial
theorem xhs_seal {S S1 : xT} {q b t n r : Nat} (ho : ∀ b, b ≠ q → S1 b = S b) (hq : S q = some (r, 0)) (hb : S b = some (t, n)) (hn : t ≠ r) : S1 b = some (t, n) := by
  have : b ≠ q := fun e => by rw [e, hq] at hb; cases hb; exact hn rfl
  rw [ho b this]; exact hb
theorem xL1.seal {S S1 : xT} {g : xG} {q r ci tl td te cap : Nat} (h : xL1 S g tl td te cap) (hq : S q = some (r, 0)) (hS : S1 = xset S q (ci, 0)) (h1 : td ≠ r) (h2 : te ≠ r) (h3 : tl ≠ ci) (h4 : 20003 ≠ r) : xL1 S1 g tl td te cap := by
  have ho : ∀ b, b ≠ q → S1 b = S b := fun b hb => by rw [hS]; exact xset_o hb
  have back : ∀ a n, S1 a = some (tl, n) → S a = some (tl, n) := fun a n w => by
    by_cases e : a = q
    · rw [e, hS, xset_s] at w; cases w; exact absurd rfl h3
    · rw [← ho a e]; exact w
  refine ⟨fun a n a' n' w1 w2 => h.1 a n a' n' (back a n w1) (back a' n' w2), fun a n w => ?_⟩
  obtain ⟨b, m, z, k1, k2, k3, k4, k5, k6, k7, k8⟩ := h.2 a n (back a n w)
  refine ⟨b, m, z, k1, ?_, k3, k4, k5, k6, k7, fun k hk => ?_⟩
  · rcases k2 with k2 | k2
    · exact Or.inl ⟨xhs_seal ho hq k2.1 h1, k2.2⟩
    · exact Or.inr ⟨xhs_seal ho hq k2.1 h4, k2.2⟩
  · obtain ⟨e, w1, w2⟩ := k8 k hk
    exact ⟨e, w1, xhs_seal ho hq w2 h2⟩
theorem xLs_seal {S S1 : xT} {g : xG} {q r ci : Nat} (h : xLs S g) (hq : S q = some (r, 0)) (hS : S1 = xset S q (ci, 0)) (hr : 5000 ≤ r ∧ r < 5100) (hc : 0 < ci ∧ ci < 100) : xLs S1 g :=
  ⟨h.1.seal hq hS (by omega) (by omega) (by omega) (by omega), h.2.1.seal hq hS (by omega) (by omega) (by omega) (by omega), h.2.2.1.seal hq hS (by omega) (by omega) (by omega) (by omega), h.2.2.2.seal hq hS (by omega) (by omega) (by omega) (by omega)⟩
def xSi (S : xT) (t0 : Nat → Nat) : Prop := xEm S t0 ∧ xSn S
theorem xSi.nw {S S1 : xT} {t0 : Nat → Nat} {ts : List Nat} (h : xSi S t0) (hw : xNw2 S S1 ts) (ht : ∀ t ∈ ts, t ≠ 20003 ∧ t ≠ 13400) : xSi S1 t0 :=
  ⟨fun c m hc => (hw c _ m hc).elim (h.1 c m) (fun q => absurd rfl (ht _ q).1), fun b m hb => (hw b _ m hb).elim (h.2 b m) (fun q => absurd rfl (ht _ q).2)⟩
theorem xNw2.one {S S1 : xT} {q t n : Nat} (h : S1 = xset S q (t, n)) : xNw2 S S1 [t] := h ▸ xNw2.set (List.mem_singleton.mpr rfl)
theorem xMu.mono {l : Launch} {y : MethodName} {cy : ByteArray} {mx : Nat} {ret : Option FieldType} {rf rc rs rl : Nat} {D : va_G} {kA : Nat → ClassId} {b0 : Nat} {t0 : Nat → Nat} {L : List (Nat × Nat)} {av : List Value} {S : xT} {g : xG} {post post' : Option Value → xT → xG → Nat → Nat → Prop} (h : xMu l y cy mx ret rf rc rs rl D kA b0 t0 L av S g post) (hp : ∀ r S1 g1 dc ds, post r S1 g1 dc ds → xLe S S1 → xM L S g g1 → post' r S1 g1 dc ds) : xMu l y cy mx ret rf rc rs rl D kA b0 t0 L av S g post' := by
  unfold xMu Met at h ⊢
  refine Jvm.Free.MetFree.mono h (fun _ _ h => h) (fun _ _ _ _ _ h => h) (fun a s o t _ hq => ?_)
  obtain ⟨⟨⟨r, S1, g1, dc, ds, e1, e2, e3, e4, e5⟩, f1⟩, f2⟩ := hq
  exact ⟨⟨⟨r, S1, g1, dc, ds, e1, hp _ _ _ _ _ e2 e3 e4, e3, e4, e5⟩, f1⟩, f2⟩
set_option maxHeartbeats 4000000 in
set_option maxRecDepth 100000 in
theorem c_addW_0 (l : Launch) (D : va_G) (kA : Nat → ClassId) (b0 : Nat) (t0 : Nat → Nat) (S : xT) (g : xG) (a0 : Nat) (a1 : Nat) (n0 : Int) (hs_a0 : S a0 = some (0, 0)) (hs_a1 : S a1 = some (1, 0)) (hn0 : 0 ≤ n0 ∧ n0 ≤ 39) (en0 : g a0 2 = .int (iI n0)) (hp0 : xLs S g) (hp1 : xSi S t0) : xMu l yJx4a65c_add_9ea2d cJx4a65c_add_9ea2d 2 (some .boolean) 6 1 244 143 D kA b0 t0 [(0, 0), (0, 1), (0, 2), (10103, 0)] [.ref a0, .ref a1] S g (fun (r : Option Value) (S1 : xT) (g1 : xG) (dc ds : Nat) => xNw2 S S1 [10103] ∧ ∃ z : Int, r = some (.int (iI z)) ∧ 0 ≤ z ∧ z ≤ 1 ∧ (xLs S1 g1) ∧ (g1 a0 2 = .int (iI (n0 + 1))) ∧ (dc ≤ 1 ∧ ds ≤ 244)) := by
  obtain ⟨n, z, hal⟩ := xAL.n ((xLs_0 hp0).2 a0 0 hs_a0)
  have hz : n0 = z := by obtain ⟨_, _, _, _, e, q0, _, q2, _⟩ := hal; exact xinj en0 e (by omega) (by omega)
  subst hz
  refine (c_addE_0 l D kA b0 t0 S g a0 a1 n n0 hs_a0 hs_a1 hal (by omega) hp1.1).mono (fun r S1 g1 dc ds hp hle hm => ?_)
  obtain ⟨rfl, nw, n1, ha, k1, k2, k3, k4, k5, k6⟩ := hp
  have ha2 : g1 a0 2 = .int (iI (n0 + 1)) := by obtain ⟨_, _, _, _, e, _⟩ := ha; exact e
  exact ⟨nw, 1, rfl, (by omega), (by omega), xLs_set_0 hp0 hm hle nw hs_a0 ha.al, ha2, k5, k6⟩

set_option maxHeartbeats 4000000 in
set_option maxRecDepth 100000 in
theorem c_addW_100 (l : Launch) (D : va_G) (kA : Nat → ClassId) (b0 : Nat) (t0 : Nat → Nat) (S : xT) (g : xG) (a0 : Nat) (a1 : Nat) (n0 : Int) (hs_a0 : S a0 = some (100, 0)) (hs_a1 : S a1 = some (2, 0)) (hn0 : 0 ≤ n0 ∧ n0 ≤ 199) (en0 : g a0 2 = .int (iI n0)) (hp0 : xLs S g) (hp1 : xSi S t0) : xMu l yJx4a65c_add_9ea2d cJx4a65c_add_9ea2d 2 (some .boolean) 6 1 244 143 D kA b0 t0 [(100, 0), (100, 1), (100, 2), (10203, 0)] [.ref a0, .ref a1] S g (fun (r : Option Value) (S1 : xT) (g1 : xG) (dc ds : Nat) => xNw2 S S1 [10203] ∧ ∃ z : Int, r = some (.int (iI z)) ∧ 0 ≤ z ∧ z ≤ 1 ∧ (xLs S1 g1) ∧ (g1 a0 2 = .int (iI (n0 + 1))) ∧ (dc ≤ 1 ∧ ds ≤ 244)) := by
  obtain ⟨n, z, hal⟩ := xAL.n ((xLs_100 hp0).2 a0 0 hs_a0)
  have hz : n0 = z := by obtain ⟨_, _, _, _, e, q0, _, q2, _⟩ := hal; exact xinj en0 e (by omega) (by omega)
  subst hz
  refine (c_addE_100 l D kA b0 t0 S g a0 a1 n n0 hs_a0 hs_a1 hal (by omega) hp1.1).mono (fun r S1 g1 dc ds hp hle hm => ?_)
  obtain ⟨rfl, nw, n1, ha, k1, k2, k3, k4, k5, k6⟩ := hp
  have ha2 : g1 a0 2 = .int (iI (n0 + 1)) := by obtain ⟨_, _, _, _, e, _⟩ := ha; exact e
  exact ⟨nw, 1, rfl, (by omega), (by omega), xLs_set_100 hp0 hm hle nw hs_a0 ha.al, ha2, k5, k6⟩

set_option maxHeartbeats 4000000 in
set_option maxRecDepth 100000 in
theorem c_addW_300 (l : Launch) (D : va_G) (kA : Nat → ClassId) (b0 : Nat) (t0 : Nat → Nat) (S : xT) (g : xG) (a0 : Nat) (a1 : Nat) (n0 : Int) (hs_a0 : S a0 = some (300, 0)) (hs_a1 : S a1 = some (11, 0)) (hn0 : 0 ≤ n0 ∧ n0 ≤ 9) (en0 : g a0 2 = .int (iI n0)) (hp0 : xLs S g) (hp1 : xSi S t0) : xMu l yJx4a65c_add_9ea2d cJx4a65c_add_9ea2d 2 (some .boolean) 6 1 244 143 D kA b0 t0 [(300, 0), (300, 1), (300, 2), (10303, 0)] [.ref a0, .ref a1] S g (fun (r : Option Value) (S1 : xT) (g1 : xG) (dc ds : Nat) => xNw2 S S1 [10303] ∧ ∃ z : Int, r = some (.int (iI z)) ∧ 0 ≤ z ∧ z ≤ 1 ∧ (xLs S1 g1) ∧ (g1 a0 2 = .int (iI (n0 + 1))) ∧ (dc ≤ 1 ∧ ds ≤ 244)) := by
  obtain ⟨n, z, hal⟩ := xAL.n ((xLs_300 hp0).2 a0 0 hs_a0)
  have hz : n0 = z := by obtain ⟨_, _, _, _, e, q0, _, q2, _⟩ := hal; exact xinj en0 e (by omega) (by omega)
  subst hz
  refine (c_addE_300 l D kA b0 t0 S g a0 a1 n n0 hs_a0 hs_a1 hal (by omega) hp1.1).mono (fun r S1 g1 dc ds hp hle hm => ?_)
  obtain ⟨rfl, nw, n1, ha, k1, k2, k3, k4, k5, k6⟩ := hp
  have ha2 : g1 a0 2 = .int (iI (n0 + 1)) := by obtain ⟨_, _, _, _, e, _⟩ := ha; exact e
  exact ⟨nw, 1, rfl, (by omega), (by omega), xLs_set_300 hp0 hm hle nw hs_a0 ha.al, ha2, k5, k6⟩

set_option maxHeartbeats 4000000 in
set_option maxRecDepth 100000 in
theorem c_X0_init (l : Launch) (D : va_G) (kA : Nat → ClassId) (b0 : Nat) (t0 : Nat → Nat) (S : xT) (g : xG) (a0 : Nat) (x1 : Int) (x2 : Int) (x3 : Int) (x4 : Int) (x5 : Int) (hs_a0 : S a0 = some (5001, 0)) (hx1 : (-2147483648) ≤ x1 ∧ x1 ≤ 2147483647) (hx2 : (-2147483648) ≤ x2 ∧ x2 ≤ 2147483647) (hx3 : 0 ≤ x3 ∧ x3 ≤ 1) (hx4 : (-2147483648) ≤ x4 ∧ x4 ≤ 2147483647) (hx5 : (-2147483648) ≤ x5 ∧ x5 ≤ 2147483647) : xMu l yX0_init cX0_init 6 none 1 0 0 12 D kA b0 t0 [(5001, 5), (5001, 0), (5001, 1), (5001, 2), (5001, 4), (5001, 3)] [.ref a0, .int (iI x1), .int (iI x2), .int (iI x3), .int (iI x4), .int (iI x5)] S g (fun (r : Option Value) (S1 : xT) (g1 : xG) (dc ds : Nat) => xNw2 S S1 [] ∧ r = none ∧ (∀ k9 : Nat, xok S1 (xsl 1 k9) (g1 a0 k9)) ∧ (dc = 0 ∧ ds = 0)) := by
  refine xEnterUV (by decide) (by simp [lg_sl, Value.category]) [(0, .ref a0), (1, .int (iI x1)), (2, .int (iI x2)), (3, .int (iI x3)), (4, .int (iI x4)), (5, .int (iI x5))] rfl ?_
  intro K E hK hret hS0 _ hini ht
  subst ht
  refine X_aloadn hK (i := 0) 0 kd39_0.1 rfl rfl ?_
  refine X_oinit hK ⟨m_12_20, m_1_11, m_1_12⟩ ⟨by decide, by simp [Value.category]⟩ kd39_0.2.1 ?_
  refine X_aloadn hK (i := 0) 0 kd39_0.2.2.1 rfl rfl ?_
  refine X_iconst hK kd39_0.2.2.2.1 ?_
  refine X_putv hK fl_X0_7_5001 hs_a0 (by decide) (xokr 1 5 (by decide)) rfl rfl kd39_0.2.2.2.2.1 (fun g1 hg1 => ?_)
  refine X_aloadn hK (i := 0) 0 kd39_0.2.2.2.2.2.1 rfl rfl ?_
  refine X_iloadn hK (i := 1) 1 kd39_0.2.2.2.2.2.2.1 rfl rfl ?_
  refine X_putF hK fl_X0_13_5001 (fun T9 N9 C9 h9 => by cases (Option.some.inj (h9.symm.trans (rfl : vwCl[1]? = some (RX0, TX0, 6)))); rfl) (hini rfl) hs_a0 (Or.inr (by decide)) (xokr 1 0 (by decide)) rfl rfl kd39_0.2.2.2.2.2.2.2.1 (fun g2 hg2 => ?_)
  refine X_aloadn hK (i := 0) 0 kd39_0.2.2.2.2.2.2.2.2.1 rfl rfl ?_
  refine X_iloadn hK (i := 2) 2 kd39_0.2.2.2.2.2.2.2.2.2.1 rfl rfl ?_
  refine X_putF hK fl_X0_16_5001 (fun T9 N9 C9 h9 => by cases (Option.some.inj (h9.symm.trans (rfl : vwCl[1]? = some (RX0, TX0, 6)))); rfl) (hini rfl) hs_a0 (Or.inr (by decide)) (xokr 1 1 (by decide)) rfl rfl kd39_0.2.2.2.2.2.2.2.2.2.2.1 (fun g3 hg3 => ?_)
  refine X_aloadn hK (i := 0) 0 kd39_0.2.2.2.2.2.2.2.2.2.2.2 rfl rfl ?_
  refine X_iloadn hK (i := 3) 3 kd39_1.1 rfl rfl ?_
  refine X_putF hK fl_X0_19_5001 (fun T9 N9 C9 h9 => by cases (Option.some.inj (h9.symm.trans (rfl : vwCl[1]? = some (RX0, TX0, 6)))); rfl) (hini rfl) hs_a0 (Or.inr (by decide)) (xokr 1 2 (by decide)) (b01 (by omega) (by omega)).1 (b01 (by omega) (by omega)).2 kd39_1.2.1 (fun g4 hg4 => ?_)
  refine X_aloadn hK (i := 0) 0 kd39_1.2.2.1 rfl rfl ?_
  refine X_iload hK (i := 4) 4 kd39_1.2.2.2.1 rfl ?_
  refine X_putv hK fl_X0_23_5001 hs_a0 (by decide) (xokr 1 4 (by decide)) rfl rfl kd39_1.2.2.2.2.1 (fun g5 hg5 => ?_)
  refine X_aloadn hK (i := 0) 0 kd39_1.2.2.2.2.2.1 rfl rfl ?_
  refine X_iload hK (i := 5) 5 kd39_1.2.2.2.2.2.2.1 rfl ?_
  refine X_putF hK fl_X0_26_5001 (fun T9 N9 C9 h9 => by cases (Option.some.inj (h9.symm.trans (rfl : vwCl[1]? = some (RX0, TX0, 6)))); rfl) (hini rfl) hs_a0 (Or.inr (by decide)) (xokr 1 3 (by decide)) rfl rfl kd39_1.2.2.2.2.2.2.2.1 (fun g6 hg6 => ?_)
  exact hret _ _ _ _ _ _ kd39_1.2.2.2.2.2.2.2.2.1 ⟨xNw2.rf, rfl, (fun k9 => match k9 with | 0 => xk0 sl_1_0 ((xs_k hg6 (by decide)).trans ((xs_k hg5 (by decide)).trans ((xs_k hg4 (by decide)).trans ((xs_k hg3 (by decide)).trans (xs_s hg2))))) (by omega) (by omega) | 1 => xk0 sl_1_1 ((xs_k hg6 (by decide)).trans ((xs_k hg5 (by decide)).trans ((xs_k hg4 (by decide)).trans (xs_s hg3)))) (by omega) (by omega) | 2 => xk0 sl_1_2 ((xs_k hg6 (by decide)).trans ((xs_k hg5 (by decide)).trans (xs_s hg4))) (by omega) (by omega) | 3 => xk0 sl_1_3 (xs_s hg6) (by omega) (by omega) | 4 => xk0 sl_1_4 ((xs_k hg6 (by decide)).trans (xs_s hg5)) (by omega) (by omega) | 5 => xk0 sl_1_5 ((xs_k hg6 (by decide)).trans ((xs_k hg5 (by decide)).trans ((xs_k hg4 (by decide)).trans ((xs_k hg3 (by decide)).trans ((xs_k hg2 (by decide)).trans (xs_s hg1)))))) (by omega) (by omega) | n9 + 6 => xk9 (by rfl)), (by omega)⟩ (by omega) (by omega)

set_option maxHeartbeats 4000000 in
set_option maxRecDepth 100000 in
theorem c_X1_init (l : Launch) (D : va_G) (kA : Nat → ClassId) (b0 : Nat) (t0 : Nat → Nat) (S : xT) (g : xG) (a0 : Nat) (a1 : Nat) (x2 : Int) (x3 : Int) (x4 : Int) (x5 : Int) (x6 : Int) (hs_a0 : S a0 = some (5002, 0)) (hs_a1 : S a1 = some (1, 0)) (hx2 : 0 ≤ x2 ∧ x2 ≤ 3) (hx3 : 0 ≤ x3 ∧ x3 ≤ 9) (hx4 : (-2147483648) ≤ x4 ∧ x4 ≤ 2147483647) (hx5 : (-2147483648) ≤ x5 ∧ x5 ≤ 2147483647) (hx6 : 0 ≤ x6 ∧ x6 ≤ 399) : xMu l yX1_init cX1_init 7 none 1 0 0 22 D kA b0 t0 [(5002, 7), (5002, 8), (5002, 9), (5002, 10), (5002, 0), (5002, 1), (5002, 2), (5002, 3), (5002, 4), (5002, 5), (5002, 6)] [.ref a0, .ref a1, .int (iI x2), .int (iI x3), .int (iI x4), .int (iI x5), .int (iI x6)] S g (fun (r : Option Value) (S1 : xT) (g1 : xG) (dc ds : Nat) => xNw2 S S1 [] ∧ r = none ∧ (∀ k9 : Nat, xok S1 (xsl 2 k9) (g1 a0 k9)) ∧ (dc = 0 ∧ ds = 0)) := by
  refine xEnterUV (by decide) (by simp [lg_sl, Value.category]) [(0, .ref a0), (1, .ref a1), (2, .int (iI x2)), (3, .int (iI x3)), (4, .int (iI x4)), (5, .int (iI x5)), (6, .int (iI x6))] rfl ?_
  intro K E hK hret hS0 _ hini ht
  subst ht
  refine X_aloadn hK (i := 0) 0 kd39_18.2.2.2.2.2.2.2.2.2.1 rfl rfl ?_
  refine X_oinit hK ⟨m_33_4, m_1_11, m_1_12⟩ ⟨by decide, by simp [Value.category]⟩ kd39_18.2.2.2.2.2.2.2.2.2.2.1 ?_
  refine X_aloadn hK (i := 0) 0 kd39_18.2.2.2.2.2.2.2.2.2.2.2 rfl rfl ?_
  refine X_iconst hK kd39_19.1 ?_
  refine X_putv hK fl_X1_7_5002 hs_a0 (by decide) (xokr 2 7 (by decide)) rfl rfl kd39_19.2.1 (fun g1 hg1 => ?_)
  refine X_aloadn hK (i := 0) 0 kd39_19.2.2.1 rfl rfl ?_
  refine X_iconst hK kd39_19.2.2.2.1 ?_
  refine X_putv hK fl_X1_13_5002 hs_a0 (by decide) (xokr 2 8 (by decide)) rfl rfl kd39_19.2.2.2.2.1 (fun g2 hg2 => ?_)
  refine X_aloadn hK (i := 0) 0 kd39_19.2.2.2.2.2.1 rfl rfl ?_
  refine X_iconst hK kd39_19.2.2.2.2.2.2.1 ?_
  refine X_putv hK fl_X1_16_5002 hs_a0 (by decide) (xokr 2 9 (by decide)) rfl rfl kd39_19.2.2.2.2.2.2.2.1 (fun g3 hg3 => ?_)
  refine X_aloadn hK (i := 0) 0 kd39_19.2.2.2.2.2.2.2.2.1 rfl rfl ?_
  refine X_iconst hK kd39_19.2.2.2.2.2.2.2.2.2.1 ?_
  refine X_putv hK fl_X1_19_5002 hs_a0 (by decide) (xokr 2 10 (by decide)) rfl rfl kd39_19.2.2.2.2.2.2.2.2.2.2.1 (fun g4 hg4 => ?_)
  refine X_aloadn hK (i := 0) 0 kd39_19.2.2.2.2.2.2.2.2.2.2.2 rfl rfl ?_
  refine X_aloadn hK (i := 1) 1 kd39_20.1 rfl rfl ?_
  refine X_putF hK fl_X1_22_5002 (fun T9 N9 C9 h9 => by cases (Option.some.inj (h9.symm.trans (rfl : vwCl[2]? = some (RX1, TX1, 11)))); rfl) (hini rfl) hs_a0 (Or.inr (by decide)) (xokr 2 0 (by decide)) rfl rfl kd39_20.2.1 (fun g5 hg5 => ?_)
  refine X_aloadn hK (i := 0) 0 kd39_20.2.2.1 rfl rfl ?_
  refine X_iloadn hK (i := 2) 2 kd39_20.2.2.2.1 rfl rfl ?_
  refine X_putF hK fl_X1_26_5002 (fun T9 N9 C9 h9 => by cases (Option.some.inj (h9.symm.trans (rfl : vwCl[2]? = some (RX1, TX1, 11)))); rfl) (hini rfl) hs_a0 (Or.inr (by decide)) (xokr 2 1 (by decide)) rfl rfl kd39_20.2.2.2.2.1 (fun g6 hg6 => ?_)
  refine X_aloadn hK (i := 0) 0 kd39_20.2.2.2.2.2.1 rfl rfl ?_
  refine X_iloadn hK (i := 3) 3 kd39_20.2.2.2.2.2.2.1 rfl rfl ?_
  refine X_putF hK fl_X1_29_5002 (fun T9 N9 C9 h9 => by cases (Option.some.inj (h9.symm.trans (rfl : vwCl[2]? = some (RX1, TX1, 11)))); rfl) (hini rfl) hs_a0 (Or.inr (by decide)) (xokr 2 2 (by decide)) rfl rfl kd39_20.2.2.2.2.2.2.2.1 (fun g7 hg7 => ?_)
  refine X_aloadn hK (i := 0) 0 kd39_20.2.2.2.2.2.2.2.2.1 rfl rfl ?_
  refine X_iload hK (i := 4) 4 kd39_20.2.2.2.2.2.2.2.2.2.1 rfl ?_
  refine X_putF hK fl_X1_32_5002 (fun T9 N9 C9 h9 => by cases (Option.some.inj (h9.symm.trans (rfl : vwCl[2]? = some (RX1, TX1, 11)))); rfl) (hini rfl) hs_a0 (Or.inr (by decide)) (xokr 2 3 (by decide)) rfl rfl kd39_20.2.2.2.2.2.2.2.2.2.2.1 (fun g8 hg8 => ?_)
  refine X_aloadn hK (i := 0) 0 kd39_20.2.2.2.2.2.2.2.2.2.2.2 rfl rfl ?_
  refine X_iload hK (i := 5) 5 kd39_21.1 rfl ?_
  refine X_putF hK fl_X1_35_5002 (fun T9 N9 C9 h9 => by cases (Option.some.inj (h9.symm.trans (rfl : vwCl[2]? = some (RX1, TX1, 11)))); rfl) (hini rfl) hs_a0 (Or.inr (by decide)) (xokr 2 4 (by decide)) rfl rfl kd39_21.2.1 (fun g9 hg9 => ?_)
  refine X_aloadn hK (i := 0) 0 kd39_21.2.2.1 rfl rfl ?_
  refine X_iload hK (i := 6) 6 kd39_21.2.2.2.1 rfl ?_
  refine X_putF hK fl_X1_38_5002 (fun T9 N9 C9 h9 => by cases (Option.some.inj (h9.symm.trans (rfl : vwCl[2]? = some (RX1, TX1, 11)))); rfl) (hini rfl) hs_a0 (Or.inr (by decide)) (xokr 2 5 (by decide)) rfl rfl kd39_21.2.2.2.2.1 (fun g10 hg10 => ?_)
  refine X_aloadn hK (i := 0) 0 kd39_21.2.2.2.2.2.1 rfl rfl ?_
  refine X_iload hK (i := 6) 6 kd39_21.2.2.2.2.2.2.1 rfl ?_
  refine X_iloadn hK (i := 2) 2 kd39_21.2.2.2.2.2.2.2.1 rfl rfl ?_
  refine X_iloadn hK (i := 3) 3 kd39_21.2.2.2.2.2.2.2.2.1 rfl rfl ?_
  refine X_callN hK [.int (iI x6), .int (iI x2), .int (iI x3)] [.ref a0] lk_X1_41 (c_X11_placeOf _ _ _ _ _ S g10 x6 x2 x3 (by omega) (by omega) (by omega)) kd39_21.2.2.2.2.2.2.2.2.2.1 rfl rfl (by simp [Value.category]) (by decide) (by omega) (by omega) (by decide) (fun r11 S13 g12 pr11 qr11 hg12 => ?_)
  obtain ⟨rfl, rfl, z14, rfl, lz14, uz14⟩ := pr11
  refine X_st [.int (iI z14), .ref a0] rfl ?_
  refine X_putF hK fl_X1_47_5002 (fun T9 N9 C9 h9 => by cases (Option.some.inj (h9.symm.trans (rfl : vwCl[2]? = some (RX1, TX1, 11)))); rfl) (hini rfl) hs_a0 (Or.inr (by decide)) (xokr 2 6 (by decide)) rfl rfl kd39_21.2.2.2.2.2.2.2.2.2.2.1 (fun g15 hg15 => ?_)
  exact hret _ _ _ _ _ _ kd39_21.2.2.2.2.2.2.2.2.2.2.2 ⟨xNw2.rf, rfl, (fun k9 => match k9 with | 0 => xk1 1 0 sl_2_0 ((xs_k hg15 (by decide)).trans ((xs_k hg10 (by decide)).trans ((xs_k hg9 (by decide)).trans ((xs_k hg8 (by decide)).trans ((xs_k hg7 (by decide)).trans ((xs_k hg6 (by decide)).trans (xs_s hg5))))))) hs_a1 | 1 => xk0 sl_2_1 ((xs_k hg15 (by decide)).trans ((xs_k hg10 (by decide)).trans ((xs_k hg9 (by decide)).trans ((xs_k hg8 (by decide)).trans ((xs_k hg7 (by decide)).trans (xs_s hg6)))))) (by omega) (by omega) | 2 => xk0 sl_2_2 ((xs_k hg15 (by decide)).trans ((xs_k hg10 (by decide)).trans ((xs_k hg9 (by decide)).trans ((xs_k hg8 (by decide)).trans (xs_s hg7))))) (by omega) (by omega) | 3 => xk0 sl_2_3 ((xs_k hg15 (by decide)).trans ((xs_k hg10 (by decide)).trans ((xs_k hg9 (by decide)).trans (xs_s hg8)))) (by omega) (by omega) | 4 => xk0 sl_2_4 ((xs_k hg15 (by decide)).trans ((xs_k hg10 (by decide)).trans (xs_s hg9))) (by omega) (by omega) | 5 => xk0 sl_2_5 ((xs_k hg15 (by decide)).trans (xs_s hg10)) (by omega) (by omega) | 6 => xk0 sl_2_6 (xs_s hg15) (by omega) (by omega) | 7 => xk0 sl_2_7 ((xs_k hg15 (by decide)).trans ((xs_k hg10 (by decide)).trans ((xs_k hg9 (by decide)).trans ((xs_k hg8 (by decide)).trans ((xs_k hg7 (by decide)).trans ((xs_k hg6 (by decide)).trans ((xs_k hg5 (by decide)).trans ((xs_k hg4 (by decide)).trans ((xs_k hg3 (by decide)).trans ((xs_k hg2 (by decide)).trans (xs_s hg1))))))))))) (by omega) (by omega) | 8 => xk0 sl_2_8 ((xs_k hg15 (by decide)).trans ((xs_k hg10 (by decide)).trans ((xs_k hg9 (by decide)).trans ((xs_k hg8 (by decide)).trans ((xs_k hg7 (by decide)).trans ((xs_k hg6 (by decide)).trans ((xs_k hg5 (by decide)).trans ((xs_k hg4 (by decide)).trans ((xs_k hg3 (by decide)).trans (xs_s hg2)))))))))) (by omega) (by omega) | 9 => xk0 sl_2_9 ((xs_k hg15 (by decide)).trans ((xs_k hg10 (by decide)).trans ((xs_k hg9 (by decide)).trans ((xs_k hg8 (by decide)).trans ((xs_k hg7 (by decide)).trans ((xs_k hg6 (by decide)).trans ((xs_k hg5 (by decide)).trans ((xs_k hg4 (by decide)).trans (xs_s hg3))))))))) (by omega) (by omega) | 10 => xk0 sl_2_10 ((xs_k hg15 (by decide)).trans ((xs_k hg10 (by decide)).trans ((xs_k hg9 (by decide)).trans ((xs_k hg8 (by decide)).trans ((xs_k hg7 (by decide)).trans ((xs_k hg6 (by decide)).trans ((xs_k hg5 (by decide)).trans (xs_s hg4)))))))) (by omega) (by omega) | n9 + 11 => xk9 (by rfl)), (by omega)⟩ (by omega) (by omega)

set_option maxHeartbeats 4000000 in
set_option maxRecDepth 100000 in
theorem c_X10_init (l : Launch) (D : va_G) (kA : Nat → ClassId) (b0 : Nat) (t0 : Nat → Nat) (S : xT) (g : xG) (a0 : Nat) (hs_a0 : S a0 = some (5011, 0)) : xMu l yX10_init cX10_init 1 none 1 5 164 12 D kA b0 t0 [(5011, 0), (5011, 1), (5011, 2), (5011, 3), (5011, 4), (5011, 5), (5011, 6), (5011, 7)] [.ref a0] S g (fun (r : Option Value) (S1 : xT) (g1 : xG) (dc ds : Nat) => xNw2 S S1 [13600, 13700, 13800, 13900, 14000] ∧ r = none ∧ (∀ k9 : Nat, xok S1 (xsl 11 k9) (g1 a0 k9)) ∧ (dc ≤ 5 ∧ ds ≤ 164)) := by
  refine xEnterUV (by decide) (by simp [lg_sl, Value.category]) [(0, .ref a0)] rfl ?_
  intro K E hK hret hS0 _ hini ht
  subst ht
  refine X_aloadn hK (i := 0) 0 kd39_1.2.2.2.2.2.2.2.2.2.1 rfl rfl ?_
  refine X_oinit hK ⟨m_5_21, m_1_11, m_1_12⟩ ⟨by decide, by simp [Value.category]⟩ kd39_1.2.2.2.2.2.2.2.2.2.2.1 ?_
  refine X_aloadn hK (i := 0) 0 kd39_1.2.2.2.2.2.2.2.2.2.2.2 rfl rfl ?_
  refine X_iconst hK kd39_2.1 ?_
  refine X_putv hK fl_X10_9_5011 hs_a0 (by decide) (xokr 11 0 (by decide)) rfl rfl kd39_2.2.1 (fun g1 hg1 => ?_)
  refine X_aloadn hK (i := 0) 0 kd39_2.2.2.1 rfl rfl ?_
  refine X_iconst hK kd39_2.2.2.2.1 ?_
  refine X_putv hK fl_X10_15_5011 hs_a0 (by decide) (xokr 11 1 (by decide)) rfl rfl kd39_2.2.2.2.2.1 (fun g2 hg2 => ?_)
  refine X_aloadn hK (i := 0) 0 kd39_2.2.2.2.2.2.1 rfl rfl ?_
  refine X_iconst hK kd39_2.2.2.2.2.2.2.1 ?_
  refine X_putv hK fl_X10_18_5011 hs_a0 (by decide) (xokr 11 2 (by decide)) rfl rfl kd39_2.2.2.2.2.2.2.2.1 (fun g3 hg3 => ?_)
  refine X_aloadn hK (i := 0) 0 kd39_2.2.2.2.2.2.2.2.2.1 rfl rfl ?_
  refine X_bipush hK kd39_2.2.2.2.2.2.2.2.2.2.1 (by decide) ?_
  refine X_newa hK (ty := .int) 13600 0 (.int 0) rfl (fun _ => rfl) rfl (by decide) m_3_14 (by omega) ⟨by show _ * 4 ≤ _; omega, by omega⟩ (by omega) (by omega) (fun _ _ h9 => h9) (fun S9 k9 => by rw [sl_13600]; exact ⟨0, rfl, by decide, by decide⟩) kd39_2.2.2.2.2.2.2.2.2.2.2.1 (fun b4 S5 g6 zb4 nb4 hSb4 hg6 qb4 hs_b4 => ?_)
  refine X_putF hK fl_X10_21_5011 (fun T9 N9 C9 h9 => by cases (Option.some.inj (h9.symm.trans (rfl : vwCl[11]? = some (RX10, TX10, 8)))); rfl) (hini rfl) (qb4 _ _ hs_a0) (Or.inr (by decide)) (xokr 11 3 (by decide)) rfl rfl kd39_2.2.2.2.2.2.2.2.2.2.2.2 (fun g7 hg7 => ?_)
  refine X_aloadn hK (i := 0) 0 kd39_3.1 rfl rfl ?_
  refine X_bipush hK kd39_3.2.1 (by decide) ?_
  refine X_newa hK (ty := .int) 13700 0 (.int 0) rfl (fun _ => rfl) rfl (by decide) m_3_14 (by omega) ⟨by show _ * 4 ≤ _; omega, by omega⟩ (by omega) (by omega) (fun _ _ h9 => h9) (fun S9 k9 => by rw [sl_13700]; exact ⟨0, rfl, by decide, by decide⟩) kd39_3.2.2.1 (fun b8 S9 g10 zb8 nb8 hSb8 hg10 qb8 hs_b8 => ?_)
  refine X_putF hK fl_X10_25_5011 (fun T9 N9 C9 h9 => by cases (Option.some.inj (h9.symm.trans (rfl : vwCl[11]? = some (RX10, TX10, 8)))); rfl) (hini rfl) (qb8 _ _ (qb4 _ _ hs_a0)) (Or.inr (by decide)) (xokr 11 4 (by decide)) rfl rfl kd39_3.2.2.2.1 (fun g11 hg11 => ?_)
  refine X_aloadn hK (i := 0) 0 kd39_3.2.2.2.2.1 rfl rfl ?_
  refine X_bipush hK kd39_3.2.2.2.2.2.1 (by decide) ?_
  refine X_newa hK (ty := .int) 13800 0 (.int 0) rfl (fun _ => rfl) rfl (by decide) m_3_14 (by omega) ⟨by show _ * 4 ≤ _; omega, by omega⟩ (by omega) (by omega) (fun _ _ h9 => h9) (fun S9 k9 => by rw [sl_13800]; exact ⟨0, rfl, by decide, by decide⟩) kd39_3.2.2.2.2.2.2.1 (fun b12 S13 g14 zb12 nb12 hSb12 hg14 qb12 hs_b12 => ?_)
  refine X_putF hK fl_X10_28_5011 (fun T9 N9 C9 h9 => by cases (Option.some.inj (h9.symm.trans (rfl : vwCl[11]? = some (RX10, TX10, 8)))); rfl) (hini rfl) (qb12 _ _ (qb8 _ _ (qb4 _ _ hs_a0))) (Or.inr (by decide)) (xokr 11 5 (by decide)) rfl rfl kd39_3.2.2.2.2.2.2.2.1 (fun g15 hg15 => ?_)
  refine X_aloadn hK (i := 0) 0 kd39_3.2.2.2.2.2.2.2.2.1 rfl rfl ?_
  refine X_bipush hK kd39_3.2.2.2.2.2.2.2.2.2.1 (by decide) ?_
  refine X_newa hK (ty := .int) 13900 0 (.int 0) rfl (fun _ => rfl) rfl (by decide) m_3_14 (by omega) ⟨by show _ * 4 ≤ _; omega, by omega⟩ (by omega) (by omega) (fun _ _ h9 => h9) (fun S9 k9 => by rw [sl_13900]; exact ⟨0, rfl, by decide, by decide⟩) kd39_3.2.2.2.2.2.2.2.2.2.2.1 (fun b16 S17 g18 zb16 nb16 hSb16 hg18 qb16 hs_b16 => ?_)
  refine X_putF hK fl_X10_31_5011 (fun T9 N9 C9 h9 => by cases (Option.some.inj (h9.symm.trans (rfl : vwCl[11]? = some (RX10, TX10, 8)))); rfl) (hini rfl) (qb16 _ _ (qb12 _ _ (qb8 _ _ (qb4 _ _ hs_a0)))) (Or.inr (by decide)) (xokr 11 6 (by decide)) rfl rfl kd39_3.2.2.2.2.2.2.2.2.2.2.2 (fun g19 hg19 => ?_)
  refine X_aloadn hK (i := 0) 0 kd39_4.1 rfl rfl ?_
  refine X_bipush hK kd39_4.2.1 (by decide) ?_
  refine X_newa hK (ty := .int) 14000 0 (.int 0) rfl (fun _ => rfl) rfl (by decide) m_3_14 (by omega) ⟨by show _ * 4 ≤ _; omega, by omega⟩ (by omega) (by omega) (fun _ _ h9 => h9) (fun S9 k9 => by rw [sl_14000]; exact ⟨0, rfl, by decide, by decide⟩) kd39_4.2.2.1 (fun b20 S21 g22 zb20 nb20 hSb20 hg22 qb20 hs_b20 => ?_)
  refine X_putF hK fl_X10_34_5011 (fun T9 N9 C9 h9 => by cases (Option.some.inj (h9.symm.trans (rfl : vwCl[11]? = some (RX10, TX10, 8)))); rfl) (hini rfl) (qb20 _ _ (qb16 _ _ (qb12 _ _ (qb8 _ _ (qb4 _ _ hs_a0))))) (Or.inr (by decide)) (xokr 11 7 (by decide)) rfl rfl kd39_4.2.2.2.1 (fun g23 hg23 => ?_)
  exact hret _ _ _ _ _ _ kd39_4.2.2.2.2.1 ⟨(xNw2.tr (xNw2.tr (xNw2.tr (xNw2.tr (xNw2.tr xNw2.rf (hSb4 ▸ xNw2.set (by decide)) (fun _ h => h)) (hSb8 ▸ xNw2.set (by decide)) (fun _ h => h)) (hSb12 ▸ xNw2.set (by decide)) (fun _ h => h)) (hSb16 ▸ xNw2.set (by decide)) (fun _ h => h)) (hSb20 ▸ xNw2.set (by decide)) (fun _ h => h)), rfl, (fun k9 => match k9 with | 0 => xk0 sl_11_0 ((xs_k hg23 (by decide)).trans ((xs_n hg22 (qb16 _ _ (qb12 _ _ (qb8 _ _ (qb4 _ _ hs_a0)))) nb20).trans ((xs_k hg19 (by decide)).trans ((xs_n hg18 (qb12 _ _ (qb8 _ _ (qb4 _ _ hs_a0))) nb16).trans ((xs_k hg15 (by decide)).trans ((xs_n hg14 (qb8 _ _ (qb4 _ _ hs_a0)) nb12).trans ((xs_k hg11 (by decide)).trans ((xs_n hg10 (qb4 _ _ hs_a0) nb8).trans ((xs_k hg7 (by decide)).trans ((xs_n hg6 hs_a0 nb4).trans ((xs_k hg3 (by decide)).trans ((xs_k hg2 (by decide)).trans (xs_s hg1))))))))))))) (by omega) (by omega) | 1 => xk0 sl_11_1 ((xs_k hg23 (by decide)).trans ((xs_n hg22 (qb16 _ _ (qb12 _ _ (qb8 _ _ (qb4 _ _ hs_a0)))) nb20).trans ((xs_k hg19 (by decide)).trans ((xs_n hg18 (qb12 _ _ (qb8 _ _ (qb4 _ _ hs_a0))) nb16).trans ((xs_k hg15 (by decide)).trans ((xs_n hg14 (qb8 _ _ (qb4 _ _ hs_a0)) nb12).trans ((xs_k hg11 (by decide)).trans ((xs_n hg10 (qb4 _ _ hs_a0) nb8).trans ((xs_k hg7 (by decide)).trans ((xs_n hg6 hs_a0 nb4).trans ((xs_k hg3 (by decide)).trans (xs_s hg2)))))))))))) (by omega) (by omega) | 2 => xk0 sl_11_2 ((xs_k hg23 (by decide)).trans ((xs_n hg22 (qb16 _ _ (qb12 _ _ (qb8 _ _ (qb4 _ _ hs_a0)))) nb20).trans ((xs_k hg19 (by decide)).trans ((xs_n hg18 (qb12 _ _ (qb8 _ _ (qb4 _ _ hs_a0))) nb16).trans ((xs_k hg15 (by decide)).trans ((xs_n hg14 (qb8 _ _ (qb4 _ _ hs_a0)) nb12).trans ((xs_k hg11 (by decide)).trans ((xs_n hg10 (qb4 _ _ hs_a0) nb8).trans ((xs_k hg7 (by decide)).trans ((xs_n hg6 hs_a0 nb4).trans (xs_s hg3))))))))))) (by omega) (by omega) | 3 => xk1 13600 16 sl_11_3 ((xs_k hg23 (by decide)).trans ((xs_n hg22 (qb16 _ _ (qb12 _ _ (qb8 _ _ (qb4 _ _ hs_a0)))) nb20).trans ((xs_k hg19 (by decide)).trans ((xs_n hg18 (qb12 _ _ (qb8 _ _ (qb4 _ _ hs_a0))) nb16).trans ((xs_k hg15 (by decide)).trans ((xs_n hg14 (qb8 _ _ (qb4 _ _ hs_a0)) nb12).trans ((xs_k hg11 (by decide)).trans ((xs_n hg10 (qb4 _ _ hs_a0) nb8).trans (xs_s hg7))))))))) (qb20 _ _ (qb16 _ _ (qb12 _ _ (qb8 _ _ hs_b4)))) | 4 => xk1 13700 16 sl_11_4 ((xs_k hg23 (by decide)).trans ((xs_n hg22 (qb16 _ _ (qb12 _ _ (qb8 _ _ (qb4 _ _ hs_a0)))) nb20).trans ((xs_k hg19 (by decide)).trans ((xs_n hg18 (qb12 _ _ (qb8 _ _ (qb4 _ _ hs_a0))) nb16).trans ((xs_k hg15 (by decide)).trans ((xs_n hg14 (qb8 _ _ (qb4 _ _ hs_a0)) nb12).trans (xs_s hg11))))))) (qb20 _ _ (qb16 _ _ (qb12 _ _ hs_b8))) | 5 => xk1 13800 16 sl_11_5 ((xs_k hg23 (by decide)).trans ((xs_n hg22 (qb16 _ _ (qb12 _ _ (qb8 _ _ (qb4 _ _ hs_a0)))) nb20).trans ((xs_k hg19 (by decide)).trans ((xs_n hg18 (qb12 _ _ (qb8 _ _ (qb4 _ _ hs_a0))) nb16).trans (xs_s hg15))))) (qb20 _ _ (qb16 _ _ hs_b12)) | 6 => xk1 13900 16 sl_11_6 ((xs_k hg23 (by decide)).trans ((xs_n hg22 (qb16 _ _ (qb12 _ _ (qb8 _ _ (qb4 _ _ hs_a0)))) nb20).trans (xs_s hg19))) (qb20 _ _ hs_b16) | 7 => xk1 14000 100 sl_11_7 (xs_s hg23) hs_b20 | n9 + 8 => xk9 (by rfl)), (by omega)⟩ (by omega) (by omega)

set_option maxHeartbeats 4000000 in
set_option maxRecDepth 100000 in
theorem c_X11_boy (l : Launch) (D : va_G) (kA : Nat → ClassId) (b0 : Nat) (t0 : Nat → Nat) (S : xT) (g : xG) (a0 : Nat) (x1 : Int) (x2 : Int) (x3 : Int) (x4 : Int) (m0 : Nat) (l0 : Nat) (n0 : Int) (hs_a0 : S a0 = some (12, 0)) (hx1 : (-2147483648) ≤ x1 ∧ x1 ≤ 2147483647) (hx2 : 0 ≤ x2 ∧ x2 ≤ 1) (hx3 : (-2147483648) ≤ x3 ∧ x3 ≤ 2147483647) (hx4 : (-2147483648) ≤ x4 ∧ x4 ≤ 2147483647) (em0 : g a0 1 = .ref m0) (hs_m0 : S m0 = some (6, 0)) (el0 : g m0 1 = .ref l0) (hs_l0 : S l0 = some (0, 0)) (hn0 : 0 ≤ n0 ∧ n0 ≤ 40) (en0 : g l0 2 = .int (iI n0)) (hp0 : xLs S g) (hp1 : xSi S t0) : xMu l yX11_boy cX11_boy 6 (some .int) 7 2 250 164 D kA b0 t0 [(5001, 5), (5001, 0), (5001, 1), (5001, 2), (5001, 4), (5001, 3), (0, 0), (0, 1), (0, 2), (10103, 0)] [.ref a0, .int (iI x1), .int (iI x2), .int (iI x3), .int (iI x4)] S g (fun (r : Option Value) (S1 : xT) (g1 : xG) (dc ds : Nat) => xNw2 S S1 [5001, 1, 10103] ∧ ∃ z : Int, r = some (.int (iI z)) ∧ (-1) ≤ z ∧ z ≤ 40 ∧ (xLs S1 g1) ∧ (xSi S1 t0) ∧ (dc ≤ 2 ∧ ds ≤ 250) ∧ (z = if n0 < 40 ∧ 6 ≤ x1 ∧ x1 ≤ 18 ∧ -1 ≤ x3 ∧ x3 ≤ 399 ∧ 0 ≤ x4 ∧ x4 ≤ 99 then n0 else -1) ∧ (g1 l0 2 = .int (iI (if n0 < 40 ∧ 6 ≤ x1 ∧ x1 ≤ 18 ∧ -1 ≤ x3 ∧ x3 ≤ 399 ∧ 0 ≤ x4 ∧ x4 ≤ 99 then n0 + 1 else n0)))) := by
  refine xEnterUI (by decide) (by simp [lg_sl, Value.category]) [(0, .ref a0), (1, .int (iI x1)), (2, .int (iI x2)), (3, .int (iI x3)), (4, .int (iI x4))] rfl ?_
  intro K E hK hret hS0 _ hini ht
  subst ht
  refine X_aloadn hK (i := 0) 0 kd39_4.2.2.2.2.2.1 rfl rfl ?_
  refine X_getK hK fl_X11_19_12 hs_a0 em0 kd39_4.2.2.2.2.2.2.1 ?_
  refine X_getK hK fl_X11_109_6 hs_m0 el0 kd39_4.2.2.2.2.2.2.2.1 ?_
  refine X_callV hK [] [] lk_X11_112 (c_size_0 _ _ _ _ _ S g l0 n0 hs_l0 (by omega) en0 hp0) hs_l0 ⟨by decide, rfl⟩ kd39_4.2.2.2.2.2.2.2.2.1 rfl rfl (by simp [Value.category]) (by decide) (by omega) (by omega) (by decide) (fun r1 S3 g2 pr1 qr1 hg2 => ?_)
  obtain ⟨rfl, rfl, z4, rfl, lz4, uz4, k5⟩ := pr1
  refine X_st [.int (iI z4)] rfl ?_
  refine X_bipush hK kd39_4.2.2.2.2.2.2.2.2.2.1 (by decide) ?_
  refine X_icmp_ge hK 44 (by omega) (by omega) kd39_4.2.2.2.2.2.2.2.2.2.2.1 (by decide) (fun c6 => ?_) (fun c6 => ?_)
  · refine X_iconst hK kd39_6.1 ?_
    exact hret _ _ _ _ _ _ _ kd39_6.2.1 ⟨xNw2.rf, (-1), rfl, (by omega), (by omega), hp0, hp1, (by omega), (by omega), (en0.trans (by congr 2 <;> omega))⟩ (by omega) (by omega)
  · refine X_iloadn hK (i := 1) 1 kd39_4.2.2.2.2.2.2.2.2.2.2.2 rfl rfl ?_
    refine X_bipush hK kd39_5.1 (by decide) ?_
    refine X_bipush hK kd39_5.2.1 (by decide) ?_
    refine X_callS hK [.int (iI x1), .int (iI 6), .int (iI 18)] [] lk_X11_115 (c_X11_within _ _ _ _ _ S g x1 6 18 (by omega) (by omega) (by omega)) kd39_5.2.2.1 rfl rfl (by simp [Value.category]) (by decide) (by omega) (by omega) (by decide) (fun r7 S9 g8 pr7 qr7 hg8 => ?_)
    obtain ⟨rfl, rfl, z10, rfl, lz10, uz10, k11⟩ := pr7
    refine X_st [.int (iI z10)] rfl ?_
    refine X_if_eq hK 44 (by omega) kd39_5.2.2.2.1 (by decide) (fun c12 => ?_) (fun c12 => ?_)
    · refine X_iconst hK kd39_6.1 ?_
      exact hret _ _ _ _ _ _ _ kd39_6.2.1 ⟨xNw2.rf, (-1), rfl, (by omega), (by omega), hp0, hp1, (by omega), (by omega), (en0.trans (by congr 2 <;> omega))⟩ (by omega) (by omega)
    · refine X_iloadn hK (i := 3) 3 kd39_5.2.2.2.2.1 rfl rfl ?_
      refine X_callS hK [.int (iI x3)] [] lk_X11_119 (c_X11_isBadge _ _ _ _ _ S g x3 (by omega)) kd39_5.2.2.2.2.2.1 rfl rfl (by simp [Value.category]) (by decide) (by omega) (by omega) (by decide) (fun r13 S15 g14 pr13 qr13 hg14 => ?_)
      obtain ⟨rfl, rfl, z16, rfl, lz16, uz16, k17⟩ := pr13
      refine X_st [.int (iI z16)] rfl ?_
      refine X_if_eq hK 44 (by omega) kd39_5.2.2.2.2.2.2.1 (by decide) (fun c18 => ?_) (fun c18 => ?_)
      · refine X_iconst hK kd39_6.1 ?_
        exact hret _ _ _ _ _ _ _ kd39_6.2.1 ⟨xNw2.rf, (-1), rfl, (by omega), (by omega), hp0, hp1, (by omega), (by omega), (en0.trans (by congr 2 <;> omega))⟩ (by omega) (by omega)
      · refine X_iload hK (i := 4) 4 kd39_5.2.2.2.2.2.2.2.1 rfl ?_
        refine X_iconst hK kd39_5.2.2.2.2.2.2.2.2.1 ?_
        refine X_bipush hK kd39_5.2.2.2.2.2.2.2.2.2.1 (by decide) ?_
        refine X_callS hK [.int (iI x4), .int (iI 0), .int (iI 99)] [] lk_X11_115 (c_X11_within _ _ _ _ _ S g x4 0 99 (by omega) (by omega) (by omega)) kd39_5.2.2.2.2.2.2.2.2.2.2.1 rfl rfl (by simp [Value.category]) (by decide) (by omega) (by omega) (by decide) (fun r19 S21 g20 pr19 qr19 hg20 => ?_)
        obtain ⟨rfl, rfl, z22, rfl, lz22, uz22, k23⟩ := pr19
        refine X_st [.int (iI z22)] rfl ?_
        refine X_if_ne hK 46 (by omega) kd39_5.2.2.2.2.2.2.2.2.2.2.2 (by decide) (fun c24 => ?_) (fun c24 => ?_)
        · refine X_aloadn hK (i := 0) 0 kd39_6.2.2.1 rfl rfl ?_
          refine X_getK hK fl_X11_19_12 hs_a0 em0 kd39_6.2.2.2.1 ?_
          refine X_getK hK fl_X11_109_6 hs_m0 el0 kd39_6.2.2.2.2.1 ?_
          refine X_callV hK [] [] lk_X11_112 (c_size_0 _ _ _ _ _ S g l0 n0 hs_l0 (by omega) en0 hp0) hs_l0 ⟨by decide, rfl⟩ kd39_6.2.2.2.2.2.1 rfl rfl (by simp [Value.category]) (by decide) (by omega) (by omega) (by decide) (fun r25 S27 g26 pr25 qr25 hg26 => ?_)
          obtain ⟨rfl, rfl, z28, rfl, lz28, uz28, k29⟩ := pr25
          refine X_st [.int (iI z28)] rfl ?_
          refine X_istore hK (i := 5) [(5, .int (iI z28)), (0, .ref a0), (1, .int (iI x1)), (2, .int (iI x2)), (3, .int (iI x3)), (4, .int (iI x4))] kd39_6.2.2.2.2.2.2.1 (by decide) rfl ?_
          refine X_aloadn hK (i := 0) 1 kd39_6.2.2.2.2.2.2.2.1 rfl rfl ?_
          refine X_getK hK fl_X11_19_12 hs_a0 em0 kd39_6.2.2.2.2.2.2.2.2.1 ?_
          refine X_getK hK fl_X11_109_6 hs_m0 el0 kd39_6.2.2.2.2.2.2.2.2.2.1 ?_
          refine X_new hK nw_X11_123 (by omega) (by omega) kd39_6.2.2.2.2.2.2.2.2.2.2.1 (fun b30 S31 g32 zb30 nb30 hSb30 hg32 qb30 hs_b30 => ?_)
          have A33 : xLs S31 g32 := xLs_al hp0 (hg32 ▸ xM_new (L := []) xM.rf nb30) rfl qb30 (xNw2.one hSb30) (by decide)
          refine X_dup hK kd39_6.2.2.2.2.2.2.2.2.2.2.2 rfl ?_
          refine X_iload hK (i := 5) 0 kd39_7.1 rfl ?_
          refine X_iloadn hK (i := 1) 2 kd39_7.2.1 rfl rfl ?_
          refine X_iloadn hK (i := 2) 3 kd39_7.2.2.1 rfl rfl ?_
          refine X_iloadn hK (i := 3) 4 kd39_7.2.2.2.1 rfl rfl ?_
          refine X_iload hK (i := 4) 5 kd39_7.2.2.2.2.1 rfl ?_
          refine X_callIU hK [.int (iI z28), .int (iI x1), .int (iI x2), .int (iI x3), .int (iI x4)] [.ref b30, .ref l0] li_X11_125 (c_X0_init _ _ _ _ _ S31 g32 b30 z28 x1 x2 x3 x4 hs_b30 (by omega) (by omega) (by omega) (by omega) (by omega)) kd39_7.2.2.2.2.2.1 rfl rfl (by simp [Value.category]) (by decide) (by omega) (by omega) (by decide) (fun r34 S36 g35 dcr34 dsr34 pr34 qr34 hg35 => ?_)
          obtain ⟨wr34, rfl, k37, k38⟩ := pr34
          have A39 : xLs S36 g35 := xLs_al A33 hg35 (by decide) qr34 wr34 (by decide)
          refine X_st [.ref b30, .ref l0] rfl ?_
          refine X_seal (ci := 1) zb30 (qr34 _ _ hs_b30) (by decide) k37 (fun a9 t9 n9 k9 _ _ _ c9 h9 => Or.inr (h9 ▸ xsl_raw t9 k9 (by omega))) (fun k9 => xsl_raw _ k9 (by omega)) (fun S40 hSy41 hs_y41 hoy41 => ?_)
          refine X_callVU hK [.ref b30] [] lk_X11_128 (c_addW_0 _ _ _ _ _ S40 g35 l0 b30 n0 (xhs_seal hoy41 (qr34 _ _ hs_b30) (qr34 _ _ (qb30 _ _ hs_l0)) (by decide)) hs_y41 (by omega) ((hg35 l0 0 0 2 (qb30 _ _ hs_l0) (by decide)).trans ((xs_n hg32 hs_l0 nb30).trans en0)) (xLs_seal A39 (qr34 _ _ hs_b30) hSy41 (by decide) (by decide)) (xSi.nw (xSi.nw (xSi.nw hp1 (xNw2.one hSb30) (by decide)) wr34 (by decide)) (xNw2.one hSy41) (by decide))) (xhs_seal hoy41 (qr34 _ _ hs_b30) (qr34 _ _ (qb30 _ _ hs_l0)) (by decide)) ⟨by decide, rfl⟩ kd39_7.2.2.2.2.2.2.1 rfl rfl (by simp [Value.category]) (by decide) (by omega) (by omega) (by decide) (fun r42 S44 g43 dcr42 dsr42 pr42 qr42 hg43 => ?_)
          obtain ⟨wr42, z45, rfl, lz45, uz45, k46, k47, k48⟩ := pr42
          refine X_st [.int (iI z45)] rfl ?_
          refine X_pop hK kd39_7.2.2.2.2.2.2.2.1 rfl ?_
          refine X_iload hK (i := 5) 0 kd39_7.2.2.2.2.2.2.2.2.1 rfl ?_
          exact hret _ _ _ _ _ _ _ kd39_7.2.2.2.2.2.2.2.2.2.1 ⟨(xNw2.tr (xNw2.tr (xNw2.tr (xNw2.tr xNw2.rf (hSb30 ▸ xNw2.set (by decide)) (fun _ h => h)) wr34 (by decide)) (hSy41 ▸ xNw2.set (by decide)) (fun _ h => h)) wr42 (by decide)), z28, rfl, (by omega), (by omega), k46, (xSi.nw (xSi.nw (xSi.nw (xSi.nw hp1 (xNw2.one hSb30) (by decide)) wr34 (by decide)) (xNw2.one hSy41) (by decide)) wr42 (by decide)), (by omega), (by omega), (k47.trans (by congr 2 <;> omega))⟩ (by omega) (by omega)
        · refine X_iconst hK kd39_6.1 ?_
          exact hret _ _ _ _ _ _ _ kd39_6.2.1 ⟨xNw2.rf, (-1), rfl, (by omega), (by omega), hp0, hp1, (by omega), (by omega), (en0.trans (by congr 2 <;> omega))⟩ (by omega) (by omega)

set_option maxHeartbeats 4000000 in
set_option maxRecDepth 100000 in
theorem c_X5_buy (l : Launch) (D : va_G) (kA : Nat → ClassId) (b0 : Nat) (t0 : Nat → Nat) (S : xT) (g : xG) (a0 : Nat) (a1 : Nat) (a2 : Nat) (w0 : Nat) (n0 : Int) (hs_a0 : S a0 = some (6, 0)) (hs_a1 : S a1 = some (2, 0)) (hs_a2 : S a2 = some (11, 0)) (ew0 : g a0 2 = .ref w0) (hs_w0 : S w0 = some (100, 0)) (hn0 : 0 ≤ n0 ∧ n0 ≤ 199) (en0 : g w0 2 = .int (iI n0)) (hp0 : xLs S g) (hp1 : xSi S t0) : xMu l yX5_buy cX5_buy 5 (some .boolean) 7 1 244 164 D kA b0 t0 [(12000, 0), (2, 7), (1, 5), (100, 0), (100, 1), (100, 2), (10203, 0)] [.ref a0, .ref a1, .ref a2] S g (fun (r : Option Value) (S1 : xT) (g1 : xG) (dc ds : Nat) => xNw2 S S1 [10203] ∧ ∃ z : Int, r = some (.int (iI z)) ∧ 0 ≤ z ∧ z ≤ 1 ∧ (xLs S1 g1) ∧ (xSi S1 t0) ∧ (dc ≤ 1 ∧ ds ≤ 244)) := by
  refine xEnterUZ (by decide) (by simp [lg_sl, Value.category]) [(0, .ref a0), (1, .ref a1), (2, .ref a2)] rfl ?_
  intro K E hK hret hS0 _ hini ht
  subst ht
  refine X_aloadn hK (i := 0) 0 kd39_22.1 rfl rfl ?_
  refine X_aloadn hK (i := 1) 1 kd39_22.2.1 rfl rfl ?_
  refine X_callV hK [.ref a1] [] lk_X5_92 (c_X5_learn _ _ _ _ _ S g a0 a1 hs_a0 hs_a1) hs_a0 ⟨by decide, rfl⟩ kd39_22.2.2.1 rfl rfl (by simp [Value.category]) (by decide) (by omega) (by omega) (by decide) (fun r1 S3 g2 pr1 qr1 hg2 => ?_)
  obtain ⟨rfl, rfl⟩ := pr1
  refine X_st [] rfl ?_
  refine X_aloadn hK (i := 1) 1 kd39_22.2.2.2.1 rfl rfl ?_
  refine X_geti hK fl_X5_83_2 hs_a1 sl_2_3 kd39_22.2.2.2.2.1 (fun z4 ez4 lz4 uz4 => ?_)
  refine X_aloadn hK (i := 2) 2 kd39_22.2.2.2.2.2.1 rfl rfl ?_
  refine X_iconst hK kd39_22.2.2.2.2.2.2.1 ?_
  refine X_aloadn hK (i := 0) 0 kd39_22.2.2.2.2.2.2.2.1 rfl rfl ?_
  refine X_getr hK 12000 12 fl_X5_31_6 hs_a0 sl_6_4 kd39_22.2.2.2.2.2.2.2.2.1 (fun b5 eb5 hs_b5 => ?_)
  refine X_callV hK [.int (iI 0), .ref b5] [.int (iI z4)] lk_X5_96 (c_X10_tells _ _ _ _ _ S g2 a2 0 b5 hs_a2 (by omega) hs_b5) hs_a2 ⟨by decide, rfl⟩ kd39_22.2.2.2.2.2.2.2.2.2.1 rfl rfl (by simp [Value.category]) (by decide) (by omega) (by omega) (by decide) (fun r6 S8 g7 pr6 qr6 hg7 => ?_)
  obtain ⟨rfl, rfl, z9, rfl, lz9, uz9⟩ := pr6
  refine X_st [.int (iI z9), .int (iI z4)] rfl ?_
  refine X_callN hK [.int (iI z4), .int (iI z9)] [] lk_X5_102 (c_X11_costOf _ _ _ _ _ S g2 z4 z9 (by omega) (by omega)) kd39_22.2.2.2.2.2.2.2.2.2.2.1 rfl rfl (by simp [Value.category]) (by decide) (by omega) (by omega) (by decide) (fun r10 S12 g11 pr10 qr10 hg11 => ?_)
  obtain ⟨rfl, rfl, z13, rfl, lz13, uz13⟩ := pr10
  refine X_st [.int (iI z13)] rfl ?_
  refine X_istoren hK (i := 3) [(3, .int (iI z13)), (0, .ref a0), (1, .ref a1), (2, .ref a2)] kd39_22.2.2.2.2.2.2.2.2.2.2.2 rfl (by decide) rfl ?_
  refine X_aloadn hK (i := 1) 2 kd39_23.1 rfl rfl ?_
  refine X_getr hK 1 0 fl_X5_49_2 hs_a1 sl_2_0 kd39_23.2.1 (fun b14 eb14 hs_b14 => ?_)
  refine X_geti hK fl_X5_106_1 hs_b14 sl_1_5 kd39_23.2.2.1 (fun z15 ez15 lz15 uz15 => ?_)
  refine X_iloadn hK (i := 3) 0 kd39_23.2.2.2.1 rfl rfl ?_
  refine X_isub hK kd39_23.2.2.2.2.1 ?_
  refine X_norm (fun z16 ez16 lz16 uz16 => ?_)
  refine X_istore hK (i := 4) [(4, .int (iI z16)), (3, .int (iI z13)), (0, .ref a0), (1, .ref a1), (2, .ref a2)] kd39_23.2.2.2.2.2.1 (by decide) rfl ?_
  refine X_aloadn hK (i := 1) 3 kd39_23.2.2.2.2.2.2.1 rfl rfl ?_
  refine X_getK hK fl_X5_83_2 hs_a1 ez4 kd39_23.2.2.2.2.2.2.2.1 ?_
  refine X_aloadn hK (i := 2) 4 kd39_23.2.2.2.2.2.2.2.2.1 rfl rfl ?_
  refine X_iconst hK kd39_23.2.2.2.2.2.2.2.2.2.1 ?_
  refine X_aloadn hK (i := 0) 2 kd39_23.2.2.2.2.2.2.2.2.2.2.1 rfl rfl ?_
  refine X_getK hK fl_X5_31_6 hs_a0 eb5 kd39_23.2.2.2.2.2.2.2.2.2.2.2 ?_
  refine X_callV hK [.int (iI 3), .ref b5] [.int (iI z4)] lk_X5_96 (c_X10_tells _ _ _ _ _ S g2 a2 3 b5 hs_a2 (by omega) hs_b5) hs_a2 ⟨by decide, rfl⟩ kd39_24.1 rfl rfl (by simp [Value.category]) (by decide) (by omega) (by omega) (by decide) (fun r17 S19 g18 pr17 qr17 hg18 => ?_)
  obtain ⟨rfl, rfl, z20, rfl, lz20, uz20⟩ := pr17
  refine X_st [.int (iI z20), .int (iI z4)] rfl ?_
  refine X_icmp_gt hK 64 (by omega) (by omega) kd39_24.2.1 (by decide) (fun c21 => ?_) (fun c21 => ?_)
  · refine X_iconst hK kd39_24.2.2.2.2.2.2.2.2.2.2.1 ?_
    exact hret _ _ _ _ _ _ _ kd39_24.2.2.2.2.2.2.2.2.2.2.2 (by omega) (by omega) ⟨xNw2.rf, 0, rfl, (by omega), (by omega), (xLs_mod hp0 hg2 (by decide)), hp1, (by omega)⟩ (by omega) (by omega)
  · refine X_iload hK (i := 4) 0 kd39_24.2.2.1 rfl ?_
    refine X_aloadn hK (i := 2) 4 kd39_24.2.2.2.1 rfl rfl ?_
    refine X_iconst hK kd39_24.2.2.2.2.1 ?_
    refine X_aloadn hK (i := 0) 2 kd39_24.2.2.2.2.2.1 rfl rfl ?_
    refine X_getK hK fl_X5_31_6 hs_a0 eb5 kd39_24.2.2.2.2.2.2.1 ?_
    refine X_callV hK [.int (iI 5), .ref b5] [.int (iI z16)] lk_X5_96 (c_X10_tells _ _ _ _ _ S g2 a2 5 b5 hs_a2 (by omega) hs_b5) hs_a2 ⟨by decide, rfl⟩ kd39_24.2.2.2.2.2.2.2.1 rfl rfl (by simp [Value.category]) (by decide) (by omega) (by omega) (by decide) (fun r22 S24 g23 pr22 qr22 hg23 => ?_)
    obtain ⟨rfl, rfl, z25, rfl, lz25, uz25⟩ := pr22
    refine X_st [.int (iI z25), .int (iI z16)] rfl ?_
    refine X_ineg hK kd39_24.2.2.2.2.2.2.2.2.1 ?_
    refine X_norm (fun z26 ez26 lz26 uz26 => ?_)
    refine X_icmp_ge hK 66 (by omega) (by omega) kd39_24.2.2.2.2.2.2.2.2.2.1 (by decide) (fun c27 => ?_) (fun c27 => ?_)
    · refine X_aloadn hK (i := 1) 3 kd39_25.1 rfl rfl ?_
      refine X_iloadn hK (i := 3) 1 kd39_25.2.1 rfl rfl ?_
      refine X_puti hK fl_X5_109_2 hs_a1 (by decide) sl_2_7 (by omega) (by omega) kd39_25.2.2.1 (fun g28 hg28 => ?_)
      refine X_aloadn hK (i := 1) 3 kd39_25.2.2.2.1 rfl rfl ?_
      refine X_getK hK fl_X5_49_2 hs_a1 ((xs_k hg28 (by decide)).trans eb14) kd39_25.2.2.2.2.1 ?_
      refine X_iload hK (i := 4) 0 kd39_25.2.2.2.2.2.1 rfl ?_
      refine X_puti hK fl_X5_106_1 hs_b14 (by decide) sl_1_5 (by omega) (by omega) kd39_25.2.2.2.2.2.2.1 (fun g29 hg29 => ?_)
      refine X_aloadn hK (i := 0) 2 kd39_25.2.2.2.2.2.2.2.1 rfl rfl ?_
      refine X_getK hK fl_X5_25_6 hs_a0 ((xs_k hg29 (by decide)).trans ((xs_k hg28 (by decide)).trans ((hg2 a0 6 0 2 hs_a0 (by decide)).trans ew0))) kd39_25.2.2.2.2.2.2.2.2.1 ?_
      refine X_aloadn hK (i := 1) 3 kd39_25.2.2.2.2.2.2.2.2.2.1 rfl rfl ?_
      refine X_callVU hK [.ref a1] [] lk_X5_112 (c_addW_100 _ _ _ _ _ S g29 w0 a1 n0 hs_w0 hs_a1 (by omega) ((xs_k hg29 (by decide)).trans ((xs_k hg28 (by decide)).trans ((hg2 w0 100 0 2 hs_w0 (by decide)).trans en0))) (xLs_up (xLs_up (xLs_mod hp0 hg2 (by decide)) hg28 hs_a1 (by decide)) hg29 hs_b14 (by decide)) hp1) hs_w0 ⟨by decide, rfl⟩ kd39_25.2.2.2.2.2.2.2.2.2.2.1 rfl rfl (by simp [Value.category]) (by decide) (by omega) (by omega) (by decide) (fun r30 S32 g31 dcr30 dsr30 pr30 qr30 hg31 => ?_)
      obtain ⟨wr30, z33, rfl, lz33, uz33, k34, k35, k36⟩ := pr30
      refine X_st [.int (iI z33)] rfl ?_
      refine X_pop hK kd39_25.2.2.2.2.2.2.2.2.2.2.2 rfl ?_
      refine X_iconst hK kd39_26.1 ?_
      exact hret _ _ _ _ _ _ _ kd39_26.2 (by omega) (by omega) ⟨(xNw2.tr xNw2.rf wr30 (by decide)), 1, rfl, (by omega), (by omega), k34, (xSi.nw hp1 wr30 (by decide)), (by omega)⟩ (by omega) (by omega)
    · refine X_iconst hK kd39_24.2.2.2.2.2.2.2.2.2.2.1 ?_
      exact hret _ _ _ _ _ _ _ kd39_24.2.2.2.2.2.2.2.2.2.2.2 (by omega) (by omega) ⟨xNw2.rf, 0, rfl, (by omega), (by omega), (xLs_mod hp0 hg2 (by decide)), hp1, (by omega)⟩ (by omega) (by omega)

set_option maxHeartbeats 4000000 in
set_option maxRecDepth 100000 in
theorem c_X11_bundle (l : Launch) (D : va_G) (kA : Nat → ClassId) (b0 : Nat) (t0 : Nat → Nat) (S : xT) (g : xG) (a0 : Nat) (x1 : Int) (x2 : Int) (x3 : Int) (x4 : Int) (x5 : Int) (hs_a0 : S a0 = some (12, 0)) (hx1 : (-2147483648) ≤ x1 ∧ x1 ≤ 2147483647) (hx2 : (-2147483648) ≤ x2 ∧ x2 ≤ 2147483647) (hx3 : (-2147483648) ≤ x3 ∧ x3 ≤ 2147483647) (hx4 : (-2147483648) ≤ x4 ∧ x4 ≤ 2147483647) (hx5 : (-2147483648) ≤ x5 ∧ x5 ≤ 2147483647) (hp0 : xLs S g) (hp1 : xSi S t0) : xMu l yX11_bundle cX11_bundle 7 (some .int) 8 2 255 188 D kA b0 t0 [(5002, 7), (5002, 8), (5002, 9), (5002, 10), (5002, 0), (5002, 1), (5002, 2), (5002, 3), (5002, 4), (5002, 5), (5002, 6), (12000, 0), (2, 7), (1, 5), (100, 0), (100, 1), (100, 2), (10203, 0)] [.ref a0, .int (iI x1), .int (iI x2), .int (iI x3), .int (iI x4), .int (iI x5)] S g (fun (r : Option Value) (S1 : xT) (g1 : xG) (dc ds : Nat) => xNw2 S S1 [5002, 2, 10203] ∧ ∃ z : Int, r = some (.int (iI z)) ∧ (-1) ≤ z ∧ z ≤ 199 ∧ (xLs S1 g1) ∧ (xSi S1 t0) ∧ (dc ≤ 2 ∧ ds ≤ 255)) := by
  refine xEnterUI (by decide) (by simp [lg_sl, Value.category]) [(0, .ref a0), (1, .int (iI x1)), (2, .int (iI x2)), (3, .int (iI x3)), (4, .int (iI x4)), (5, .int (iI x5))] rfl ?_
  intro K E hK hret hS0 _ hini ht
  subst ht
  refine X_aloadn hK (i := 0) 0 kd39_7.2.2.2.2.2.2.2.2.2.2.1 rfl rfl ?_
  refine X_geti hK fl_X11_83_12 hs_a0 sl_12_12 kd39_7.2.2.2.2.2.2.2.2.2.2.2 (fun z1 ez1 lz1 uz1 => ?_)
  refine X_sipush hK kd39_8.1 (by decide) ?_
  refine X_icmp_ge hK 74 (by omega) (by omega) kd39_8.2.1 (by decide) (fun c2 => ?_) (fun c2 => ?_)
  · refine X_iconst hK kd39_10.2.2.2.2.2.1 ?_
    exact hret _ _ _ _ _ _ _ kd39_10.2.2.2.2.2.2.1 ⟨xNw2.rf, (-1), rfl, (by omega), (by omega), hp0, hp1, (by omega)⟩ (by omega) (by omega)
  · refine X_aloadn hK (i := 0) 0 kd39_8.2.2.1 rfl rfl ?_
    refine X_getr hK 6 0 fl_X11_19_12 hs_a0 sl_12_1 kd39_8.2.2.2.1 (fun b3 eb3 hs_b3 => ?_)
    refine X_getr hK 100 0 fl_X11_205_6 hs_b3 sl_6_2 kd39_8.2.2.2.2.1 (fun b4 eb4 hs_b4 => ?_)
    refine X_know hs_b4 (by decide) sl_100_2 (fun z5 ez5 lz5 uz5 => ?_)
    refine X_callV hK [] [] lk_X11_112 (c_size_100 _ _ _ _ _ S g b4 z5 hs_b4 (by omega) ez5 hp0) hs_b4 ⟨by decide, rfl⟩ kd39_8.2.2.2.2.2.1 rfl rfl (by simp [Value.category]) (by decide) (by omega) (by omega) (by decide) (fun r6 S8 g7 pr6 qr6 hg7 => ?_)
    obtain ⟨rfl, rfl, z9, rfl, lz9, uz9, k10⟩ := pr6
    refine X_st [.int (iI z9)] rfl ?_
    refine X_sipush hK kd39_8.2.2.2.2.2.2.1 (by decide) ?_
    refine X_icmp_ge hK 74 (by omega) (by omega) kd39_8.2.2.2.2.2.2.2.1 (by decide) (fun c11 => ?_) (fun c11 => ?_)
    · refine X_iconst hK kd39_10.2.2.2.2.2.1 ?_
      exact hret _ _ _ _ _ _ _ kd39_10.2.2.2.2.2.2.1 ⟨xNw2.rf, (-1), rfl, (by omega), (by omega), hp0, hp1, (by omega)⟩ (by omega) (by omega)
    · refine X_aloadn hK (i := 0) 0 kd39_8.2.2.2.2.2.2.2.2.1 rfl rfl ?_
      refine X_getK hK fl_X11_19_12 hs_a0 eb3 kd39_8.2.2.2.2.2.2.2.2.2.1 ?_
      refine X_iloadn hK (i := 1) 1 kd39_8.2.2.2.2.2.2.2.2.2.2.1 rfl rfl ?_
      refine X_knowr 0 0 hs_b3 (by decide) sl_6_1 (fun b12 eb12 hs_b12 => ?_)
      refine X_callV hK [.int (iI x1)] [] lk_X11_132 (c2_hasBoy _ _ _ _ _ S g b3 x1 b12 hs_b3 (by omega) eb12 hs_b12 hp0) hs_b3 ⟨by decide, rfl⟩ kd39_8.2.2.2.2.2.2.2.2.2.2.2 rfl rfl (by simp [Value.category]) (by decide) (by omega) (by omega) (by decide) (fun r13 S15 g14 pr13 qr13 hg14 => ?_)
      obtain ⟨rfl, rfl, z16, rfl, lz16, uz16, k17⟩ := pr13
      refine X_st [.int (iI z16)] rfl ?_
      obtain ⟨z18, ez18, lz18, uz18, kz18⟩ := k17
      refine X_if_eq hK 74 (by omega) kd39_9.1 (by decide) (fun c19 => ?_) (fun c19 => ?_)
      · refine X_iconst hK kd39_10.2.2.2.2.2.1 ?_
        exact hret _ _ _ _ _ _ _ kd39_10.2.2.2.2.2.2.1 ⟨xNw2.rf, (-1), rfl, (by omega), (by omega), hp0, hp1, (by omega)⟩ (by omega) (by omega)
      · refine X_iloadn hK (i := 2) 2 kd39_9.2.1 rfl rfl ?_
        refine X_callS hK [.int (iI x2)] [] lk_X11_165 (c_X11_isPaper _ _ _ _ _ S g x2 (by omega)) kd39_9.2.2.1 rfl rfl (by simp [Value.category]) (by decide) (by omega) (by omega) (by decide) (fun r20 S22 g21 pr20 qr20 hg21 => ?_)
        obtain ⟨rfl, rfl, z23, rfl, lz23, uz23, k24⟩ := pr20
        refine X_st [.int (iI z23)] rfl ?_
        refine X_if_eq hK 74 (by omega) kd39_9.2.2.2.1 (by decide) (fun c25 => ?_) (fun c25 => ?_)
        · refine X_iconst hK kd39_10.2.2.2.2.2.1 ?_
          exact hret _ _ _ _ _ _ _ kd39_10.2.2.2.2.2.2.1 ⟨xNw2.rf, (-1), rfl, (by omega), (by omega), hp0, hp1, (by omega)⟩ (by omega) (by omega)
        · refine X_iloadn hK (i := 3) 3 kd39_9.2.2.2.2.1 rfl rfl ?_
          refine X_callS hK [.int (iI x3)] [] lk_X11_142 (c_X11_isCorner _ _ _ _ _ S g x3 (by omega)) kd39_9.2.2.2.2.2.1 rfl rfl (by simp [Value.category]) (by decide) (by omega) (by omega) (by decide) (fun r26 S28 g27 pr26 qr26 hg27 => ?_)
          obtain ⟨rfl, rfl, z29, rfl, lz29, uz29, k30⟩ := pr26
          refine X_st [.int (iI z29)] rfl ?_
          refine X_if_eq hK 74 (by omega) kd39_9.2.2.2.2.2.2.1 (by decide) (fun c31 => ?_) (fun c31 => ?_)
          · refine X_iconst hK kd39_10.2.2.2.2.2.1 ?_
            exact hret _ _ _ _ _ _ _ kd39_10.2.2.2.2.2.2.1 ⟨xNw2.rf, (-1), rfl, (by omega), (by omega), hp0, hp1, (by omega)⟩ (by omega) (by omega)
          · refine X_iload hK (i := 4) 4 kd39_9.2.2.2.2.2.2.2.1 rfl ?_
            refine X_iconst hK kd39_9.2.2.2.2.2.2.2.2.1 ?_
            refine X_sipush hK kd39_9.2.2.2.2.2.2.2.2.2.1 (by decide) ?_
            refine X_callS hK [.int (iI x4), .int (iI 1), .int (iI 1000)] [] lk_X11_115 (c_X11_within _ _ _ _ _ S g x4 1 1000 (by omega) (by omega) (by omega)) kd39_9.2.2.2.2.2.2.2.2.2.2.1 rfl rfl (by simp [Value.category]) (by decide) (by omega) (by omega) (by decide) (fun r32 S34 g33 pr32 qr32 hg33 => ?_)
            obtain ⟨rfl, rfl, z35, rfl, lz35, uz35, k36⟩ := pr32
            refine X_st [.int (iI z35)] rfl ?_
            refine X_if_eq hK 74 (by omega) kd39_9.2.2.2.2.2.2.2.2.2.2.2 (by decide) (fun c37 => ?_) (fun c37 => ?_)
            · refine X_iconst hK kd39_10.2.2.2.2.2.1 ?_
              exact hret _ _ _ _ _ _ _ kd39_10.2.2.2.2.2.2.1 ⟨xNw2.rf, (-1), rfl, (by omega), (by omega), hp0, hp1, (by omega)⟩ (by omega) (by omega)
            · refine X_iload hK (i := 5) 5 kd39_10.1 rfl ?_
              refine X_iconst hK kd39_10.2.1 ?_
              refine X_bipush hK kd39_10.2.2.1 (by decide) ?_
              refine X_callS hK [.int (iI x5), .int (iI 4), .int (iI 20)] [] lk_X11_115 (c_X11_within _ _ _ _ _ S g x5 4 20 (by omega) (by omega) (by omega)) kd39_10.2.2.2.1 rfl rfl (by simp [Value.category]) (by decide) (by omega) (by omega) (by decide) (fun r38 S40 g39 pr38 qr38 hg39 => ?_)
              obtain ⟨rfl, rfl, z41, rfl, lz41, uz41, k42⟩ := pr38
              refine X_st [.int (iI z41)] rfl ?_
              refine X_if_ne hK 76 (by omega) kd39_10.2.2.2.2.1 (by decide) (fun c43 => ?_) (fun c43 => ?_)
              · refine X_new hK nw_X11_208 (by omega) (by omega) kd39_10.2.2.2.2.2.2.2.1 (fun b44 S45 g46 zb44 nb44 hSb44 hg46 qb44 hs_b44 => ?_)
                have A47 : xLs S45 g46 := xLs_al hp0 (hg46 ▸ xM_new (L := []) xM.rf nb44) rfl qb44 (xNw2.one hSb44) (by decide)
                refine X_dup hK kd39_10.2.2.2.2.2.2.2.2.1 rfl ?_
                refine X_aloadn hK (i := 0) 0 kd39_10.2.2.2.2.2.2.2.2.2.1 rfl rfl ?_
                refine X_getK hK fl_X11_19_12 (qb44 _ _ hs_a0) ((xs_n hg46 hs_a0 nb44).trans eb3) kd39_10.2.2.2.2.2.2.2.2.2.2.1 ?_
                refine X_getK hK fl_X11_109_6 (qb44 _ _ hs_b3) ((xs_n hg46 hs_b3 nb44).trans eb12) kd39_10.2.2.2.2.2.2.2.2.2.2.2 ?_
                refine X_iloadn hK (i := 1) 1 kd39_11.1 rfl rfl ?_
                refine X_callV hK [.int (iI x1)] [.ref b44, .ref b44] lk_X11_135 (c_get_0 _ _ _ _ _ S45 g46 b12 x1 z18 (qb44 _ _ hs_b12) (by omega) (by omega) ((xs_n hg46 hs_b12 nb44).trans ez18) A47 (by omega)) (qb44 _ _ hs_b12) ⟨by decide, rfl⟩ kd39_11.2.1 rfl rfl (by simp [Value.category]) (by decide) (by omega) (by omega) (by decide) (fun r48 S50 g49 pr48 qr48 hg49 => ?_)
                obtain ⟨rfl, rfl, b51, rfl, hs_b51⟩ := pr48
                refine X_st [.ref b51, .ref b44, .ref b44] rfl ?_
                refine X_cast hK hs_b51 ⟨by decide, rfl⟩ m_12_0 kd39_11.2.2.1 ?_
                refine X_iloadn hK (i := 2) 2 kd39_11.2.2.2.1 rfl rfl ?_
                refine X_iloadn hK (i := 3) 3 kd39_11.2.2.2.2.1 rfl rfl ?_
                refine X_iload hK (i := 4) 4 kd39_11.2.2.2.2.2.1 rfl ?_
                refine X_iload hK (i := 5) 5 kd39_11.2.2.2.2.2.2.1 rfl ?_
                refine X_aloadn hK (i := 0) 0 kd39_11.2.2.2.2.2.2.2.1 rfl rfl ?_
                refine X_getK hK fl_X11_83_12 (qb44 _ _ hs_a0) ((xs_n hg46 hs_a0 nb44).trans ez1) kd39_11.2.2.2.2.2.2.2.2.1 ?_
                refine X_callIU hK [.ref b51, .int (iI x2), .int (iI x3), .int (iI x4), .int (iI x5), .int (iI z1)] [.ref b44] li_X11_210 (c_X1_init _ _ _ _ _ S45 g46 b44 b51 x2 x3 x4 x5 z1 hs_b44 hs_b51 (by omega) (by omega) (by omega) (by omega) (by omega)) kd39_11.2.2.2.2.2.2.2.2.2.1 rfl rfl (by simp [Value.category]) (by decide) (by omega) (by omega) (by decide) (fun r52 S54 g53 dcr52 dsr52 pr52 qr52 hg53 => ?_)
                obtain ⟨wr52, rfl, k55, k56⟩ := pr52
                have A57 : xLs S54 g53 := xLs_al A47 hg53 (by decide) qr52 wr52 (by decide)
                refine X_st [.ref b44] rfl ?_
                refine X_seal (ci := 2) zb44 (qr52 _ _ hs_b44) (by decide) k55 (fun a9 t9 n9 k9 _ _ _ c9 h9 => Or.inr (h9 ▸ xsl_raw t9 k9 (by omega))) (fun k9 => xsl_raw _ k9 (by omega)) (fun S58 hSy59 hs_y59 hoy59 => ?_)
                refine X_astore hK (i := 6) [(6, .ref b44), (0, .ref a0), (1, .int (iI x1)), (2, .int (iI x2)), (3, .int (iI x3)), (4, .int (iI x4)), (5, .int (iI x5))] kd39_11.2.2.2.2.2.2.2.2.2.2.1 (by decide) rfl ?_
                refine X_aloadn hK (i := 0) 1 kd39_11.2.2.2.2.2.2.2.2.2.2.2 rfl rfl ?_
                refine X_getK hK fl_X11_19_12 (xhs_seal hoy59 (qr52 _ _ hs_b44) (qr52 _ _ (qb44 _ _ hs_a0)) (by decide)) ((hg53 a0 12 0 1 (qb44 _ _ hs_a0) (by decide)).trans ((xs_n hg46 hs_a0 nb44).trans eb3)) kd39_12.1 ?_
                refine X_aload hK (i := 6) 0 kd39_12.2.1 rfl ?_
                refine X_aloadn hK (i := 0) 1 kd39_12.2.2.1 rfl rfl ?_
                refine X_aloadn hK (i := 0) 1 kd39_12.2.2.2.1 rfl rfl ?_
                refine X_getK hK fl_X11_83_12 (xhs_seal hoy59 (qr52 _ _ hs_b44) (qr52 _ _ (qb44 _ _ hs_a0)) (by decide)) ((hg53 a0 12 0 12 (qb44 _ _ hs_a0) (by decide)).trans ((xs_n hg46 hs_a0 nb44).trans ez1)) kd39_12.2.2.2.2.1 ?_
                refine X_callV hK [.int (iI z1)] [.ref b44, .ref b3] lk_X11_213 (c_X11_inForce _ _ _ _ _ S58 g53 a0 z1 (xhs_seal hoy59 (qr52 _ _ hs_b44) (qr52 _ _ (qb44 _ _ hs_a0)) (by decide)) (by omega) (xLs_seal A57 (qr52 _ _ hs_b44) hSy59 (by decide) (by decide))) (xhs_seal hoy59 (qr52 _ _ hs_b44) (qr52 _ _ (qb44 _ _ hs_a0)) (by decide)) ⟨by decide, rfl⟩ kd39_12.2.2.2.2.2.1 rfl rfl (by simp [Value.category]) (by decide) (by omega) (by omega) (by decide) (fun r60 S62 g61 pr60 qr60 hg61 => ?_)
                obtain ⟨rfl, rfl, b63, rfl, hs_b63⟩ := pr60
                refine X_st [.ref b63, .ref b44, .ref b3] rfl ?_
                refine X_callVU hK [.ref b44, .ref b63] [] lk_X11_217 (c_X5_buy _ _ _ _ _ S58 g53 b3 b44 b63 b4 z5 (xhs_seal hoy59 (qr52 _ _ hs_b44) (qr52 _ _ (qb44 _ _ hs_b3)) (by decide)) hs_y59 hs_b63 ((hg53 b3 6 0 2 (qb44 _ _ hs_b3) (by decide)).trans ((xs_n hg46 hs_b3 nb44).trans eb4)) (xhs_seal hoy59 (qr52 _ _ hs_b44) (qr52 _ _ (qb44 _ _ hs_b4)) (by decide)) (by omega) ((hg53 b4 100 0 2 (qb44 _ _ hs_b4) (by decide)).trans ((xs_n hg46 hs_b4 nb44).trans ez5)) (xLs_seal A57 (qr52 _ _ hs_b44) hSy59 (by decide) (by decide)) (xSi.nw (xSi.nw (xSi.nw hp1 (xNw2.one hSb44) (by decide)) wr52 (by decide)) (xNw2.one hSy59) (by decide))) (xhs_seal hoy59 (qr52 _ _ hs_b44) (qr52 _ _ (qb44 _ _ hs_b3)) (by decide)) ⟨by decide, rfl⟩ kd39_12.2.2.2.2.2.2.1 rfl rfl (by simp [Value.category]) (by decide) (by omega) (by omega) (by decide) (fun r64 S66 g65 dcr64 dsr64 pr64 qr64 hg65 => ?_)
                obtain ⟨wr64, z67, rfl, lz67, uz67, k68, k69, k70⟩ := pr64
                refine X_st [.int (iI z67)] rfl ?_
                refine X_if_eq hK 144 (by omega) kd39_12.2.2.2.2.2.2.2.1 (by decide) (fun c71 => ?_) (fun c71 => ?_)
                · refine X_iconst hK kd39_13.2.2.2.1 ?_
                  exact hret _ _ _ _ _ _ _ kd39_13.2.2.2.2.1 ⟨(xNw2.tr (xNw2.tr (xNw2.tr (xNw2.tr xNw2.rf (hSb44 ▸ xNw2.set (by decide)) (fun _ h => h)) wr52 (by decide)) (hSy59 ▸ xNw2.set (by decide)) (fun _ h => h)) wr64 (by decide)), (-1), rfl, (by omega), (by omega), k68, k69, (by omega)⟩ (by omega) (by omega)
                · refine X_aloadn hK (i := 0) 1 kd39_12.2.2.2.2.2.2.2.2.1 rfl rfl ?_
                  refine X_getK hK fl_X11_19_12 (qr64 _ _ (xhs_seal hoy59 (qr52 _ _ hs_b44) (qr52 _ _ (qb44 _ _ hs_a0)) (by decide))) ((hg65 a0 12 0 1 (xhs_seal hoy59 (qr52 _ _ hs_b44) (qr52 _ _ (qb44 _ _ hs_a0)) (by decide)) (by decide)).trans ((hg53 a0 12 0 1 (qb44 _ _ hs_a0) (by decide)).trans ((xs_n hg46 hs_a0 nb44).trans eb3))) kd39_12.2.2.2.2.2.2.2.2.2.1 ?_
                  refine X_getK hK fl_X11_205_6 (qr64 _ _ (xhs_seal hoy59 (qr52 _ _ hs_b44) (qr52 _ _ (qb44 _ _ hs_b3)) (by decide))) ((hg65 b3 6 0 2 (xhs_seal hoy59 (qr52 _ _ hs_b44) (qr52 _ _ (qb44 _ _ hs_b3)) (by decide)) (by decide)).trans ((hg53 b3 6 0 2 (qb44 _ _ hs_b3) (by decide)).trans ((xs_n hg46 hs_b3 nb44).trans eb4))) kd39_12.2.2.2.2.2.2.2.2.2.2.1 ?_
                  refine X_know (qr64 _ _ (xhs_seal hoy59 (qr52 _ _ hs_b44) (qr52 _ _ (qb44 _ _ hs_b4)) (by decide))) (by decide) sl_100_2 (fun z72 ez72 lz72 uz72 => ?_)
                  refine X_callV hK [] [] lk_X11_112 (c_size_100 _ _ _ _ _ S66 g65 b4 z72 (qr64 _ _ (xhs_seal hoy59 (qr52 _ _ hs_b44) (qr52 _ _ (qb44 _ _ hs_b4)) (by decide))) (by omega) ez72 k68) (qr64 _ _ (xhs_seal hoy59 (qr52 _ _ hs_b44) (qr52 _ _ (qb44 _ _ hs_b4)) (by decide))) ⟨by decide, rfl⟩ kd39_12.2.2.2.2.2.2.2.2.2.2.2 rfl rfl (by simp [Value.category]) (by decide) (by omega) (by omega) (by decide) (fun r73 S75 g74 pr73 qr73 hg74 => ?_)
                  obtain ⟨rfl, rfl, z76, rfl, lz76, uz76, k77⟩ := pr73
                  refine X_st [.int (iI z76)] rfl ?_
                  refine X_iconst hK kd39_13.1 ?_
                  refine X_isub hK kd39_13.2.1 ?_
                  refine X_goto hK 145 kd39_13.2.2.1 (by decide) ?_
                  exact hret _ _ _ _ _ _ _ kd39_13.2.2.2.2.1 ⟨(xNw2.tr (xNw2.tr (xNw2.tr (xNw2.tr xNw2.rf (hSb44 ▸ xNw2.set (by decide)) (fun _ h => h)) wr52 (by decide)) (hSy59 ▸ xNw2.set (by decide)) (fun _ h => h)) wr64 (by decide)), (z76 - 1), rfl, (by omega), (by omega), k68, k69, (by omega)⟩ (by omega) (by omega)
              · refine X_iconst hK kd39_10.2.2.2.2.2.1 ?_
                exact hret _ _ _ _ _ _ _ kd39_10.2.2.2.2.2.2.1 ⟨xNw2.rf, (-1), rfl, (by omega), (by omega), hp0, hp1, (by omega)⟩ (by omega) (by omega)

set_option maxHeartbeats 4000000 in
set_option maxRecDepth 100000 in
theorem c_X11_takeDraft (l : Launch) (D : va_G) (kA : Nat → ClassId) (b0 : Nat) (t0 : Nat → Nat) (S : xT) (g : xG) (a0 : Nat) (x1 : Int) (w0 : Nat) (n0 : Int) (hs_a0 : S a0 = some (12, 0)) (hx1 : (-2147483648) ≤ x1 ∧ x1 ≤ 2147483647) (ew0 : g a0 4 = .ref w0) (hs_w0 : S w0 = some (300, 0)) (hn0 : 0 ≤ n0 ∧ n0 ≤ 9) (en0 : g w0 2 = .int (iI n0)) (hp0 : xLs S g) (hp1 : xSi S t0) : xMu l yX11_takeDraft cX11_takeDraft 3 (some .int) 7 7 416 164 D kA b0 t0 [(11, 0), (300, 0), (300, 1), (300, 2), (10303, 0), (5011, 0), (5011, 1), (5011, 2), (5011, 3), (5011, 4), (5011, 5), (5011, 6), (5011, 7), (12, 7)] [.ref a0, .int (iI x1)] S g (fun (r : Option Value) (S1 : xT) (g1 : xG) (dc ds : Nat) => xNw2 S S1 [5011, 11, 10303, 13600, 13700, 13800, 13900, 14000] ∧ ∃ z : Int, r = some (.int (iI z)) ∧ 0 ≤ z ∧ z ≤ 16 ∧ (xLs S1 g1) ∧ (xSi S1 t0) ∧ (dc ≤ 7 ∧ ds ≤ 416)) := by
  refine xEnterUI (by decide) (by simp [lg_sl, Value.category]) [(0, .ref a0), (1, .int (iI x1))] rfl ?_
  intro K E hK hret hS0 _ hini ht
  subst ht
  refine X_aloadn hK (i := 0) 0 kd39_13.2.2.2.2.2.1 rfl rfl ?_
  refine X_getr hK 11 0 fl_X11_56_12 hs_a0 sl_12_7 kd39_13.2.2.2.2.2.2.1 (fun b1 eb1 hs_b1 => ?_)
  refine X_astoren hK (i := 2) [(2, .ref b1), (0, .ref a0), (1, .int (iI x1))] kd39_13.2.2.2.2.2.2.2.1 rfl (by decide) rfl ?_
  refine X_aloadn hK (i := 2) 0 kd39_13.2.2.2.2.2.2.2.2.1 rfl rfl ?_
  refine X_iloadn hK (i := 1) 2 kd39_13.2.2.2.2.2.2.2.2.2.1 rfl rfl ?_
  refine X_puti hK fl_X11_356_11 hs_b1 (by decide) sl_11_0 (by omega) (by omega) kd39_13.2.2.2.2.2.2.2.2.2.2.1 (fun g2 hg2 => ?_)
  refine X_aloadn hK (i := 0) 1 kd39_13.2.2.2.2.2.2.2.2.2.2.2 rfl rfl ?_
  refine X_getK hK fl_X11_38_12 hs_a0 ((xs_k hg2 (by decide)).trans ew0) kd39_14.1 ?_
  refine X_aloadn hK (i := 2) 0 kd39_14.2.1 rfl rfl ?_
  refine X_callVU hK [.ref b1] [] lk_X11_128 (c_addW_300 _ _ _ _ _ S g2 w0 b1 n0 hs_w0 hs_b1 (by omega) ((xs_k hg2 (by decide)).trans en0) (xLs_up hp0 hg2 hs_b1 (by decide)) hp1) hs_w0 ⟨by decide, rfl⟩ kd39_14.2.2.1 rfl rfl (by simp [Value.category]) (by decide) (by omega) (by omega) (by decide) (fun r3 S5 g4 dcr3 dsr3 pr3 qr3 hg4 => ?_)
  obtain ⟨wr3, z6, rfl, lz6, uz6, k7, k8, k9⟩ := pr3
  refine X_st [.int (iI z6)] rfl ?_
  refine X_pop hK kd39_14.2.2.2.1 rfl ?_
  refine X_aloadn hK (i := 0) 1 kd39_14.2.2.2.2.1 rfl rfl ?_
  refine X_new hK nw_X11_42 (by omega) (by omega) kd39_14.2.2.2.2.2.1 (fun b10 S11 g12 zb10 nb10 hSb10 hg12 qb10 hs_b10 => ?_)
  have A13 : xLs S11 g12 := xLs_al k7 (hg12 ▸ xM_new (L := []) xM.rf nb10) rfl qb10 (xNw2.one hSb10) (by decide)
  refine X_dup hK kd39_14.2.2.2.2.2.2.1 rfl ?_
  refine X_callIU hK [] [.ref b10, .ref a0] li_X11_44 (c_X10_init _ _ _ _ _ S11 g12 b10 hs_b10) kd39_14.2.2.2.2.2.2.2.1 rfl rfl (by simp [Value.category]) (by decide) (by omega) (by omega) (by decide) (fun r14 S16 g15 dcr14 dsr14 pr14 qr14 hg15 => ?_)
  obtain ⟨wr14, rfl, k17, k18⟩ := pr14
  have A19 : xLs S16 g15 := xLs_al A13 hg15 (by decide) qr14 wr14 (by decide)
  refine X_st [.ref b10, .ref a0] rfl ?_
  refine X_seal (ci := 11) zb10 (qr14 _ _ hs_b10) (by decide) k17 (fun a9 t9 n9 k9 _ _ _ c9 h9 => Or.inr (h9 ▸ xsl_raw t9 k9 (by omega))) (fun k9 => xsl_raw _ k9 (by omega)) (fun S20 hSy21 hs_y21 hoy21 => ?_)
  refine X_putr hK 11 0 fl_X11_56_12 (xhs_seal hoy21 (qr14 _ _ hs_b10) (qr14 _ _ (qb10 _ _ (qr3 _ _ hs_a0))) (by decide)) (by decide) sl_12_7 hs_y21 kd39_14.2.2.2.2.2.2.2.2.1 (fun g22 hg22 => ?_)
  refine X_aloadn hK (i := 2) 0 kd39_14.2.2.2.2.2.2.2.2.2.1 rfl rfl ?_
  refine X_geti hK fl_X11_359_11 (xhs_seal hoy21 (qr14 _ _ hs_b10) (qr14 _ _ (qb10 _ _ (qr3 _ _ hs_b1))) (by decide)) sl_11_1 kd39_14.2.2.2.2.2.2.2.2.2.2.1 (fun z23 ez23 lz23 uz23 => ?_)
  exact hret _ _ _ _ _ _ _ kd39_14.2.2.2.2.2.2.2.2.2.2.2 ⟨(xNw2.tr (xNw2.tr (xNw2.tr (xNw2.tr xNw2.rf wr3 (by decide)) (hSb10 ▸ xNw2.set (by decide)) (fun _ h => h)) wr14 (by decide)) (hSy21 ▸ xNw2.set (by decide)) (fun _ h => h)), z23, rfl, (by omega), (by omega), (xLs_up (xLs_seal A19 (qr14 _ _ hs_b10) hSy21 (by decide) (by decide)) hg22 (xhs_seal hoy21 (qr14 _ _ hs_b10) (qr14 _ _ (qb10 _ _ (qr3 _ _ hs_a0))) (by decide)) (by decide)), (xSi.nw (xSi.nw (xSi.nw (xSi.nw hp1 wr3 (by decide)) (xNw2.one hSb10) (by decide)) wr14 (by decide)) (xNw2.one hSy21) (by decide)), (by omega)⟩ (by omega) (by omega)

set_option maxHeartbeats 4000000 in
set_option maxRecDepth 100000 in
theorem c_X11_terms (l : Launch) (D : va_G) (kA : Nat → ClassId) (b0 : Nat) (t0 : Nat → Nat) (S : xT) (g : xG) (a0 : Nat) (x1 : Int) (w0 : Nat) (n0 : Int) (hs_a0 : S a0 = some (12, 0)) (hx1 : (-2147483648) ≤ x1 ∧ x1 ≤ 2147483647) (ew0 : g a0 0 = .ref w0) (hs_w0 : S w0 = some (10, 0)) (hn0 : 0 ≤ n0 ∧ n0 ≤ 420) (en0 : g w0 1 = .int (iI n0)) (hp0 : xLs S g) (hp1 : xSi S t0) : xMu l yX11_terms cX11_terms 3 (some .int) 36 7 416 838 D kA b0 t0 [(10, 1), (12900, 0), (13000, 0), (8, 2), (8, 3), (8, 4), (8, 5), (8, 6), (11, 1), (11, 2), (14000, 0), (13600, 0), (13700, 0), (13800, 0), (13900, 0), (12, 13), (11, 0), (300, 0), (300, 1), (300, 2), (10303, 0), (5011, 0), (5011, 1), (5011, 2), (5011, 3), (5011, 4), (5011, 5), (5011, 6), (5011, 7), (12, 7)] [.ref a0, .int (iI x1)] S g (fun (r : Option Value) (S1 : xT) (g1 : xG) (dc ds : Nat) => xNw2 S S1 [5011, 11, 10303, 13600, 13700, 13800, 13900, 14000] ∧ ∃ z : Int, r = some (.int (iI z)) ∧ (-1000) ≤ z ∧ z ≤ 16 ∧ (xLs S1 g1) ∧ (xSi S1 t0) ∧ (dc ≤ 7 ∧ ds ≤ 416) ∧ (g1 w0 1 = .int (iI (0)))) := by
  refine xEnterUI (by decide) (by simp [lg_sl, Value.category]) [(0, .ref a0), (1, .int (iI x1))] rfl ?_
  intro K E hK hret hS0 _ hini ht
  subst ht
  refine X_sipush hK kd39_15.1 (by decide) ?_
  refine X_istoren hK (i := 2) [(2, .int (iI (-1000))), (0, .ref a0), (1, .int (iI x1))] kd39_15.2.1 rfl (by decide) rfl ?_
  refine X_aloadn hK (i := 0) 1 kd39_15.2.2.1 rfl rfl ?_
  refine X_getr hK 300 0 fl_X11_38_12 hs_a0 sl_12_4 kd39_15.2.2.2.1 (fun b1 eb1 hs_b1 => ?_)
  refine X_know hs_b1 (by decide) sl_300_2 (fun z2 ez2 lz2 uz2 => ?_)
  refine X_callV hK [] [] lk_X11_112 (c_size_300 _ _ _ _ _ S g b1 z2 hs_b1 (by omega) ez2 hp0) hs_b1 ⟨by decide, rfl⟩ kd39_15.2.2.2.2.1 rfl rfl (by simp [Value.category]) (by decide) (by omega) (by omega) (by decide) (fun r3 S5 g4 pr3 qr3 hg4 => ?_)
  obtain ⟨rfl, rfl, z6, rfl, lz6, uz6, k7⟩ := pr3
  refine X_st [.int (iI z6)] rfl ?_
  refine X_bipush hK kd39_15.2.2.2.2.2.1 (by decide) ?_
  refine X_icmp_ge hK 82 (by omega) (by omega) kd39_15.2.2.2.2.2.2.1 (by decide) (fun c8 => ?_) (fun c8 => ?_)
  · refine X_aloadn hK (i := 0) 1 kd39_18.2.2.2.1 rfl rfl ?_
    refine X_getK hK fl_X11_10_12 hs_a0 ew0 kd39_18.2.2.2.2.1 ?_
    refine X_iconst hK kd39_18.2.2.2.2.2.1 ?_
    refine X_puti hK fl_X11_102_10 hs_w0 (by decide) sl_10_1 (by omega) (by omega) kd39_18.2.2.2.2.2.2.1 (fun g9 hg9 => ?_)
    refine X_iloadn hK (i := 2) 0 kd39_18.2.2.2.2.2.2.2.1 rfl rfl ?_
    exact hret _ _ _ _ _ _ _ kd39_18.2.2.2.2.2.2.2.2.1 ⟨xNw2.rf, (-1000), rfl, (by omega), (by omega), (xLs_up hp0 hg9 hs_w0 (by decide)), hp1, (by omega), ((xs_s hg9).trans (by congr 2 <;> omega))⟩ (by omega) (by omega)
  · refine X_iloadn hK (i := 1) 2 kd39_15.2.2.2.2.2.2.2.1 rfl rfl ?_
    refine X_callS hK [.int (iI x1)] [] lk_X11_159 (c_X11_isDay _ _ _ _ _ S g x1 (by omega)) kd39_15.2.2.2.2.2.2.2.2.1 rfl rfl (by simp [Value.category]) (by decide) (by omega) (by omega) (by decide) (fun r10 S12 g11 pr10 qr10 hg11 => ?_)
    obtain ⟨rfl, rfl, z13, rfl, lz13, uz13, k14⟩ := pr10
    refine X_st [.int (iI z13)] rfl ?_
    refine X_if_eq hK 82 (by omega) kd39_15.2.2.2.2.2.2.2.2.2.1 (by decide) (fun c15 => ?_) (fun c15 => ?_)
    · refine X_aloadn hK (i := 0) 1 kd39_18.2.2.2.1 rfl rfl ?_
      refine X_getK hK fl_X11_10_12 hs_a0 ew0 kd39_18.2.2.2.2.1 ?_
      refine X_iconst hK kd39_18.2.2.2.2.2.1 ?_
      refine X_puti hK fl_X11_102_10 hs_w0 (by decide) sl_10_1 (by omega) (by omega) kd39_18.2.2.2.2.2.2.1 (fun g16 hg16 => ?_)
      refine X_iloadn hK (i := 2) 0 kd39_18.2.2.2.2.2.2.2.1 rfl rfl ?_
      exact hret _ _ _ _ _ _ _ kd39_18.2.2.2.2.2.2.2.2.1 ⟨xNw2.rf, (-1000), rfl, (by omega), (by omega), (xLs_up hp0 hg16 hs_w0 (by decide)), hp1, (by omega), ((xs_s hg16).trans (by congr 2 <;> omega))⟩ (by omega) (by omega)
    · refine X_iloadn hK (i := 1) 2 kd39_15.2.2.2.2.2.2.2.2.2.2.1 rfl rfl ?_
      refine X_aloadn hK (i := 0) 1 kd39_15.2.2.2.2.2.2.2.2.2.2.2 rfl rfl ?_
      refine X_geti hK fl_X11_83_12 hs_a0 sl_12_12 kd39_16.1 (fun z17 ez17 lz17 uz17 => ?_)
      refine X_icmp_lt hK 82 (by omega) (by omega) kd39_16.2.1 (by decide) (fun c18 => ?_) (fun c18 => ?_)
      · refine X_aloadn hK (i := 0) 1 kd39_18.2.2.2.1 rfl rfl ?_
        refine X_getK hK fl_X11_10_12 hs_a0 ew0 kd39_18.2.2.2.2.1 ?_
        refine X_iconst hK kd39_18.2.2.2.2.2.1 ?_
        refine X_puti hK fl_X11_102_10 hs_w0 (by decide) sl_10_1 (by omega) (by omega) kd39_18.2.2.2.2.2.2.1 (fun g19 hg19 => ?_)
        refine X_iloadn hK (i := 2) 0 kd39_18.2.2.2.2.2.2.2.1 rfl rfl ?_
        exact hret _ _ _ _ _ _ _ kd39_18.2.2.2.2.2.2.2.2.1 ⟨xNw2.rf, (-1000), rfl, (by omega), (by omega), (xLs_up hp0 hg19 hs_w0 (by decide)), hp1, (by omega), ((xs_s hg19).trans (by congr 2 <;> omega))⟩ (by omega) (by omega)
      · refine X_aloadn hK (i := 0) 1 kd39_16.2.2.1 rfl rfl ?_
        refine X_getr hK 8 0 fl_X11_52_12 hs_a0 sl_12_6 kd39_16.2.2.2.1 (fun b20 eb20 hs_b20 => ?_)
        refine X_aloadn hK (i := 0) 1 kd39_16.2.2.2.2.1 rfl rfl ?_
        refine X_getK hK fl_X11_10_12 hs_a0 ew0 kd39_16.2.2.2.2.2.1 ?_
        refine X_aloadn hK (i := 0) 1 kd39_16.2.2.2.2.2.2.1 rfl rfl ?_
        refine X_getr hK 11 0 fl_X11_56_12 hs_a0 sl_12_7 kd39_16.2.2.2.2.2.2.2.1 (fun b21 eb21 hs_b21 => ?_)
        refine X_callV hK [.ref w0, .ref b21] [] lk_X11_193 (c_X7_read _ _ _ _ _ S g b20 w0 b21 hs_b20 hs_w0 hs_b21) hs_b20 ⟨by decide, rfl⟩ kd39_16.2.2.2.2.2.2.2.2.1 rfl rfl (by simp [Value.category]) (by decide) (by omega) (by omega) (by decide) (fun r22 S24 g23 pr22 qr22 hg23 => ?_)
        obtain ⟨rfl, rfl⟩ := pr22
        refine X_st [] rfl ?_
        refine X_aloadn hK (i := 0) 1 kd39_16.2.2.2.2.2.2.2.2.2.1 rfl rfl ?_
        refine X_aloadn hK (i := 0) 1 kd39_16.2.2.2.2.2.2.2.2.2.2.1 rfl rfl ?_
        refine X_getK hK fl_X11_52_12 hs_a0 ((hg23 a0 12 0 6 hs_a0 (by decide)).trans eb20) kd39_16.2.2.2.2.2.2.2.2.2.2.2 ?_
        refine X_geti hK fl_X11_197_8 hs_b20 sl_8_5 kd39_17.1 (fun z25 ez25 lz25 uz25 => ?_)
        refine X_puti hK fl_X11_87_12 hs_a0 (by decide) sl_12_13 (by omega) (by omega) kd39_17.2.1 (fun g26 hg26 => ?_)
        refine X_aloadn hK (i := 0) 1 kd39_17.2.2.1 rfl rfl ?_
        refine X_getK hK fl_X11_87_12 hs_a0 (xs_s hg26) kd39_17.2.2.2.1 ?_
        refine X_if_ne hK 72 (by omega) kd39_17.2.2.2.2.1 (by decide) (fun c27 => ?_) (fun c27 => ?_)
        · refine X_iconst hK kd39_17.2.2.2.2.2.2.2.2.2.1 ?_
          refine X_aloadn hK (i := 0) 1 kd39_17.2.2.2.2.2.2.2.2.2.2.1 rfl rfl ?_
          refine X_getK hK fl_X11_52_12 hs_a0 ((xs_k hg26 (by decide)).trans ((hg23 a0 12 0 6 hs_a0 (by decide)).trans eb20)) kd39_17.2.2.2.2.2.2.2.2.2.2.2 ?_
          refine X_geti hK fl_X11_202_8 hs_b20 sl_8_6 kd39_18.1 (fun z28 ez28 lz28 uz28 => ?_)
          refine X_isub hK kd39_18.2.1 ?_
          refine X_istoren hK (i := 2) [(2, .int (iI ((-1) - z28))), (0, .ref a0), (1, .int (iI x1))] kd39_18.2.2.1 rfl (by decide) rfl ?_
          refine X_aloadn hK (i := 0) 1 kd39_18.2.2.2.1 rfl rfl ?_
          refine X_getK hK fl_X11_10_12 hs_a0 ((xs_k hg26 (by decide)).trans ((hg23 a0 12 0 0 hs_a0 (by decide)).trans ew0)) kd39_18.2.2.2.2.1 ?_
          refine X_iconst hK kd39_18.2.2.2.2.2.1 ?_
          refine X_puti hK fl_X11_102_10 hs_w0 (by decide) sl_10_1 (by omega) (by omega) kd39_18.2.2.2.2.2.2.1 (fun g29 hg29 => ?_)
          refine X_iloadn hK (i := 2) 0 kd39_18.2.2.2.2.2.2.2.1 rfl rfl ?_
          exact hret _ _ _ _ _ _ _ kd39_18.2.2.2.2.2.2.2.2.1 ⟨xNw2.rf, ((-1) - z28), rfl, (by omega), (by omega), (xLs_up (xLs_up (xLs_mod hp0 hg23 (by decide)) hg26 hs_a0 (by decide)) hg29 hs_w0 (by decide)), hp1, (by omega), ((xs_s hg29).trans (by congr 2 <;> omega))⟩ (by omega) (by omega)
        · refine X_aloadn hK (i := 0) 1 kd39_17.2.2.2.2.2.1 rfl rfl ?_
          refine X_iloadn hK (i := 1) 2 kd39_17.2.2.2.2.2.2.1 rfl rfl ?_
          refine X_callVU hK [.int (iI x1)] [] lk_X11_198 (c_X11_takeDraft _ _ _ _ _ S g26 a0 x1 b1 z2 hs_a0 (by omega) ((xs_k hg26 (by decide)).trans ((hg23 a0 12 0 4 hs_a0 (by decide)).trans eb1)) hs_b1 (by omega) ((xs_k hg26 (by decide)).trans ((hg23 b1 300 0 2 hs_b1 (by decide)).trans ez2)) (xLs_up (xLs_mod hp0 hg23 (by decide)) hg26 hs_a0 (by decide)) hp1) hs_a0 ⟨by decide, rfl⟩ kd39_17.2.2.2.2.2.2.2.1 rfl rfl (by simp [Value.category]) (by decide) (by omega) (by omega) (by decide) (fun r30 S32 g31 dcr30 dsr30 pr30 qr30 hg31 => ?_)
          obtain ⟨wr30, z33, rfl, lz33, uz33, k34, k35, k36⟩ := pr30
          refine X_st [.int (iI z33)] rfl ?_
          refine X_goto hK 81 kd39_17.2.2.2.2.2.2.2.2.1 (by decide) ?_
          refine X_istoren hK (i := 2) [(2, .int (iI z33)), (0, .ref a0), (1, .int (iI x1))] kd39_18.2.2.1 rfl (by decide) rfl ?_
          refine X_aloadn hK (i := 0) 1 kd39_18.2.2.2.1 rfl rfl ?_
          refine X_getK hK fl_X11_10_12 (qr30 _ _ hs_a0) ((hg31 a0 12 0 0 hs_a0 (by decide)).trans ((xs_k hg26 (by decide)).trans ((hg23 a0 12 0 0 hs_a0 (by decide)).trans ew0))) kd39_18.2.2.2.2.1 ?_
          refine X_iconst hK kd39_18.2.2.2.2.2.1 ?_
          refine X_puti hK fl_X11_102_10 (qr30 _ _ hs_w0) (by decide) sl_10_1 (by omega) (by omega) kd39_18.2.2.2.2.2.2.1 (fun g37 hg37 => ?_)
          refine X_iloadn hK (i := 2) 0 kd39_18.2.2.2.2.2.2.2.1 rfl rfl ?_
          exact hret _ _ _ _ _ _ _ kd39_18.2.2.2.2.2.2.2.2.1 ⟨(xNw2.tr xNw2.rf wr30 (by decide)), z33, rfl, (by omega), (by omega), (xLs_up k34 hg37 (qr30 _ _ hs_w0) (by decide)), k35, (by omega), ((xs_s hg37).trans (by congr 2 <;> omega))⟩ (by omega) (by omega)
