theorem m_1_0 : Cond.classLink RL 8 RX11 ∈ wsL_law := ch_1 _ (List.mem_of_getElem? (i := 0) rfl)
theorem m_1_1 : Cond.instantiable RX11 18 ∈ wsL_law := ch_1 _ (List.mem_of_getElem? (i := 1) rfl)
theorem m_1_3 : Cond.classLink RL 20 RX12 ∈ wsL_law := ch_1 _ (List.mem_of_getElem? (i := 3) rfl)
theorem m_1_4 : Cond.instantiable RX12 91 ∈ wsL_law := ch_1 _ (List.mem_of_getElem? (i := 4) rfl)
theorem m_1_7 : Cond.methodLink RL 19 yX11_init ∈ wsL_law := ch_1 _ (List.mem_of_getElem? (i := 7) rfl)
theorem m_1_8 : Cond.instanceMethod yX11_init ∈ wsL_law := ch_1 _ (List.mem_of_getElem? (i := 8) rfl)
theorem m_1_9 : Cond.code yX11_init cX11_init 1 none ∈ wsL_law := ch_1 _ (List.mem_of_getElem? (i := 9) rfl)
theorem m_7_22 : Cond.methodLink RL 22 yX12_init ∈ wsL_law := ch_7 _ (List.mem_of_getElem? (i := 22) rfl)
theorem m_7_23 : Cond.instanceMethod yX12_init ∈ wsL_law := ch_7 _ (List.mem_of_getElem? (i := 23) rfl)
theorem m_8_0 : Cond.code yX12_init cX12_init 1 none ∈ wsL_law := ch_8 _ (List.mem_of_getElem? (i := 0) rfl)
theorem m_10_16 : Cond.methodLink RL 23 yX11_feed ∈ wsL_law := ch_10 _ (List.mem_of_getElem? (i := 16) rfl)
theorem m_10_17 : Cond.instanceMethod yX11_feed ∈ wsL_law := ch_10 _ (List.mem_of_getElem? (i := 17) rfl)
theorem m_10_18 : Cond.selects RX11 yX11_feed yX11_feed ∈ wsL_law := ch_10 _ (List.mem_of_getElem? (i := 18) rfl)
theorem m_10_19 : Cond.code yX11_feed cX11_feed 6 (some .int) ∈ wsL_law := ch_10 _ (List.mem_of_getElem? (i := 19) rfl)
theorem m_11_1 : Cond.methodLink RL 27 yX12_feed ∈ wsL_law := ch_11 _ (List.mem_of_getElem? (i := 1) rfl)
theorem m_11_2 : Cond.instanceMethod yX12_feed ∈ wsL_law := ch_11 _ (List.mem_of_getElem? (i := 2) rfl)
theorem m_11_3 : Cond.selects RX12 yX12_feed yX12_feed ∈ wsL_law := ch_11 _ (List.mem_of_getElem? (i := 3) rfl)
theorem m_11_4 : Cond.code yX12_feed cX12_feed 6 (some .int) ∈ wsL_law := ch_11 _ (List.mem_of_getElem? (i := 4) rfl)
theorem m_11_11 : Cond.methodLink RL 28 yX11_end ∈ wsL_law := ch_11 _ (List.mem_of_getElem? (i := 11) rfl)
theorem m_11_12 : Cond.instanceMethod yX11_end ∈ wsL_law := ch_11 _ (List.mem_of_getElem? (i := 12) rfl)
theorem m_11_13 : Cond.selects RX11 yX11_end yX11_end ∈ wsL_law := ch_11 _ (List.mem_of_getElem? (i := 13) rfl)
theorem m_11_14 : Cond.code yX11_end cX11_end 2 (some .boolean) ∈ wsL_law := ch_11 _ (List.mem_of_getElem? (i := 14) rfl)
theorem m_11_15 : Cond.methodLink RL 32 yX12_end ∈ wsL_law := ch_11 _ (List.mem_of_getElem? (i := 15) rfl)
theorem m_11_16 : Cond.instanceMethod yX12_end ∈ wsL_law := ch_11 _ (List.mem_of_getElem? (i := 16) rfl)
theorem m_11_17 : Cond.selects RX12 yX12_end yX12_end ∈ wsL_law := ch_11 _ (List.mem_of_getElem? (i := 17) rfl)
theorem m_11_18 : Cond.code yX12_end cX12_end 2 (some .boolean) ∈ wsL_law := ch_11 _ (List.mem_of_getElem? (i := 18) rfl)
theorem m_11_19 : Cond.methodLink RL 33 yX11_boy ∈ wsL_law := ch_11 _ (List.mem_of_getElem? (i := 19) rfl)
theorem m_11_20 : Cond.instanceMethod yX11_boy ∈ wsL_law := ch_11 _ (List.mem_of_getElem? (i := 20) rfl)
theorem m_11_21 : Cond.selects RX11 yX11_boy yX11_boy ∈ wsL_law := ch_11 _ (List.mem_of_getElem? (i := 21) rfl)
theorem m_11_22 : Cond.code yX11_boy cX11_boy 6 (some .int) ∈ wsL_law := ch_11 _ (List.mem_of_getElem? (i := 22) rfl)
theorem m_15_7 : Cond.methodLink RL 37 yX12_boy ∈ wsL_law := ch_15 _ (List.mem_of_getElem? (i := 7) rfl)
theorem m_15_8 : Cond.instanceMethod yX12_boy ∈ wsL_law := ch_15 _ (List.mem_of_getElem? (i := 8) rfl)
theorem m_15_9 : Cond.selects RX12 yX12_boy yX12_boy ∈ wsL_law := ch_15 _ (List.mem_of_getElem? (i := 9) rfl)
theorem m_15_10 : Cond.code yX12_boy cX12_boy 5 (some .int) ∈ wsL_law := ch_15 _ (List.mem_of_getElem? (i := 10) rfl)
theorem m_15_15 : Cond.methodLink RL 38 yX11_badge ∈ wsL_law := ch_15 _ (List.mem_of_getElem? (i := 15) rfl)
theorem m_15_16 : Cond.instanceMethod yX11_badge ∈ wsL_law := ch_15 _ (List.mem_of_getElem? (i := 16) rfl)
theorem m_15_17 : Cond.selects RX11 yX11_badge yX11_badge ∈ wsL_law := ch_15 _ (List.mem_of_getElem? (i := 17) rfl)
theorem m_15_18 : Cond.code yX11_badge cX11_badge 3 (some .boolean) ∈ wsL_law := ch_15 _ (List.mem_of_getElem? (i := 18) rfl)
theorem m_16_18 : Cond.methodLink RL 42 yX12_badge ∈ wsL_law := ch_16 _ (List.mem_of_getElem? (i := 18) rfl)
theorem m_16_19 : Cond.instanceMethod yX12_badge ∈ wsL_law := ch_16 _ (List.mem_of_getElem? (i := 19) rfl)
theorem m_16_20 : Cond.selects RX12 yX12_badge yX12_badge ∈ wsL_law := ch_16 _ (List.mem_of_getElem? (i := 20) rfl)
theorem m_16_21 : Cond.code yX12_badge cX12_badge 3 (some .boolean) ∈ wsL_law := ch_16 _ (List.mem_of_getElem? (i := 21) rfl)
theorem m_17_2 : Cond.methodLink RL 43 yX11_owner ∈ wsL_law := ch_17 _ (List.mem_of_getElem? (i := 2) rfl)
theorem m_17_3 : Cond.instanceMethod yX11_owner ∈ wsL_law := ch_17 _ (List.mem_of_getElem? (i := 3) rfl)
theorem m_17_4 : Cond.selects RX11 yX11_owner yX11_owner ∈ wsL_law := ch_17 _ (List.mem_of_getElem? (i := 4) rfl)
theorem m_17_5 : Cond.code yX11_owner cX11_owner 3 (some .boolean) ∈ wsL_law := ch_17 _ (List.mem_of_getElem? (i := 5) rfl)
theorem m_17_10 : Cond.methodLink RL 46 yX12_owner ∈ wsL_law := ch_17 _ (List.mem_of_getElem? (i := 10) rfl)
theorem m_17_11 : Cond.instanceMethod yX12_owner ∈ wsL_law := ch_17 _ (List.mem_of_getElem? (i := 11) rfl)
theorem m_17_12 : Cond.selects RX12 yX12_owner yX12_owner ∈ wsL_law := ch_17 _ (List.mem_of_getElem? (i := 12) rfl)
theorem m_17_13 : Cond.code yX12_owner cX12_owner 3 (some .boolean) ∈ wsL_law := ch_17 _ (List.mem_of_getElem? (i := 13) rfl)
theorem m_17_17 : Cond.methodLink RL 47 yX11_weather ∈ wsL_law := ch_17 _ (List.mem_of_getElem? (i := 17) rfl)
theorem m_17_18 : Cond.instanceMethod yX11_weather ∈ wsL_law := ch_17 _ (List.mem_of_getElem? (i := 18) rfl)
theorem m_17_19 : Cond.selects RX11 yX11_weather yX11_weather ∈ wsL_law := ch_17 _ (List.mem_of_getElem? (i := 19) rfl)
theorem m_17_20 : Cond.code yX11_weather cX11_weather 2 (some .boolean) ∈ wsL_law := ch_17 _ (List.mem_of_getElem? (i := 20) rfl)
theorem m_18_7 : Cond.methodLink RL 51 yX12_weather ∈ wsL_law := ch_18 _ (List.mem_of_getElem? (i := 7) rfl)
theorem m_18_8 : Cond.instanceMethod yX12_weather ∈ wsL_law := ch_18 _ (List.mem_of_getElem? (i := 8) rfl)
theorem m_18_9 : Cond.selects RX12 yX12_weather yX12_weather ∈ wsL_law := ch_18 _ (List.mem_of_getElem? (i := 9) rfl)
theorem m_18_10 : Cond.code yX12_weather cX12_weather 3 (some .boolean) ∈ wsL_law := ch_18 _ (List.mem_of_getElem? (i := 10) rfl)
theorem m_18_16 : Cond.methodLink RL 52 yX11_sky ∈ wsL_law := ch_18 _ (List.mem_of_getElem? (i := 16) rfl)
theorem m_18_17 : Cond.instanceMethod yX11_sky ∈ wsL_law := ch_18 _ (List.mem_of_getElem? (i := 17) rfl)
theorem m_18_18 : Cond.selects RX11 yX11_sky yX11_sky ∈ wsL_law := ch_18 _ (List.mem_of_getElem? (i := 18) rfl)
theorem m_18_19 : Cond.code yX11_sky cX11_sky 2 (some .int) ∈ wsL_law := ch_18 _ (List.mem_of_getElem? (i := 19) rfl)
theorem m_18_21 : Cond.methodLink RL 55 yX12_sky ∈ wsL_law := ch_18 _ (List.mem_of_getElem? (i := 21) rfl)
theorem m_18_22 : Cond.instanceMethod yX12_sky ∈ wsL_law := ch_18 _ (List.mem_of_getElem? (i := 22) rfl)
theorem m_18_23 : Cond.selects RX12 yX12_sky yX12_sky ∈ wsL_law := ch_18 _ (List.mem_of_getElem? (i := 23) rfl)
theorem m_19_0 : Cond.code yX12_sky cX12_sky 2 (some .int) ∈ wsL_law := ch_19 _ (List.mem_of_getElem? (i := 0) rfl)
theorem m_19_8 : Cond.methodLink RL 56 yX11_headline ∈ wsL_law := ch_19 _ (List.mem_of_getElem? (i := 8) rfl)
theorem m_19_9 : Cond.instanceMethod yX11_headline ∈ wsL_law := ch_19 _ (List.mem_of_getElem? (i := 9) rfl)
theorem m_19_10 : Cond.selects RX11 yX11_headline yX11_headline ∈ wsL_law := ch_19 _ (List.mem_of_getElem? (i := 10) rfl)
theorem m_19_11 : Cond.code yX11_headline cX11_headline 4 (some .boolean) ∈ wsL_law := ch_19 _ (List.mem_of_getElem? (i := 11) rfl)
theorem m_19_19 : Cond.methodLink RL 60 yX12_headline ∈ wsL_law := ch_19 _ (List.mem_of_getElem? (i := 19) rfl)
theorem m_19_20 : Cond.instanceMethod yX12_headline ∈ wsL_law := ch_19 _ (List.mem_of_getElem? (i := 20) rfl)
theorem m_19_21 : Cond.selects RX12 yX12_headline yX12_headline ∈ wsL_law := ch_19 _ (List.mem_of_getElem? (i := 21) rfl)
theorem m_19_22 : Cond.code yX12_headline cX12_headline 4 (some .boolean) ∈ wsL_law := ch_19 _ (List.mem_of_getElem? (i := 22) rfl)
theorem m_20_3 : Cond.methodLink RL 61 yX11_table ∈ wsL_law := ch_20 _ (List.mem_of_getElem? (i := 3) rfl)
theorem m_20_4 : Cond.instanceMethod yX11_table ∈ wsL_law := ch_20 _ (List.mem_of_getElem? (i := 4) rfl)
theorem m_20_5 : Cond.selects RX11 yX11_table yX11_table ∈ wsL_law := ch_20 _ (List.mem_of_getElem? (i := 5) rfl)
theorem m_20_6 : Cond.code yX11_table cX11_table 4 (some .boolean) ∈ wsL_law := ch_20 _ (List.mem_of_getElem? (i := 6) rfl)
theorem m_20_12 : Cond.methodLink RL 64 yX12_table ∈ wsL_law := ch_20 _ (List.mem_of_getElem? (i := 12) rfl)
theorem m_20_13 : Cond.instanceMethod yX12_table ∈ wsL_law := ch_20 _ (List.mem_of_getElem? (i := 13) rfl)
theorem m_20_14 : Cond.selects RX12 yX12_table yX12_table ∈ wsL_law := ch_20 _ (List.mem_of_getElem? (i := 14) rfl)
theorem m_20_15 : Cond.code yX12_table cX12_table 4 (some .boolean) ∈ wsL_law := ch_20 _ (List.mem_of_getElem? (i := 15) rfl)
theorem m_20_16 : Cond.methodLink RL 65 yX11_want ∈ wsL_law := ch_20 _ (List.mem_of_getElem? (i := 16) rfl)
theorem m_20_17 : Cond.instanceMethod yX11_want ∈ wsL_law := ch_20 _ (List.mem_of_getElem? (i := 17) rfl)
theorem m_20_18 : Cond.selects RX11 yX11_want yX11_want ∈ wsL_law := ch_20 _ (List.mem_of_getElem? (i := 18) rfl)
theorem m_20_19 : Cond.code yX11_want cX11_want 4 (some .boolean) ∈ wsL_law := ch_20 _ (List.mem_of_getElem? (i := 19) rfl)
theorem m_20_21 : Cond.methodLink RL 68 yX12_want ∈ wsL_law := ch_20 _ (List.mem_of_getElem? (i := 21) rfl)
theorem m_20_22 : Cond.instanceMethod yX12_want ∈ wsL_law := ch_20 _ (List.mem_of_getElem? (i := 22) rfl)
theorem m_20_23 : Cond.selects RX12 yX12_want yX12_want ∈ wsL_law := ch_20 _ (List.mem_of_getElem? (i := 23) rfl)
theorem m_21_0 : Cond.code yX12_want cX12_want 4 (some .boolean) ∈ wsL_law := ch_21 _ (List.mem_of_getElem? (i := 0) rfl)
theorem m_21_1 : Cond.methodLink RL 69 yX11_asked ∈ wsL_law := ch_21 _ (List.mem_of_getElem? (i := 1) rfl)
theorem m_21_2 : Cond.instanceMethod yX11_asked ∈ wsL_law := ch_21 _ (List.mem_of_getElem? (i := 2) rfl)
theorem m_21_3 : Cond.selects RX11 yX11_asked yX11_asked ∈ wsL_law := ch_21 _ (List.mem_of_getElem? (i := 3) rfl)
theorem m_21_4 : Cond.code yX11_asked cX11_asked 5 (some .int) ∈ wsL_law := ch_21 _ (List.mem_of_getElem? (i := 4) rfl)
theorem m_21_9 : Cond.methodLink RL 73 yX12_asked ∈ wsL_law := ch_21 _ (List.mem_of_getElem? (i := 9) rfl)
theorem m_21_10 : Cond.instanceMethod yX12_asked ∈ wsL_law := ch_21 _ (List.mem_of_getElem? (i := 10) rfl)
theorem m_21_11 : Cond.selects RX12 yX12_asked yX12_asked ∈ wsL_law := ch_21 _ (List.mem_of_getElem? (i := 11) rfl)
theorem m_21_12 : Cond.code yX12_asked cX12_asked 5 (some .int) ∈ wsL_law := ch_21 _ (List.mem_of_getElem? (i := 12) rfl)
theorem m_21_17 : Cond.methodLink RL 74 yX11_minutes ∈ wsL_law := ch_21 _ (List.mem_of_getElem? (i := 17) rfl)
theorem m_21_18 : Cond.instanceMethod yX11_minutes ∈ wsL_law := ch_21 _ (List.mem_of_getElem? (i := 18) rfl)
theorem m_21_19 : Cond.selects RX11 yX11_minutes yX11_minutes ∈ wsL_law := ch_21 _ (List.mem_of_getElem? (i := 19) rfl)
theorem m_21_20 : Cond.code yX11_minutes cX11_minutes 4 (some .boolean) ∈ wsL_law := ch_21 _ (List.mem_of_getElem? (i := 20) rfl)
theorem m_21_22 : Cond.methodLink RL 77 yX12_minutes ∈ wsL_law := ch_21 _ (List.mem_of_getElem? (i := 22) rfl)
theorem m_21_23 : Cond.instanceMethod yX12_minutes ∈ wsL_law := ch_21 _ (List.mem_of_getElem? (i := 23) rfl)
theorem m_22_0 : Cond.selects RX12 yX12_minutes yX12_minutes ∈ wsL_law := ch_22 _ (List.mem_of_getElem? (i := 0) rfl)
theorem m_22_1 : Cond.code yX12_minutes cX12_minutes 4 (some .boolean) ∈ wsL_law := ch_22 _ (List.mem_of_getElem? (i := 1) rfl)
theorem m_22_7 : Cond.methodLink RL 78 yX11_terms ∈ wsL_law := ch_22 _ (List.mem_of_getElem? (i := 7) rfl)
theorem m_22_8 : Cond.instanceMethod yX11_terms ∈ wsL_law := ch_22 _ (List.mem_of_getElem? (i := 8) rfl)
theorem m_22_9 : Cond.selects RX11 yX11_terms yX11_terms ∈ wsL_law := ch_22 _ (List.mem_of_getElem? (i := 9) rfl)
theorem m_22_10 : Cond.code yX11_terms cX11_terms 3 (some .int) ∈ wsL_law := ch_22 _ (List.mem_of_getElem? (i := 10) rfl)
theorem m_28_3 : Cond.methodLink RL 81 yX12_terms ∈ wsL_law := ch_28 _ (List.mem_of_getElem? (i := 3) rfl)
theorem m_28_4 : Cond.instanceMethod yX12_terms ∈ wsL_law := ch_28 _ (List.mem_of_getElem? (i := 4) rfl)
theorem m_28_5 : Cond.selects RX12 yX12_terms yX12_terms ∈ wsL_law := ch_28 _ (List.mem_of_getElem? (i := 5) rfl)
theorem m_28_6 : Cond.code yX12_terms cX12_terms 4 (some .int) ∈ wsL_law := ch_28 _ (List.mem_of_getElem? (i := 6) rfl)
theorem m_32_9 : Cond.methodLink RL 82 yX11_fault ∈ wsL_law := ch_32 _ (List.mem_of_getElem? (i := 9) rfl)
theorem m_32_10 : Cond.instanceMethod yX11_fault ∈ wsL_law := ch_32 _ (List.mem_of_getElem? (i := 10) rfl)
theorem m_32_11 : Cond.selects RX11 yX11_fault yX11_fault ∈ wsL_law := ch_32 _ (List.mem_of_getElem? (i := 11) rfl)
theorem m_32_12 : Cond.code yX11_fault cX11_fault 1 (some .int) ∈ wsL_law := ch_32 _ (List.mem_of_getElem? (i := 12) rfl)
theorem m_32_13 : Cond.methodLink RL 86 yX12_fault ∈ wsL_law := ch_32 _ (List.mem_of_getElem? (i := 13) rfl)
theorem m_32_14 : Cond.instanceMethod yX12_fault ∈ wsL_law := ch_32 _ (List.mem_of_getElem? (i := 14) rfl)
theorem m_32_15 : Cond.selects RX12 yX12_fault yX12_fault ∈ wsL_law := ch_32 _ (List.mem_of_getElem? (i := 15) rfl)
theorem m_32_16 : Cond.code yX12_fault cX12_fault 1 (some .int) ∈ wsL_law := ch_32 _ (List.mem_of_getElem? (i := 16) rfl)
theorem m_32_17 : Cond.methodLink RL 87 yX11_bundle ∈ wsL_law := ch_32 _ (List.mem_of_getElem? (i := 17) rfl)
theorem m_32_18 : Cond.instanceMethod yX11_bundle ∈ wsL_law := ch_32 _ (List.mem_of_getElem? (i := 18) rfl)
theorem m_32_19 : Cond.selects RX11 yX11_bundle yX11_bundle ∈ wsL_law := ch_32 _ (List.mem_of_getElem? (i := 19) rfl)
theorem m_32_20 : Cond.code yX11_bundle cX11_bundle 7 (some .int) ∈ wsL_law := ch_32 _ (List.mem_of_getElem? (i := 20) rfl)
theorem m_36_1 : Cond.methodLink RL 90 yX12_bundle ∈ wsL_law := ch_36 _ (List.mem_of_getElem? (i := 1) rfl)
theorem m_36_2 : Cond.instanceMethod yX12_bundle ∈ wsL_law := ch_36 _ (List.mem_of_getElem? (i := 2) rfl)
theorem m_36_3 : Cond.selects RX12 yX12_bundle yX12_bundle ∈ wsL_law := ch_36 _ (List.mem_of_getElem? (i := 3) rfl)
theorem m_36_4 : Cond.code yX12_bundle cX12_bundle 8 (some .int) ∈ wsL_law := ch_36 _ (List.mem_of_getElem? (i := 4) rfl)
theorem m_37_4 : Cond.methodLink RL 91 yX11_told ∈ wsL_law := ch_37 _ (List.mem_of_getElem? (i := 4) rfl)
theorem m_37_5 : Cond.instanceMethod yX11_told ∈ wsL_law := ch_37 _ (List.mem_of_getElem? (i := 5) rfl)
theorem m_37_6 : Cond.selects RX11 yX11_told yX11_told ∈ wsL_law := ch_37 _ (List.mem_of_getElem? (i := 6) rfl)
theorem m_37_7 : Cond.code yX11_told cX11_told 5 (some .int) ∈ wsL_law := ch_37 _ (List.mem_of_getElem? (i := 7) rfl)
theorem m_37_18 : Cond.methodLink RL 94 yX12_told ∈ wsL_law := ch_37 _ (List.mem_of_getElem? (i := 18) rfl)
theorem m_37_19 : Cond.instanceMethod yX12_told ∈ wsL_law := ch_37 _ (List.mem_of_getElem? (i := 19) rfl)
theorem m_37_20 : Cond.selects RX12 yX12_told yX12_told ∈ wsL_law := ch_37 _ (List.mem_of_getElem? (i := 20) rfl)
theorem m_37_21 : Cond.code yX12_told cX12_told 4 (some .int) ∈ wsL_law := ch_37 _ (List.mem_of_getElem? (i := 21) rfl)
theorem m_38_2 : Cond.methodLink RL 95 yX11_why ∈ wsL_law := ch_38 _ (List.mem_of_getElem? (i := 2) rfl)
theorem m_38_3 : Cond.instanceMethod yX11_why ∈ wsL_law := ch_38 _ (List.mem_of_getElem? (i := 3) rfl)
theorem m_38_4 : Cond.selects RX11 yX11_why yX11_why ∈ wsL_law := ch_38 _ (List.mem_of_getElem? (i := 4) rfl)
theorem m_38_5 : Cond.code yX11_why cX11_why 1 (some .int) ∈ wsL_law := ch_38 _ (List.mem_of_getElem? (i := 5) rfl)
theorem m_38_6 : Cond.methodLink RL 98 yX12_why ∈ wsL_law := ch_38 _ (List.mem_of_getElem? (i := 6) rfl)
theorem m_38_7 : Cond.instanceMethod yX12_why ∈ wsL_law := ch_38 _ (List.mem_of_getElem? (i := 7) rfl)
theorem m_38_8 : Cond.selects RX12 yX12_why yX12_why ∈ wsL_law := ch_38 _ (List.mem_of_getElem? (i := 8) rfl)
theorem m_38_9 : Cond.code yX12_why cX12_why 1 (some .int) ∈ wsL_law := ch_38 _ (List.mem_of_getElem? (i := 9) rfl)
theorem m_38_10 : Cond.methodLink RL 99 yX11_close ∈ wsL_law := ch_38 _ (List.mem_of_getElem? (i := 10) rfl)
theorem m_38_11 : Cond.instanceMethod yX11_close ∈ wsL_law := ch_38 _ (List.mem_of_getElem? (i := 11) rfl)
theorem m_38_12 : Cond.selects RX11 yX11_close yX11_close ∈ wsL_law := ch_38 _ (List.mem_of_getElem? (i := 12) rfl)
theorem m_38_13 : Cond.code yX11_close cX11_close 1 (some .int) ∈ wsL_law := ch_38 _ (List.mem_of_getElem? (i := 13) rfl)
theorem m_40_16 : Cond.methodLink RL 102 yX12_close ∈ wsL_law := ch_40 _ (List.mem_of_getElem? (i := 16) rfl)
theorem m_40_17 : Cond.instanceMethod yX12_close ∈ wsL_law := ch_40 _ (List.mem_of_getElem? (i := 17) rfl)
theorem m_40_18 : Cond.selects RX12 yX12_close yX12_close ∈ wsL_law := ch_40 _ (List.mem_of_getElem? (i := 18) rfl)
theorem m_40_19 : Cond.code yX12_close cX12_close 4 (some .int) ∈ wsL_law := ch_40 _ (List.mem_of_getElem? (i := 19) rfl)
theorem m_42_3 : Cond.methodLink RL 108 yX12_of ∈ wsL_law := ch_42 _ (List.mem_of_getElem? (i := 3) rfl)
theorem m_42_4 : Cond.instanceMethod yX12_of ∈ wsL_law := ch_42 _ (List.mem_of_getElem? (i := 4) rfl)
theorem m_42_5 : Cond.selects RX12 yX12_of yX12_of ∈ wsL_law := ch_42 _ (List.mem_of_getElem? (i := 5) rfl)
theorem m_42_6 : Cond.code yX12_of cX12_of 3 (some .int) ∈ wsL_law := ch_42 _ (List.mem_of_getElem? (i := 6) rfl)
theorem m_42_18 : Cond.methodLink RL 112 yX12_coin ∈ wsL_law := ch_42 _ (List.mem_of_getElem? (i := 18) rfl)
theorem m_42_19 : Cond.instanceMethod yX12_coin ∈ wsL_law := ch_42 _ (List.mem_of_getElem? (i := 19) rfl)
theorem m_42_20 : Cond.selects RX12 yX12_coin yX12_coin ∈ wsL_law := ch_42 _ (List.mem_of_getElem? (i := 20) rfl)
theorem m_42_21 : Cond.code yX12_coin cX12_coin 2 (some .int) ∈ wsL_law := ch_42 _ (List.mem_of_getElem? (i := 21) rfl)
theorem m_42_22 : Cond.methodLink RL 113 yX11_counted ∈ wsL_law := ch_42 _ (List.mem_of_getElem? (i := 22) rfl)
theorem m_43_0 : Cond.instanceMethod yX11_counted ∈ wsL_law := ch_43 _ (List.mem_of_getElem? (i := 0) rfl)
theorem m_43_1 : Cond.selects RX11 yX11_counted yX11_counted ∈ wsL_law := ch_43 _ (List.mem_of_getElem? (i := 1) rfl)
theorem m_43_2 : Cond.code yX11_counted cX11_counted 5 (some .int) ∈ wsL_law := ch_43 _ (List.mem_of_getElem? (i := 2) rfl)
theorem m_43_9 : Cond.methodLink RL 116 yX12_counted ∈ wsL_law := ch_43 _ (List.mem_of_getElem? (i := 9) rfl)
theorem m_43_10 : Cond.instanceMethod yX12_counted ∈ wsL_law := ch_43 _ (List.mem_of_getElem? (i := 10) rfl)
theorem m_43_11 : Cond.selects RX12 yX12_counted yX12_counted ∈ wsL_law := ch_43 _ (List.mem_of_getElem? (i := 11) rfl)
theorem m_43_12 : Cond.code yX12_counted cX12_counted 5 (some .int) ∈ wsL_law := ch_43 _ (List.mem_of_getElem? (i := 12) rfl)
theorem m_43_14 : Cond.methodLink RL 117 yX11_falseCounts ∈ wsL_law := ch_43 _ (List.mem_of_getElem? (i := 14) rfl)
theorem m_43_15 : Cond.instanceMethod yX11_falseCounts ∈ wsL_law := ch_43 _ (List.mem_of_getElem? (i := 15) rfl)
theorem m_43_16 : Cond.selects RX11 yX11_falseCounts yX11_falseCounts ∈ wsL_law := ch_43 _ (List.mem_of_getElem? (i := 16) rfl)
theorem m_43_17 : Cond.code yX11_falseCounts cX11_falseCounts 2 (some .int) ∈ wsL_law := ch_43 _ (List.mem_of_getElem? (i := 17) rfl)
theorem m_44_6 : Cond.methodLink RL 120 yX12_falseCounts ∈ wsL_law := ch_44 _ (List.mem_of_getElem? (i := 6) rfl)
theorem m_44_7 : Cond.instanceMethod yX12_falseCounts ∈ wsL_law := ch_44 _ (List.mem_of_getElem? (i := 7) rfl)
theorem m_44_8 : Cond.selects RX12 yX12_falseCounts yX12_falseCounts ∈ wsL_law := ch_44 _ (List.mem_of_getElem? (i := 8) rfl)
theorem m_44_9 : Cond.code yX12_falseCounts cX12_falseCounts 7 (some .int) ∈ wsL_law := ch_44 _ (List.mem_of_getElem? (i := 9) rfl)
theorem m_44_18 : Cond.methodLink RL 121 yX11_shortOf ∈ wsL_law := ch_44 _ (List.mem_of_getElem? (i := 18) rfl)
theorem m_44_19 : Cond.instanceMethod yX11_shortOf ∈ wsL_law := ch_44 _ (List.mem_of_getElem? (i := 19) rfl)
theorem m_44_20 : Cond.selects RX11 yX11_shortOf yX11_shortOf ∈ wsL_law := ch_44 _ (List.mem_of_getElem? (i := 20) rfl)
theorem m_44_21 : Cond.code yX11_shortOf cX11_shortOf 2 (some .int) ∈ wsL_law := ch_44 _ (List.mem_of_getElem? (i := 21) rfl)
theorem m_45_17 : Cond.methodLink RL 124 yX12_shortOf ∈ wsL_law := ch_45 _ (List.mem_of_getElem? (i := 17) rfl)
theorem m_45_18 : Cond.instanceMethod yX12_shortOf ∈ wsL_law := ch_45 _ (List.mem_of_getElem? (i := 18) rfl)
theorem m_45_19 : Cond.selects RX12 yX12_shortOf yX12_shortOf ∈ wsL_law := ch_45 _ (List.mem_of_getElem? (i := 19) rfl)
theorem m_45_20 : Cond.code yX12_shortOf cX12_shortOf 9 (some .int) ∈ wsL_law := ch_45 _ (List.mem_of_getElem? (i := 20) rfl)
theorem m_46_1 : Cond.methodLink RL 125 yX11_best ∈ wsL_law := ch_46 _ (List.mem_of_getElem? (i := 1) rfl)
theorem m_46_2 : Cond.instanceMethod yX11_best ∈ wsL_law := ch_46 _ (List.mem_of_getElem? (i := 2) rfl)
theorem m_46_3 : Cond.selects RX11 yX11_best yX11_best ∈ wsL_law := ch_46 _ (List.mem_of_getElem? (i := 3) rfl)
theorem m_46_4 : Cond.code yX11_best cX11_best 7 (some .int) ∈ wsL_law := ch_46 _ (List.mem_of_getElem? (i := 4) rfl)
theorem m_47_0 : Cond.methodLink RL 128 yX12_best ∈ wsL_law := ch_47 _ (List.mem_of_getElem? (i := 0) rfl)
theorem m_47_1 : Cond.instanceMethod yX12_best ∈ wsL_law := ch_47 _ (List.mem_of_getElem? (i := 1) rfl)
theorem m_47_2 : Cond.selects RX12 yX12_best yX12_best ∈ wsL_law := ch_47 _ (List.mem_of_getElem? (i := 2) rfl)
theorem m_47_3 : Cond.code yX12_best cX12_best 19 (some .int) ∈ wsL_law := ch_47 _ (List.mem_of_getElem? (i := 3) rfl)
theorem m_47_5 : Cond.methodLink RL 129 yX11_expected ∈ wsL_law := ch_47 _ (List.mem_of_getElem? (i := 5) rfl)
theorem m_47_6 : Cond.instanceMethod yX11_expected ∈ wsL_law := ch_47 _ (List.mem_of_getElem? (i := 6) rfl)
theorem m_47_7 : Cond.selects RX11 yX11_expected yX11_expected ∈ wsL_law := ch_47 _ (List.mem_of_getElem? (i := 7) rfl)
theorem m_47_8 : Cond.code yX11_expected cX11_expected 1 (some .long) ∈ wsL_law := ch_47 _ (List.mem_of_getElem? (i := 8) rfl)
theorem m_47_10 : Cond.methodLink RL 133 yX12_expected ∈ wsL_law := ch_47 _ (List.mem_of_getElem? (i := 10) rfl)
theorem m_47_11 : Cond.instanceMethod yX12_expected ∈ wsL_law := ch_47 _ (List.mem_of_getElem? (i := 11) rfl)
theorem m_47_12 : Cond.selects RX12 yX12_expected yX12_expected ∈ wsL_law := ch_47 _ (List.mem_of_getElem? (i := 12) rfl)
theorem m_47_13 : Cond.code yX12_expected cX12_expected 1 (some .long) ∈ wsL_law := ch_47 _ (List.mem_of_getElem? (i := 13) rfl)
theorem m_47_14 : Cond.methodLink RL 134 yX11_tried ∈ wsL_law := ch_47 _ (List.mem_of_getElem? (i := 14) rfl)
theorem m_47_15 : Cond.instanceMethod yX11_tried ∈ wsL_law := ch_47 _ (List.mem_of_getElem? (i := 15) rfl)
theorem m_47_16 : Cond.selects RX11 yX11_tried yX11_tried ∈ wsL_law := ch_47 _ (List.mem_of_getElem? (i := 16) rfl)
theorem m_47_17 : Cond.code yX11_tried cX11_tried 1 (some .int) ∈ wsL_law := ch_47 _ (List.mem_of_getElem? (i := 17) rfl)
theorem m_48_3 : Cond.methodLink RL 137 yX12_tried ∈ wsL_law := ch_48 _ (List.mem_of_getElem? (i := 3) rfl)
theorem m_48_4 : Cond.instanceMethod yX12_tried ∈ wsL_law := ch_48 _ (List.mem_of_getElem? (i := 4) rfl)
theorem m_48_5 : Cond.selects RX12 yX12_tried yX12_tried ∈ wsL_law := ch_48 _ (List.mem_of_getElem? (i := 5) rfl)
theorem m_48_6 : Cond.code yX12_tried cX12_tried 5 (some .int) ∈ wsL_law := ch_48 _ (List.mem_of_getElem? (i := 6) rfl)
theorem m_48_12 : Cond.methodLink RL 138 yX11_triedEaten ∈ wsL_law := ch_48 _ (List.mem_of_getElem? (i := 12) rfl)
theorem m_48_13 : Cond.instanceMethod yX11_triedEaten ∈ wsL_law := ch_48 _ (List.mem_of_getElem? (i := 13) rfl)
theorem m_48_14 : Cond.selects RX11 yX11_triedEaten yX11_triedEaten ∈ wsL_law := ch_48 _ (List.mem_of_getElem? (i := 14) rfl)
theorem m_48_15 : Cond.code yX11_triedEaten cX11_triedEaten 1 (some .int) ∈ wsL_law := ch_48 _ (List.mem_of_getElem? (i := 15) rfl)
theorem m_48_16 : Cond.methodLink RL 141 yX12_triedEaten ∈ wsL_law := ch_48 _ (List.mem_of_getElem? (i := 16) rfl)
theorem m_48_17 : Cond.instanceMethod yX12_triedEaten ∈ wsL_law := ch_48 _ (List.mem_of_getElem? (i := 17) rfl)
theorem m_48_18 : Cond.selects RX12 yX12_triedEaten yX12_triedEaten ∈ wsL_law := ch_48 _ (List.mem_of_getElem? (i := 18) rfl)
theorem m_48_19 : Cond.code yX12_triedEaten cX12_triedEaten 1 (some .int) ∈ wsL_law := ch_48 _ (List.mem_of_getElem? (i := 19) rfl)
theorem m_48_20 : Cond.methodLink RL 142 yX11_parted ∈ wsL_law := ch_48 _ (List.mem_of_getElem? (i := 20) rfl)
theorem m_48_21 : Cond.instanceMethod yX11_parted ∈ wsL_law := ch_48 _ (List.mem_of_getElem? (i := 21) rfl)
theorem m_48_22 : Cond.selects RX11 yX11_parted yX11_parted ∈ wsL_law := ch_48 _ (List.mem_of_getElem? (i := 22) rfl)
theorem m_48_23 : Cond.code yX11_parted cX11_parted 6 (some .int) ∈ wsL_law := ch_48 _ (List.mem_of_getElem? (i := 23) rfl)
theorem m_51_16 : Cond.methodLink RL 146 yX12_parted ∈ wsL_law := ch_51 _ (List.mem_of_getElem? (i := 16) rfl)
theorem m_51_17 : Cond.instanceMethod yX12_parted ∈ wsL_law := ch_51 _ (List.mem_of_getElem? (i := 17) rfl)
theorem m_51_18 : Cond.selects RX12 yX12_parted yX12_parted ∈ wsL_law := ch_51 _ (List.mem_of_getElem? (i := 18) rfl)
theorem m_51_19 : Cond.code yX12_parted cX12_parted 7 (some .int) ∈ wsL_law := ch_51 _ (List.mem_of_getElem? (i := 19) rfl)
theorem m_52_16 : Cond.methodLink RL 147 yX11_partedAt ∈ wsL_law := ch_52 _ (List.mem_of_getElem? (i := 16) rfl)
theorem m_52_17 : Cond.instanceMethod yX11_partedAt ∈ wsL_law := ch_52 _ (List.mem_of_getElem? (i := 17) rfl)
theorem m_52_18 : Cond.selects RX11 yX11_partedAt yX11_partedAt ∈ wsL_law := ch_52 _ (List.mem_of_getElem? (i := 18) rfl)
theorem m_52_19 : Cond.code yX11_partedAt cX11_partedAt 2 (some .int) ∈ wsL_law := ch_52 _ (List.mem_of_getElem? (i := 19) rfl)
theorem m_52_22 : Cond.methodLink RL 150 yX12_partedAt ∈ wsL_law := ch_52 _ (List.mem_of_getElem? (i := 22) rfl)
theorem m_52_23 : Cond.instanceMethod yX12_partedAt ∈ wsL_law := ch_52 _ (List.mem_of_getElem? (i := 23) rfl)
theorem m_53_0 : Cond.selects RX12 yX12_partedAt yX12_partedAt ∈ wsL_law := ch_53 _ (List.mem_of_getElem? (i := 0) rfl)
theorem m_53_1 : Cond.code yX12_partedAt cX12_partedAt 2 (some .int) ∈ wsL_law := ch_53 _ (List.mem_of_getElem? (i := 1) rfl)
theorem m_53_2 : Cond.methodLink RL 151 yX11_peace ∈ wsL_law := ch_53 _ (List.mem_of_getElem? (i := 2) rfl)
theorem m_53_3 : Cond.instanceMethod yX11_peace ∈ wsL_law := ch_53 _ (List.mem_of_getElem? (i := 3) rfl)
theorem m_53_4 : Cond.selects RX11 yX11_peace yX11_peace ∈ wsL_law := ch_53 _ (List.mem_of_getElem? (i := 4) rfl)
theorem m_53_5 : Cond.code yX11_peace cX11_peace 2 (some .int) ∈ wsL_law := ch_53 _ (List.mem_of_getElem? (i := 5) rfl)
theorem m_53_10 : Cond.methodLink RL 154 yX12_peace ∈ wsL_law := ch_53 _ (List.mem_of_getElem? (i := 10) rfl)
theorem m_53_11 : Cond.instanceMethod yX12_peace ∈ wsL_law := ch_53 _ (List.mem_of_getElem? (i := 11) rfl)
theorem m_53_12 : Cond.selects RX12 yX12_peace yX12_peace ∈ wsL_law := ch_53 _ (List.mem_of_getElem? (i := 12) rfl)
theorem m_53_13 : Cond.code yX12_peace cX12_peace 2 (some .int) ∈ wsL_law := ch_53 _ (List.mem_of_getElem? (i := 13) rfl)
theorem m_53_14 : Cond.methodLink RL 155 yX11_truck ∈ wsL_law := ch_53 _ (List.mem_of_getElem? (i := 14) rfl)
theorem m_53_15 : Cond.instanceMethod yX11_truck ∈ wsL_law := ch_53 _ (List.mem_of_getElem? (i := 15) rfl)
theorem m_53_16 : Cond.selects RX11 yX11_truck yX11_truck ∈ wsL_law := ch_53 _ (List.mem_of_getElem? (i := 16) rfl)
theorem m_53_17 : Cond.code yX11_truck cX11_truck 2 (some .int) ∈ wsL_law := ch_53 _ (List.mem_of_getElem? (i := 17) rfl)
theorem m_55_10 : Cond.methodLink RL 158 yX12_truck ∈ wsL_law := ch_55 _ (List.mem_of_getElem? (i := 10) rfl)
theorem m_55_11 : Cond.instanceMethod yX12_truck ∈ wsL_law := ch_55 _ (List.mem_of_getElem? (i := 11) rfl)
theorem m_55_12 : Cond.selects RX12 yX12_truck yX12_truck ∈ wsL_law := ch_55 _ (List.mem_of_getElem? (i := 12) rfl)
theorem m_55_13 : Cond.code yX12_truck cX12_truck 7 (some .int) ∈ wsL_law := ch_55 _ (List.mem_of_getElem? (i := 13) rfl)
theorem m_56_2 : Cond.methodLink RL 159 yX11_truckAt ∈ wsL_law := ch_56 _ (List.mem_of_getElem? (i := 2) rfl)
theorem m_56_3 : Cond.instanceMethod yX11_truckAt ∈ wsL_law := ch_56 _ (List.mem_of_getElem? (i := 3) rfl)
theorem m_56_4 : Cond.selects RX11 yX11_truckAt yX11_truckAt ∈ wsL_law := ch_56 _ (List.mem_of_getElem? (i := 4) rfl)
theorem m_56_5 : Cond.code yX11_truckAt cX11_truckAt 2 (some .int) ∈ wsL_law := ch_56 _ (List.mem_of_getElem? (i := 5) rfl)
theorem m_56_8 : Cond.methodLink RL 162 yX12_truckAt ∈ wsL_law := ch_56 _ (List.mem_of_getElem? (i := 8) rfl)
theorem m_56_9 : Cond.instanceMethod yX12_truckAt ∈ wsL_law := ch_56 _ (List.mem_of_getElem? (i := 9) rfl)
theorem m_56_10 : Cond.selects RX12 yX12_truckAt yX12_truckAt ∈ wsL_law := ch_56 _ (List.mem_of_getElem? (i := 10) rfl)
theorem m_56_11 : Cond.code yX12_truckAt cX12_truckAt 2 (some .int) ∈ wsL_law := ch_56 _ (List.mem_of_getElem? (i := 11) rfl)
theorem m_56_12 : Cond.methodLink RL 163 yX11_strike ∈ wsL_law := ch_56 _ (List.mem_of_getElem? (i := 12) rfl)
theorem m_56_13 : Cond.instanceMethod yX11_strike ∈ wsL_law := ch_56 _ (List.mem_of_getElem? (i := 13) rfl)
theorem m_56_14 : Cond.selects RX11 yX11_strike yX11_strike ∈ wsL_law := ch_56 _ (List.mem_of_getElem? (i := 14) rfl)
theorem m_56_15 : Cond.code yX11_strike cX11_strike 7 (some .int) ∈ wsL_law := ch_56 _ (List.mem_of_getElem? (i := 15) rfl)
theorem m_57_5 : Cond.methodLink RL 166 yX12_strike ∈ wsL_law := ch_57 _ (List.mem_of_getElem? (i := 5) rfl)
theorem m_57_6 : Cond.instanceMethod yX12_strike ∈ wsL_law := ch_57 _ (List.mem_of_getElem? (i := 6) rfl)
theorem m_57_7 : Cond.selects RX12 yX12_strike yX12_strike ∈ wsL_law := ch_57 _ (List.mem_of_getElem? (i := 7) rfl)
theorem m_57_8 : Cond.code yX12_strike cX12_strike 13 (some .int) ∈ wsL_law := ch_57 _ (List.mem_of_getElem? (i := 8) rfl)
theorem m_57_12 : Cond.methodLink RL 167 yX11_struck ∈ wsL_law := ch_57 _ (List.mem_of_getElem? (i := 12) rfl)
theorem m_57_13 : Cond.instanceMethod yX11_struck ∈ wsL_law := ch_57 _ (List.mem_of_getElem? (i := 13) rfl)
theorem m_57_14 : Cond.selects RX11 yX11_struck yX11_struck ∈ wsL_law := ch_57 _ (List.mem_of_getElem? (i := 14) rfl)
theorem m_57_15 : Cond.code yX11_struck cX11_struck 2 (some .int) ∈ wsL_law := ch_57 _ (List.mem_of_getElem? (i := 15) rfl)
theorem m_57_16 : Cond.methodLink RL 170 yX12_struck ∈ wsL_law := ch_57 _ (List.mem_of_getElem? (i := 16) rfl)
theorem m_57_17 : Cond.instanceMethod yX12_struck ∈ wsL_law := ch_57 _ (List.mem_of_getElem? (i := 17) rfl)
theorem m_57_18 : Cond.selects RX12 yX12_struck yX12_struck ∈ wsL_law := ch_57 _ (List.mem_of_getElem? (i := 18) rfl)
theorem m_57_19 : Cond.code yX12_struck cX12_struck 2 (some .int) ∈ wsL_law := ch_57 _ (List.mem_of_getElem? (i := 19) rfl)
theorem m_57_20 : Cond.methodLink RL 171 yX11_count ∈ wsL_law := ch_57 _ (List.mem_of_getElem? (i := 20) rfl)
theorem m_57_21 : Cond.instanceMethod yX11_count ∈ wsL_law := ch_57 _ (List.mem_of_getElem? (i := 21) rfl)
theorem m_57_22 : Cond.selects RX11 yX11_count yX11_count ∈ wsL_law := ch_57 _ (List.mem_of_getElem? (i := 22) rfl)
theorem m_57_23 : Cond.code yX11_count cX11_count 2 (some .int) ∈ wsL_law := ch_57 _ (List.mem_of_getElem? (i := 23) rfl)
theorem m_58_0 : Cond.methodLink RL 174 yX12_count ∈ wsL_law := ch_58 _ (List.mem_of_getElem? (i := 0) rfl)
theorem m_58_1 : Cond.instanceMethod yX12_count ∈ wsL_law := ch_58 _ (List.mem_of_getElem? (i := 1) rfl)
theorem m_58_2 : Cond.selects RX12 yX12_count yX12_count ∈ wsL_law := ch_58 _ (List.mem_of_getElem? (i := 2) rfl)
theorem m_58_3 : Cond.code yX12_count cX12_count 2 (some .int) ∈ wsL_law := ch_58 _ (List.mem_of_getElem? (i := 3) rfl)
theorem dL_law_0 : decode cL_law 0 = .ok (.new 8, 3) := by decide +kernel
theorem dL_law_3 : decode cL_law 3 = .ok (.dup, 1) := by decide +kernel
theorem dL_law_4 : decode cL_law 4 = .ok (.invokespecial 19, 3) := by decide +kernel
theorem dL_law_7 : decode cL_law 7 = .ok (.astore_n 1, 1) := by decide +kernel
theorem dL_law_8 : decode cL_law 8 = .ok (.new 20, 3) := by decide +kernel
theorem dL_law_11 : decode cL_law 11 = .ok (.dup, 1) := by decide +kernel
theorem dL_law_12 : decode cL_law 12 = .ok (.invokespecial 22, 3) := by decide +kernel
theorem dL_law_15 : decode cL_law 15 = .ok (.astore_n 2, 1) := by decide +kernel
theorem dL_law_16 : decode cL_law 16 = .ok (.iconst 1, 1) := by decide +kernel
theorem dL_law_17 : decode cL_law 17 = .ok (.newarray .long, 2) := by decide +kernel
theorem dL_law_19 : decode cL_law 19 = .ok (.astore_n 3, 1) := by decide +kernel
theorem dL_law_20 : decode cL_law 20 = .ok (.iconst 0, 1) := by decide +kernel
theorem dL_law_21 : decode cL_law 21 = .ok (.istore 4, 2) := by decide +kernel
theorem dL_law_23 : decode cL_law 23 = .ok (.iload 4, 2) := by decide +kernel
theorem dL_law_25 : decode cL_law 25 = .ok (.aload_n 0, 1) := by decide +kernel
theorem dL_law_26 : decode cL_law 26 = .ok (.arraylength, 1) := by decide +kernel
theorem dL_law_27 : decode cL_law 27 = .ok (.bipush 6, 2) := by decide +kernel
theorem dL_law_29 : decode cL_law 29 = .ok (.isub, 1) := by decide +kernel
theorem dL_law_30 : decode cL_law 30 = .ok (.if_icmp .gt 1441, 3) := by decide +kernel
theorem dL_law_33 : decode cL_law 33 = .ok (.aload_n 0, 1) := by decide +kernel
theorem dL_law_34 : decode cL_law 34 = .ok (.iload 4, 2) := by decide +kernel
theorem dL_law_36 : decode cL_law 36 = .ok (.iaload, 1) := by decide +kernel
theorem dL_law_37 : decode cL_law 37 = .ok (.bipush 63, 2) := by decide +kernel
theorem dL_law_39 : decode cL_law 39 = .ok (.iand, 1) := by decide +kernel
theorem dL_law_40 : decode cL_law 40 = .ok (.tableswitch 1425 0 34 #[156, 229, 254, 331, 368, 405, 418, 443, 492, 541, 590, 651, 700, 725, 738, 811, 848, 861, 874, 914, 942, 1003, 1028, 1053, 1126, 1139, 1152, 1165, 1214, 1239, 1264, 1277, 1302, 1375, 1400], 156) := by decide +kernel
theorem dL_law_196 : decode cL_law 196 = .ok (.aload_n 1, 1) := by decide +kernel
theorem dL_law_197 : decode cL_law 197 = .ok (.aload_n 0, 1) := by decide +kernel
theorem dL_law_198 : decode cL_law 198 = .ok (.iload 4, 2) := by decide +kernel
theorem dL_law_200 : decode cL_law 200 = .ok (.iconst 1, 1) := by decide +kernel
theorem dL_law_201 : decode cL_law 201 = .ok (.iadd, 1) := by decide +kernel
theorem dL_law_202 : decode cL_law 202 = .ok (.iaload, 1) := by decide +kernel
theorem dL_law_203 : decode cL_law 203 = .ok (.aload_n 0, 1) := by decide +kernel
theorem dL_law_204 : decode cL_law 204 = .ok (.iload 4, 2) := by decide +kernel
theorem dL_law_206 : decode cL_law 206 = .ok (.iconst 2, 1) := by decide +kernel
theorem dL_law_207 : decode cL_law 207 = .ok (.iadd, 1) := by decide +kernel
theorem dL_law_208 : decode cL_law 208 = .ok (.iaload, 1) := by decide +kernel
theorem dL_law_209 : decode cL_law 209 = .ok (.aload_n 0, 1) := by decide +kernel
theorem dL_law_210 : decode cL_law 210 = .ok (.iload 4, 2) := by decide +kernel
theorem dL_law_212 : decode cL_law 212 = .ok (.iconst 3, 1) := by decide +kernel
theorem dL_law_213 : decode cL_law 213 = .ok (.iadd, 1) := by decide +kernel
theorem dL_law_214 : decode cL_law 214 = .ok (.iaload, 1) := by decide +kernel
theorem dL_law_215 : decode cL_law 215 = .ok (.aload_n 0, 1) := by decide +kernel
theorem dL_law_216 : decode cL_law 216 = .ok (.iload 4, 2) := by decide +kernel
theorem dL_law_218 : decode cL_law 218 = .ok (.iconst 4, 1) := by decide +kernel
theorem dL_law_219 : decode cL_law 219 = .ok (.iadd, 1) := by decide +kernel
theorem dL_law_220 : decode cL_law 220 = .ok (.iaload, 1) := by decide +kernel
theorem dL_law_221 : decode cL_law 221 = .ok (.aload_n 0, 1) := by decide +kernel
theorem dL_law_222 : decode cL_law 222 = .ok (.iload 4, 2) := by decide +kernel
theorem dL_law_224 : decode cL_law 224 = .ok (.iconst 5, 1) := by decide +kernel
theorem dL_law_225 : decode cL_law 225 = .ok (.iadd, 1) := by decide +kernel
theorem dL_law_226 : decode cL_law 226 = .ok (.iaload, 1) := by decide +kernel
theorem dL_law_227 : decode cL_law 227 = .ok (.invokevirtual 23, 3) := by decide +kernel
theorem dL_law_230 : decode cL_law 230 = .ok (.pop, 1) := by decide +kernel
theorem dL_law_231 : decode cL_law 231 = .ok (.aload_n 2, 1) := by decide +kernel
theorem dL_law_232 : decode cL_law 232 = .ok (.aload_n 0, 1) := by decide +kernel
theorem dL_law_233 : decode cL_law 233 = .ok (.iload 4, 2) := by decide +kernel
theorem dL_law_235 : decode cL_law 235 = .ok (.iconst 1, 1) := by decide +kernel
theorem dL_law_236 : decode cL_law 236 = .ok (.iadd, 1) := by decide +kernel
theorem dL_law_237 : decode cL_law 237 = .ok (.iaload, 1) := by decide +kernel
theorem dL_law_238 : decode cL_law 238 = .ok (.aload_n 0, 1) := by decide +kernel
theorem dL_law_239 : decode cL_law 239 = .ok (.iload 4, 2) := by decide +kernel
theorem dL_law_241 : decode cL_law 241 = .ok (.iconst 2, 1) := by decide +kernel
theorem dL_law_242 : decode cL_law 242 = .ok (.iadd, 1) := by decide +kernel
theorem dL_law_243 : decode cL_law 243 = .ok (.iaload, 1) := by decide +kernel
theorem dL_law_244 : decode cL_law 244 = .ok (.aload_n 0, 1) := by decide +kernel
theorem dL_law_245 : decode cL_law 245 = .ok (.iload 4, 2) := by decide +kernel
theorem dL_law_247 : decode cL_law 247 = .ok (.iconst 3, 1) := by decide +kernel
theorem dL_law_248 : decode cL_law 248 = .ok (.iadd, 1) := by decide +kernel
theorem dL_law_249 : decode cL_law 249 = .ok (.iaload, 1) := by decide +kernel
theorem dL_law_250 : decode cL_law 250 = .ok (.aload_n 0, 1) := by decide +kernel
theorem dL_law_251 : decode cL_law 251 = .ok (.iload 4, 2) := by decide +kernel
theorem dL_law_253 : decode cL_law 253 = .ok (.iconst 4, 1) := by decide +kernel
theorem dL_law_254 : decode cL_law 254 = .ok (.iadd, 1) := by decide +kernel
theorem dL_law_255 : decode cL_law 255 = .ok (.iaload, 1) := by decide +kernel
theorem dL_law_256 : decode cL_law 256 = .ok (.aload_n 0, 1) := by decide +kernel
theorem dL_law_257 : decode cL_law 257 = .ok (.iload 4, 2) := by decide +kernel
theorem dL_law_259 : decode cL_law 259 = .ok (.iconst 5, 1) := by decide +kernel
theorem dL_law_260 : decode cL_law 260 = .ok (.iadd, 1) := by decide +kernel
theorem dL_law_261 : decode cL_law 261 = .ok (.iaload, 1) := by decide +kernel
theorem dL_law_262 : decode cL_law 262 = .ok (.invokevirtual 27, 3) := by decide +kernel
theorem dL_law_265 : decode cL_law 265 = .ok (.pop, 1) := by decide +kernel
theorem dL_law_266 : decode cL_law 266 = .ok (.goto 1199, 3) := by decide +kernel
theorem dL_law_269 : decode cL_law 269 = .ok (.aload_n 1, 1) := by decide +kernel
theorem dL_law_270 : decode cL_law 270 = .ok (.aload_n 0, 1) := by decide +kernel
theorem dL_law_271 : decode cL_law 271 = .ok (.iload 4, 2) := by decide +kernel
theorem dL_law_273 : decode cL_law 273 = .ok (.iconst 1, 1) := by decide +kernel
theorem dL_law_274 : decode cL_law 274 = .ok (.iadd, 1) := by decide +kernel
theorem dL_law_275 : decode cL_law 275 = .ok (.iaload, 1) := by decide +kernel
theorem dL_law_276 : decode cL_law 276 = .ok (.invokevirtual 28, 3) := by decide +kernel
theorem dL_law_279 : decode cL_law 279 = .ok (.pop, 1) := by decide +kernel
theorem dL_law_280 : decode cL_law 280 = .ok (.aload_n 2, 1) := by decide +kernel
theorem dL_law_281 : decode cL_law 281 = .ok (.aload_n 0, 1) := by decide +kernel
theorem dL_law_282 : decode cL_law 282 = .ok (.iload 4, 2) := by decide +kernel
theorem dL_law_284 : decode cL_law 284 = .ok (.iconst 1, 1) := by decide +kernel
theorem dL_law_285 : decode cL_law 285 = .ok (.iadd, 1) := by decide +kernel
theorem dL_law_286 : decode cL_law 286 = .ok (.iaload, 1) := by decide +kernel
theorem dL_law_287 : decode cL_law 287 = .ok (.invokevirtual 32, 3) := by decide +kernel
theorem dL_law_290 : decode cL_law 290 = .ok (.pop, 1) := by decide +kernel
theorem dL_law_291 : decode cL_law 291 = .ok (.goto 1174, 3) := by decide +kernel
theorem dL_law_294 : decode cL_law 294 = .ok (.aload_n 1, 1) := by decide +kernel
theorem dL_law_295 : decode cL_law 295 = .ok (.aload_n 0, 1) := by decide +kernel
theorem dL_law_296 : decode cL_law 296 = .ok (.iload 4, 2) := by decide +kernel
theorem dL_law_298 : decode cL_law 298 = .ok (.iconst 1, 1) := by decide +kernel
theorem dL_law_299 : decode cL_law 299 = .ok (.iadd, 1) := by decide +kernel
theorem dL_law_300 : decode cL_law 300 = .ok (.iaload, 1) := by decide +kernel
theorem dL_law_301 : decode cL_law 301 = .ok (.aload_n 0, 1) := by decide +kernel
theorem dL_law_302 : decode cL_law 302 = .ok (.iload 4, 2) := by decide +kernel
theorem dL_law_304 : decode cL_law 304 = .ok (.iconst 2, 1) := by decide +kernel
theorem dL_law_305 : decode cL_law 305 = .ok (.iadd, 1) := by decide +kernel
theorem dL_law_306 : decode cL_law 306 = .ok (.iaload, 1) := by decide +kernel
theorem dL_law_307 : decode cL_law 307 = .ok (.ifCond .eq 7, 3) := by decide +kernel
theorem dL_law_310 : decode cL_law 310 = .ok (.iconst 1, 1) := by decide +kernel
theorem dL_law_311 : decode cL_law 311 = .ok (.goto 4, 3) := by decide +kernel
theorem dL_law_314 : decode cL_law 314 = .ok (.iconst 0, 1) := by decide +kernel
theorem dL_law_315 : decode cL_law 315 = .ok (.aload_n 0, 1) := by decide +kernel
theorem dL_law_316 : decode cL_law 316 = .ok (.iload 4, 2) := by decide +kernel
theorem dL_law_318 : decode cL_law 318 = .ok (.iconst 3, 1) := by decide +kernel
theorem dL_law_319 : decode cL_law 319 = .ok (.iadd, 1) := by decide +kernel
theorem dL_law_320 : decode cL_law 320 = .ok (.iaload, 1) := by decide +kernel
theorem dL_law_321 : decode cL_law 321 = .ok (.aload_n 0, 1) := by decide +kernel
theorem dL_law_322 : decode cL_law 322 = .ok (.iload 4, 2) := by decide +kernel
theorem dL_law_324 : decode cL_law 324 = .ok (.iconst 4, 1) := by decide +kernel
theorem dL_law_325 : decode cL_law 325 = .ok (.iadd, 1) := by decide +kernel
theorem dL_law_326 : decode cL_law 326 = .ok (.iaload, 1) := by decide +kernel
theorem dL_law_327 : decode cL_law 327 = .ok (.invokevirtual 33, 3) := by decide +kernel
theorem dL_law_330 : decode cL_law 330 = .ok (.pop, 1) := by decide +kernel
theorem dL_law_331 : decode cL_law 331 = .ok (.aload_n 2, 1) := by decide +kernel
theorem dL_law_332 : decode cL_law 332 = .ok (.aload_n 0, 1) := by decide +kernel
theorem dL_law_333 : decode cL_law 333 = .ok (.iload 4, 2) := by decide +kernel
theorem dL_law_335 : decode cL_law 335 = .ok (.iconst 1, 1) := by decide +kernel
theorem dL_law_336 : decode cL_law 336 = .ok (.iadd, 1) := by decide +kernel
theorem dL_law_337 : decode cL_law 337 = .ok (.iaload, 1) := by decide +kernel
theorem dL_law_338 : decode cL_law 338 = .ok (.aload_n 0, 1) := by decide +kernel
theorem dL_law_339 : decode cL_law 339 = .ok (.iload 4, 2) := by decide +kernel
theorem dL_law_341 : decode cL_law 341 = .ok (.iconst 2, 1) := by decide +kernel
theorem dL_law_342 : decode cL_law 342 = .ok (.iadd, 1) := by decide +kernel
theorem dL_law_343 : decode cL_law 343 = .ok (.iaload, 1) := by decide +kernel
theorem dL_law_344 : decode cL_law 344 = .ok (.ifCond .eq 7, 3) := by decide +kernel
theorem dL_law_347 : decode cL_law 347 = .ok (.iconst 1, 1) := by decide +kernel
theorem dL_law_348 : decode cL_law 348 = .ok (.goto 4, 3) := by decide +kernel
theorem dL_law_351 : decode cL_law 351 = .ok (.iconst 0, 1) := by decide +kernel
theorem dL_law_352 : decode cL_law 352 = .ok (.aload_n 0, 1) := by decide +kernel
theorem dL_law_353 : decode cL_law 353 = .ok (.iload 4, 2) := by decide +kernel
theorem dL_law_355 : decode cL_law 355 = .ok (.iconst 3, 1) := by decide +kernel
theorem dL_law_356 : decode cL_law 356 = .ok (.iadd, 1) := by decide +kernel
theorem dL_law_357 : decode cL_law 357 = .ok (.iaload, 1) := by decide +kernel
theorem dL_law_358 : decode cL_law 358 = .ok (.aload_n 0, 1) := by decide +kernel
theorem dL_law_359 : decode cL_law 359 = .ok (.iload 4, 2) := by decide +kernel
theorem dL_law_361 : decode cL_law 361 = .ok (.iconst 4, 1) := by decide +kernel
theorem dL_law_362 : decode cL_law 362 = .ok (.iadd, 1) := by decide +kernel
theorem dL_law_363 : decode cL_law 363 = .ok (.iaload, 1) := by decide +kernel
theorem dL_law_364 : decode cL_law 364 = .ok (.invokevirtual 37, 3) := by decide +kernel
theorem dL_law_367 : decode cL_law 367 = .ok (.pop, 1) := by decide +kernel
theorem dL_law_368 : decode cL_law 368 = .ok (.goto 1097, 3) := by decide +kernel
theorem dL_law_371 : decode cL_law 371 = .ok (.aload_n 1, 1) := by decide +kernel
theorem dL_law_372 : decode cL_law 372 = .ok (.aload_n 0, 1) := by decide +kernel
theorem dL_law_373 : decode cL_law 373 = .ok (.iload 4, 2) := by decide +kernel
theorem dL_law_375 : decode cL_law 375 = .ok (.iconst 1, 1) := by decide +kernel
theorem dL_law_376 : decode cL_law 376 = .ok (.iadd, 1) := by decide +kernel
theorem dL_law_377 : decode cL_law 377 = .ok (.iaload, 1) := by decide +kernel
theorem dL_law_378 : decode cL_law 378 = .ok (.aload_n 0, 1) := by decide +kernel
theorem dL_law_379 : decode cL_law 379 = .ok (.iload 4, 2) := by decide +kernel
theorem dL_law_381 : decode cL_law 381 = .ok (.iconst 2, 1) := by decide +kernel
theorem dL_law_382 : decode cL_law 382 = .ok (.iadd, 1) := by decide +kernel
theorem dL_law_383 : decode cL_law 383 = .ok (.iaload, 1) := by decide +kernel
theorem dL_law_384 : decode cL_law 384 = .ok (.invokevirtual 38, 3) := by decide +kernel
theorem dL_law_387 : decode cL_law 387 = .ok (.pop, 1) := by decide +kernel
theorem dL_law_388 : decode cL_law 388 = .ok (.aload_n 2, 1) := by decide +kernel
theorem dL_law_389 : decode cL_law 389 = .ok (.aload_n 0, 1) := by decide +kernel
theorem dL_law_390 : decode cL_law 390 = .ok (.iload 4, 2) := by decide +kernel
theorem dL_law_392 : decode cL_law 392 = .ok (.iconst 1, 1) := by decide +kernel
theorem dL_law_393 : decode cL_law 393 = .ok (.iadd, 1) := by decide +kernel
theorem dL_law_394 : decode cL_law 394 = .ok (.iaload, 1) := by decide +kernel
theorem dL_law_395 : decode cL_law 395 = .ok (.aload_n 0, 1) := by decide +kernel
theorem dL_law_396 : decode cL_law 396 = .ok (.iload 4, 2) := by decide +kernel
theorem dL_law_398 : decode cL_law 398 = .ok (.iconst 2, 1) := by decide +kernel
theorem dL_law_399 : decode cL_law 399 = .ok (.iadd, 1) := by decide +kernel
theorem dL_law_400 : decode cL_law 400 = .ok (.iaload, 1) := by decide +kernel
theorem dL_law_401 : decode cL_law 401 = .ok (.invokevirtual 42, 3) := by decide +kernel
theorem dL_law_404 : decode cL_law 404 = .ok (.pop, 1) := by decide +kernel
theorem dL_law_405 : decode cL_law 405 = .ok (.goto 1060, 3) := by decide +kernel
theorem dL_law_408 : decode cL_law 408 = .ok (.aload_n 1, 1) := by decide +kernel
theorem dL_law_409 : decode cL_law 409 = .ok (.aload_n 0, 1) := by decide +kernel
theorem dL_law_410 : decode cL_law 410 = .ok (.iload 4, 2) := by decide +kernel
theorem dL_law_412 : decode cL_law 412 = .ok (.iconst 1, 1) := by decide +kernel
theorem dL_law_413 : decode cL_law 413 = .ok (.iadd, 1) := by decide +kernel
theorem dL_law_414 : decode cL_law 414 = .ok (.iaload, 1) := by decide +kernel
theorem dL_law_415 : decode cL_law 415 = .ok (.aload_n 0, 1) := by decide +kernel
theorem dL_law_416 : decode cL_law 416 = .ok (.iload 4, 2) := by decide +kernel
theorem dL_law_418 : decode cL_law 418 = .ok (.iconst 2, 1) := by decide +kernel
theorem dL_law_419 : decode cL_law 419 = .ok (.iadd, 1) := by decide +kernel
theorem dL_law_420 : decode cL_law 420 = .ok (.iaload, 1) := by decide +kernel
theorem dL_law_421 : decode cL_law 421 = .ok (.invokevirtual 43, 3) := by decide +kernel
theorem dL_law_424 : decode cL_law 424 = .ok (.pop, 1) := by decide +kernel
theorem dL_law_425 : decode cL_law 425 = .ok (.aload_n 2, 1) := by decide +kernel
theorem dL_law_426 : decode cL_law 426 = .ok (.aload_n 0, 1) := by decide +kernel
theorem dL_law_427 : decode cL_law 427 = .ok (.iload 4, 2) := by decide +kernel
theorem dL_law_429 : decode cL_law 429 = .ok (.iconst 1, 1) := by decide +kernel
theorem dL_law_430 : decode cL_law 430 = .ok (.iadd, 1) := by decide +kernel
theorem dL_law_431 : decode cL_law 431 = .ok (.iaload, 1) := by decide +kernel
theorem dL_law_432 : decode cL_law 432 = .ok (.aload_n 0, 1) := by decide +kernel
theorem dL_law_433 : decode cL_law 433 = .ok (.iload 4, 2) := by decide +kernel
theorem dL_law_435 : decode cL_law 435 = .ok (.iconst 2, 1) := by decide +kernel
theorem dL_law_436 : decode cL_law 436 = .ok (.iadd, 1) := by decide +kernel
theorem dL_law_437 : decode cL_law 437 = .ok (.iaload, 1) := by decide +kernel
theorem dL_law_438 : decode cL_law 438 = .ok (.invokevirtual 46, 3) := by decide +kernel
theorem dL_law_441 : decode cL_law 441 = .ok (.pop, 1) := by decide +kernel
theorem dL_law_442 : decode cL_law 442 = .ok (.goto 1023, 3) := by decide +kernel
theorem dL_law_445 : decode cL_law 445 = .ok (.aload_n 1, 1) := by decide +kernel
theorem dL_law_446 : decode cL_law 446 = .ok (.invokevirtual 47, 3) := by decide +kernel
theorem dL_law_449 : decode cL_law 449 = .ok (.pop, 1) := by decide +kernel
theorem dL_law_450 : decode cL_law 450 = .ok (.aload_n 2, 1) := by decide +kernel
theorem dL_law_451 : decode cL_law 451 = .ok (.invokevirtual 51, 3) := by decide +kernel
theorem dL_law_454 : decode cL_law 454 = .ok (.pop, 1) := by decide +kernel
theorem dL_law_455 : decode cL_law 455 = .ok (.goto 1010, 3) := by decide +kernel
theorem dL_law_458 : decode cL_law 458 = .ok (.aload_n 1, 1) := by decide +kernel
theorem dL_law_459 : decode cL_law 459 = .ok (.aload_n 0, 1) := by decide +kernel
theorem dL_law_460 : decode cL_law 460 = .ok (.iload 4, 2) := by decide +kernel
theorem dL_law_462 : decode cL_law 462 = .ok (.iconst 1, 1) := by decide +kernel
theorem dL_law_463 : decode cL_law 463 = .ok (.iadd, 1) := by decide +kernel
theorem dL_law_464 : decode cL_law 464 = .ok (.iaload, 1) := by decide +kernel
theorem dL_law_465 : decode cL_law 465 = .ok (.invokevirtual 52, 3) := by decide +kernel
theorem dL_law_468 : decode cL_law 468 = .ok (.pop, 1) := by decide +kernel
theorem dL_law_469 : decode cL_law 469 = .ok (.aload_n 2, 1) := by decide +kernel
theorem dL_law_470 : decode cL_law 470 = .ok (.aload_n 0, 1) := by decide +kernel
theorem dL_law_471 : decode cL_law 471 = .ok (.iload 4, 2) := by decide +kernel
theorem dL_law_473 : decode cL_law 473 = .ok (.iconst 1, 1) := by decide +kernel
theorem dL_law_474 : decode cL_law 474 = .ok (.iadd, 1) := by decide +kernel
theorem dL_law_475 : decode cL_law 475 = .ok (.iaload, 1) := by decide +kernel
theorem dL_law_476 : decode cL_law 476 = .ok (.invokevirtual 55, 3) := by decide +kernel
theorem dL_law_479 : decode cL_law 479 = .ok (.pop, 1) := by decide +kernel
theorem dL_law_480 : decode cL_law 480 = .ok (.goto 985, 3) := by decide +kernel
theorem dL_law_483 : decode cL_law 483 = .ok (.aload_n 1, 1) := by decide +kernel
theorem dL_law_484 : decode cL_law 484 = .ok (.aload_n 0, 1) := by decide +kernel
theorem dL_law_485 : decode cL_law 485 = .ok (.iload 4, 2) := by decide +kernel
theorem dL_law_487 : decode cL_law 487 = .ok (.iconst 1, 1) := by decide +kernel
theorem dL_law_488 : decode cL_law 488 = .ok (.iadd, 1) := by decide +kernel
theorem dL_law_489 : decode cL_law 489 = .ok (.iaload, 1) := by decide +kernel
theorem dL_law_490 : decode cL_law 490 = .ok (.aload_n 0, 1) := by decide +kernel
theorem dL_law_491 : decode cL_law 491 = .ok (.iload 4, 2) := by decide +kernel
theorem dL_law_493 : decode cL_law 493 = .ok (.iconst 2, 1) := by decide +kernel
theorem dL_law_494 : decode cL_law 494 = .ok (.iadd, 1) := by decide +kernel
theorem dL_law_495 : decode cL_law 495 = .ok (.iaload, 1) := by decide +kernel
theorem dL_law_496 : decode cL_law 496 = .ok (.aload_n 0, 1) := by decide +kernel
theorem dL_law_497 : decode cL_law 497 = .ok (.iload 4, 2) := by decide +kernel
theorem dL_law_499 : decode cL_law 499 = .ok (.iconst 3, 1) := by decide +kernel
theorem dL_law_500 : decode cL_law 500 = .ok (.iadd, 1) := by decide +kernel
theorem dL_law_501 : decode cL_law 501 = .ok (.iaload, 1) := by decide +kernel
theorem dL_law_502 : decode cL_law 502 = .ok (.invokevirtual 56, 3) := by decide +kernel
theorem dL_law_505 : decode cL_law 505 = .ok (.pop, 1) := by decide +kernel
theorem dL_law_506 : decode cL_law 506 = .ok (.aload_n 2, 1) := by decide +kernel
theorem dL_law_507 : decode cL_law 507 = .ok (.aload_n 0, 1) := by decide +kernel
theorem dL_law_508 : decode cL_law 508 = .ok (.iload 4, 2) := by decide +kernel
theorem dL_law_510 : decode cL_law 510 = .ok (.iconst 1, 1) := by decide +kernel
theorem dL_law_511 : decode cL_law 511 = .ok (.iadd, 1) := by decide +kernel
theorem dL_law_512 : decode cL_law 512 = .ok (.iaload, 1) := by decide +kernel
theorem dL_law_513 : decode cL_law 513 = .ok (.aload_n 0, 1) := by decide +kernel
theorem dL_law_514 : decode cL_law 514 = .ok (.iload 4, 2) := by decide +kernel
theorem dL_law_516 : decode cL_law 516 = .ok (.iconst 2, 1) := by decide +kernel
theorem dL_law_517 : decode cL_law 517 = .ok (.iadd, 1) := by decide +kernel
theorem dL_law_518 : decode cL_law 518 = .ok (.iaload, 1) := by decide +kernel
theorem dL_law_519 : decode cL_law 519 = .ok (.aload_n 0, 1) := by decide +kernel
theorem dL_law_520 : decode cL_law 520 = .ok (.iload 4, 2) := by decide +kernel
theorem dL_law_522 : decode cL_law 522 = .ok (.iconst 3, 1) := by decide +kernel
theorem dL_law_523 : decode cL_law 523 = .ok (.iadd, 1) := by decide +kernel
theorem dL_law_524 : decode cL_law 524 = .ok (.iaload, 1) := by decide +kernel
theorem dL_law_525 : decode cL_law 525 = .ok (.invokevirtual 60, 3) := by decide +kernel
theorem dL_law_528 : decode cL_law 528 = .ok (.pop, 1) := by decide +kernel
theorem dL_law_529 : decode cL_law 529 = .ok (.goto 936, 3) := by decide +kernel
theorem dL_law_532 : decode cL_law 532 = .ok (.aload_n 1, 1) := by decide +kernel
theorem dL_law_533 : decode cL_law 533 = .ok (.aload_n 0, 1) := by decide +kernel
theorem dL_law_534 : decode cL_law 534 = .ok (.iload 4, 2) := by decide +kernel
theorem dL_law_536 : decode cL_law 536 = .ok (.iconst 1, 1) := by decide +kernel
theorem dL_law_537 : decode cL_law 537 = .ok (.iadd, 1) := by decide +kernel
theorem dL_law_538 : decode cL_law 538 = .ok (.iaload, 1) := by decide +kernel
theorem dL_law_539 : decode cL_law 539 = .ok (.aload_n 0, 1) := by decide +kernel
theorem dL_law_540 : decode cL_law 540 = .ok (.iload 4, 2) := by decide +kernel
theorem dL_law_542 : decode cL_law 542 = .ok (.iconst 2, 1) := by decide +kernel
theorem dL_law_543 : decode cL_law 543 = .ok (.iadd, 1) := by decide +kernel
theorem dL_law_544 : decode cL_law 544 = .ok (.iaload, 1) := by decide +kernel
theorem dL_law_545 : decode cL_law 545 = .ok (.aload_n 0, 1) := by decide +kernel
theorem dL_law_546 : decode cL_law 546 = .ok (.iload 4, 2) := by decide +kernel
theorem dL_law_548 : decode cL_law 548 = .ok (.iconst 3, 1) := by decide +kernel
theorem dL_law_549 : decode cL_law 549 = .ok (.iadd, 1) := by decide +kernel
theorem dL_law_550 : decode cL_law 550 = .ok (.iaload, 1) := by decide +kernel
theorem dL_law_551 : decode cL_law 551 = .ok (.invokevirtual 61, 3) := by decide +kernel
theorem dL_law_554 : decode cL_law 554 = .ok (.pop, 1) := by decide +kernel
theorem dL_law_555 : decode cL_law 555 = .ok (.aload_n 2, 1) := by decide +kernel
theorem dL_law_556 : decode cL_law 556 = .ok (.aload_n 0, 1) := by decide +kernel
theorem dL_law_557 : decode cL_law 557 = .ok (.iload 4, 2) := by decide +kernel
theorem dL_law_559 : decode cL_law 559 = .ok (.iconst 1, 1) := by decide +kernel
theorem dL_law_560 : decode cL_law 560 = .ok (.iadd, 1) := by decide +kernel
theorem dL_law_561 : decode cL_law 561 = .ok (.iaload, 1) := by decide +kernel
theorem dL_law_562 : decode cL_law 562 = .ok (.aload_n 0, 1) := by decide +kernel
theorem dL_law_563 : decode cL_law 563 = .ok (.iload 4, 2) := by decide +kernel
theorem dL_law_565 : decode cL_law 565 = .ok (.iconst 2, 1) := by decide +kernel
theorem dL_law_566 : decode cL_law 566 = .ok (.iadd, 1) := by decide +kernel
theorem dL_law_567 : decode cL_law 567 = .ok (.iaload, 1) := by decide +kernel
theorem dL_law_568 : decode cL_law 568 = .ok (.aload_n 0, 1) := by decide +kernel
theorem dL_law_569 : decode cL_law 569 = .ok (.iload 4, 2) := by decide +kernel
theorem dL_law_571 : decode cL_law 571 = .ok (.iconst 3, 1) := by decide +kernel
theorem dL_law_572 : decode cL_law 572 = .ok (.iadd, 1) := by decide +kernel
theorem dL_law_573 : decode cL_law 573 = .ok (.iaload, 1) := by decide +kernel
theorem dL_law_574 : decode cL_law 574 = .ok (.invokevirtual 64, 3) := by decide +kernel
theorem dL_law_577 : decode cL_law 577 = .ok (.pop, 1) := by decide +kernel
theorem dL_law_578 : decode cL_law 578 = .ok (.goto 887, 3) := by decide +kernel
theorem dL_law_581 : decode cL_law 581 = .ok (.aload_n 1, 1) := by decide +kernel
theorem dL_law_582 : decode cL_law 582 = .ok (.aload_n 0, 1) := by decide +kernel
theorem dL_law_583 : decode cL_law 583 = .ok (.iload 4, 2) := by decide +kernel
theorem dL_law_585 : decode cL_law 585 = .ok (.iconst 1, 1) := by decide +kernel
theorem dL_law_586 : decode cL_law 586 = .ok (.iadd, 1) := by decide +kernel
theorem dL_law_587 : decode cL_law 587 = .ok (.iaload, 1) := by decide +kernel
theorem dL_law_588 : decode cL_law 588 = .ok (.aload_n 0, 1) := by decide +kernel
theorem dL_law_589 : decode cL_law 589 = .ok (.iload 4, 2) := by decide +kernel
theorem dL_law_591 : decode cL_law 591 = .ok (.iconst 2, 1) := by decide +kernel
theorem dL_law_592 : decode cL_law 592 = .ok (.iadd, 1) := by decide +kernel
theorem dL_law_593 : decode cL_law 593 = .ok (.iaload, 1) := by decide +kernel
theorem dL_law_594 : decode cL_law 594 = .ok (.aload_n 0, 1) := by decide +kernel
theorem dL_law_595 : decode cL_law 595 = .ok (.iload 4, 2) := by decide +kernel
theorem dL_law_597 : decode cL_law 597 = .ok (.iconst 3, 1) := by decide +kernel
theorem dL_law_598 : decode cL_law 598 = .ok (.iadd, 1) := by decide +kernel
theorem dL_law_599 : decode cL_law 599 = .ok (.iaload, 1) := by decide +kernel
theorem dL_law_600 : decode cL_law 600 = .ok (.invokevirtual 65, 3) := by decide +kernel
theorem dL_law_603 : decode cL_law 603 = .ok (.pop, 1) := by decide +kernel
theorem dL_law_604 : decode cL_law 604 = .ok (.aload_n 2, 1) := by decide +kernel
theorem dL_law_605 : decode cL_law 605 = .ok (.aload_n 0, 1) := by decide +kernel
theorem dL_law_606 : decode cL_law 606 = .ok (.iload 4, 2) := by decide +kernel
theorem dL_law_608 : decode cL_law 608 = .ok (.iconst 1, 1) := by decide +kernel
theorem dL_law_609 : decode cL_law 609 = .ok (.iadd, 1) := by decide +kernel
theorem dL_law_610 : decode cL_law 610 = .ok (.iaload, 1) := by decide +kernel
theorem dL_law_611 : decode cL_law 611 = .ok (.aload_n 0, 1) := by decide +kernel
theorem dL_law_612 : decode cL_law 612 = .ok (.iload 4, 2) := by decide +kernel
theorem dL_law_614 : decode cL_law 614 = .ok (.iconst 2, 1) := by decide +kernel
theorem dL_law_615 : decode cL_law 615 = .ok (.iadd, 1) := by decide +kernel
theorem dL_law_616 : decode cL_law 616 = .ok (.iaload, 1) := by decide +kernel
theorem dL_law_617 : decode cL_law 617 = .ok (.aload_n 0, 1) := by decide +kernel
theorem dL_law_618 : decode cL_law 618 = .ok (.iload 4, 2) := by decide +kernel
theorem dL_law_620 : decode cL_law 620 = .ok (.iconst 3, 1) := by decide +kernel
theorem dL_law_621 : decode cL_law 621 = .ok (.iadd, 1) := by decide +kernel
theorem dL_law_622 : decode cL_law 622 = .ok (.iaload, 1) := by decide +kernel
theorem dL_law_623 : decode cL_law 623 = .ok (.invokevirtual 68, 3) := by decide +kernel
theorem dL_law_626 : decode cL_law 626 = .ok (.pop, 1) := by decide +kernel
theorem dL_law_627 : decode cL_law 627 = .ok (.goto 838, 3) := by decide +kernel
theorem dL_law_630 : decode cL_law 630 = .ok (.aload_n 1, 1) := by decide +kernel
theorem dL_law_631 : decode cL_law 631 = .ok (.aload_n 0, 1) := by decide +kernel
theorem dL_law_632 : decode cL_law 632 = .ok (.iload 4, 2) := by decide +kernel
theorem dL_law_634 : decode cL_law 634 = .ok (.iconst 1, 1) := by decide +kernel
theorem dL_law_635 : decode cL_law 635 = .ok (.iadd, 1) := by decide +kernel
theorem dL_law_636 : decode cL_law 636 = .ok (.iaload, 1) := by decide +kernel
theorem dL_law_637 : decode cL_law 637 = .ok (.aload_n 0, 1) := by decide +kernel
theorem dL_law_638 : decode cL_law 638 = .ok (.iload 4, 2) := by decide +kernel
theorem dL_law_640 : decode cL_law 640 = .ok (.iconst 2, 1) := by decide +kernel
theorem dL_law_641 : decode cL_law 641 = .ok (.iadd, 1) := by decide +kernel
theorem dL_law_642 : decode cL_law 642 = .ok (.iaload, 1) := by decide +kernel
theorem dL_law_643 : decode cL_law 643 = .ok (.aload_n 0, 1) := by decide +kernel
theorem dL_law_644 : decode cL_law 644 = .ok (.iload 4, 2) := by decide +kernel
theorem dL_law_646 : decode cL_law 646 = .ok (.iconst 3, 1) := by decide +kernel
theorem dL_law_647 : decode cL_law 647 = .ok (.iadd, 1) := by decide +kernel
theorem dL_law_648 : decode cL_law 648 = .ok (.iaload, 1) := by decide +kernel
theorem dL_law_649 : decode cL_law 649 = .ok (.aload_n 0, 1) := by decide +kernel
theorem dL_law_650 : decode cL_law 650 = .ok (.iload 4, 2) := by decide +kernel
theorem dL_law_652 : decode cL_law 652 = .ok (.iconst 4, 1) := by decide +kernel
theorem dL_law_653 : decode cL_law 653 = .ok (.iadd, 1) := by decide +kernel
theorem dL_law_654 : decode cL_law 654 = .ok (.iaload, 1) := by decide +kernel
theorem dL_law_655 : decode cL_law 655 = .ok (.invokevirtual 69, 3) := by decide +kernel
theorem dL_law_658 : decode cL_law 658 = .ok (.pop, 1) := by decide +kernel
theorem dL_law_659 : decode cL_law 659 = .ok (.aload_n 2, 1) := by decide +kernel
theorem dL_law_660 : decode cL_law 660 = .ok (.aload_n 0, 1) := by decide +kernel
theorem dL_law_661 : decode cL_law 661 = .ok (.iload 4, 2) := by decide +kernel
theorem dL_law_663 : decode cL_law 663 = .ok (.iconst 1, 1) := by decide +kernel
theorem dL_law_664 : decode cL_law 664 = .ok (.iadd, 1) := by decide +kernel
theorem dL_law_665 : decode cL_law 665 = .ok (.iaload, 1) := by decide +kernel
theorem dL_law_666 : decode cL_law 666 = .ok (.aload_n 0, 1) := by decide +kernel
theorem dL_law_667 : decode cL_law 667 = .ok (.iload 4, 2) := by decide +kernel
theorem dL_law_669 : decode cL_law 669 = .ok (.iconst 2, 1) := by decide +kernel
theorem dL_law_670 : decode cL_law 670 = .ok (.iadd, 1) := by decide +kernel
theorem dL_law_671 : decode cL_law 671 = .ok (.iaload, 1) := by decide +kernel
theorem dL_law_672 : decode cL_law 672 = .ok (.aload_n 0, 1) := by decide +kernel
theorem dL_law_673 : decode cL_law 673 = .ok (.iload 4, 2) := by decide +kernel
theorem dL_law_675 : decode cL_law 675 = .ok (.iconst 3, 1) := by decide +kernel
theorem dL_law_676 : decode cL_law 676 = .ok (.iadd, 1) := by decide +kernel
theorem dL_law_677 : decode cL_law 677 = .ok (.iaload, 1) := by decide +kernel
theorem dL_law_678 : decode cL_law 678 = .ok (.aload_n 0, 1) := by decide +kernel
theorem dL_law_679 : decode cL_law 679 = .ok (.iload 4, 2) := by decide +kernel
theorem dL_law_681 : decode cL_law 681 = .ok (.iconst 4, 1) := by decide +kernel
theorem dL_law_682 : decode cL_law 682 = .ok (.iadd, 1) := by decide +kernel
theorem dL_law_683 : decode cL_law 683 = .ok (.iaload, 1) := by decide +kernel
theorem dL_law_684 : decode cL_law 684 = .ok (.invokevirtual 73, 3) := by decide +kernel
theorem dL_law_687 : decode cL_law 687 = .ok (.pop, 1) := by decide +kernel
theorem dL_law_688 : decode cL_law 688 = .ok (.goto 777, 3) := by decide +kernel
theorem dL_law_691 : decode cL_law 691 = .ok (.aload_n 1, 1) := by decide +kernel
theorem dL_law_692 : decode cL_law 692 = .ok (.aload_n 0, 1) := by decide +kernel
theorem dL_law_693 : decode cL_law 693 = .ok (.iload 4, 2) := by decide +kernel
theorem dL_law_695 : decode cL_law 695 = .ok (.iconst 1, 1) := by decide +kernel
theorem dL_law_696 : decode cL_law 696 = .ok (.iadd, 1) := by decide +kernel
theorem dL_law_697 : decode cL_law 697 = .ok (.iaload, 1) := by decide +kernel
theorem dL_law_698 : decode cL_law 698 = .ok (.aload_n 0, 1) := by decide +kernel
theorem dL_law_699 : decode cL_law 699 = .ok (.iload 4, 2) := by decide +kernel
theorem dL_law_701 : decode cL_law 701 = .ok (.iconst 2, 1) := by decide +kernel
theorem dL_law_702 : decode cL_law 702 = .ok (.iadd, 1) := by decide +kernel
theorem dL_law_703 : decode cL_law 703 = .ok (.iaload, 1) := by decide +kernel
theorem dL_law_704 : decode cL_law 704 = .ok (.aload_n 0, 1) := by decide +kernel
theorem dL_law_705 : decode cL_law 705 = .ok (.iload 4, 2) := by decide +kernel
theorem dL_law_707 : decode cL_law 707 = .ok (.iconst 3, 1) := by decide +kernel
theorem dL_law_708 : decode cL_law 708 = .ok (.iadd, 1) := by decide +kernel
theorem dL_law_709 : decode cL_law 709 = .ok (.iaload, 1) := by decide +kernel
theorem dL_law_710 : decode cL_law 710 = .ok (.invokevirtual 74, 3) := by decide +kernel
theorem dL_law_713 : decode cL_law 713 = .ok (.pop, 1) := by decide +kernel
theorem dL_law_714 : decode cL_law 714 = .ok (.aload_n 2, 1) := by decide +kernel
theorem dL_law_715 : decode cL_law 715 = .ok (.aload_n 0, 1) := by decide +kernel
theorem dL_law_716 : decode cL_law 716 = .ok (.iload 4, 2) := by decide +kernel
theorem dL_law_718 : decode cL_law 718 = .ok (.iconst 1, 1) := by decide +kernel
theorem dL_law_719 : decode cL_law 719 = .ok (.iadd, 1) := by decide +kernel
theorem dL_law_720 : decode cL_law 720 = .ok (.iaload, 1) := by decide +kernel
theorem dL_law_721 : decode cL_law 721 = .ok (.aload_n 0, 1) := by decide +kernel
theorem dL_law_722 : decode cL_law 722 = .ok (.iload 4, 2) := by decide +kernel
theorem dL_law_724 : decode cL_law 724 = .ok (.iconst 2, 1) := by decide +kernel
theorem dL_law_725 : decode cL_law 725 = .ok (.iadd, 1) := by decide +kernel
theorem dL_law_726 : decode cL_law 726 = .ok (.iaload, 1) := by decide +kernel
theorem dL_law_727 : decode cL_law 727 = .ok (.aload_n 0, 1) := by decide +kernel
theorem dL_law_728 : decode cL_law 728 = .ok (.iload 4, 2) := by decide +kernel
theorem dL_law_730 : decode cL_law 730 = .ok (.iconst 3, 1) := by decide +kernel
theorem dL_law_731 : decode cL_law 731 = .ok (.iadd, 1) := by decide +kernel
theorem dL_law_732 : decode cL_law 732 = .ok (.iaload, 1) := by decide +kernel
theorem dL_law_733 : decode cL_law 733 = .ok (.invokevirtual 77, 3) := by decide +kernel
theorem dL_law_736 : decode cL_law 736 = .ok (.pop, 1) := by decide +kernel
theorem dL_law_737 : decode cL_law 737 = .ok (.goto 728, 3) := by decide +kernel
theorem dL_law_740 : decode cL_law 740 = .ok (.aload_n 1, 1) := by decide +kernel
theorem dL_law_741 : decode cL_law 741 = .ok (.aload_n 0, 1) := by decide +kernel
theorem dL_law_742 : decode cL_law 742 = .ok (.iload 4, 2) := by decide +kernel
theorem dL_law_744 : decode cL_law 744 = .ok (.iconst 1, 1) := by decide +kernel
theorem dL_law_745 : decode cL_law 745 = .ok (.iadd, 1) := by decide +kernel
theorem dL_law_746 : decode cL_law 746 = .ok (.iaload, 1) := by decide +kernel
theorem dL_law_747 : decode cL_law 747 = .ok (.invokevirtual 78, 3) := by decide +kernel
theorem dL_law_750 : decode cL_law 750 = .ok (.pop, 1) := by decide +kernel
theorem dL_law_751 : decode cL_law 751 = .ok (.aload_n 2, 1) := by decide +kernel
theorem dL_law_752 : decode cL_law 752 = .ok (.aload_n 0, 1) := by decide +kernel
theorem dL_law_753 : decode cL_law 753 = .ok (.iload 4, 2) := by decide +kernel
theorem dL_law_755 : decode cL_law 755 = .ok (.iconst 1, 1) := by decide +kernel
theorem dL_law_756 : decode cL_law 756 = .ok (.iadd, 1) := by decide +kernel
theorem dL_law_757 : decode cL_law 757 = .ok (.iaload, 1) := by decide +kernel
theorem dL_law_758 : decode cL_law 758 = .ok (.invokevirtual 81, 3) := by decide +kernel
theorem dL_law_761 : decode cL_law 761 = .ok (.pop, 1) := by decide +kernel
theorem dL_law_762 : decode cL_law 762 = .ok (.goto 703, 3) := by decide +kernel
theorem dL_law_765 : decode cL_law 765 = .ok (.aload_n 1, 1) := by decide +kernel
theorem dL_law_766 : decode cL_law 766 = .ok (.invokevirtual 82, 3) := by decide +kernel
theorem dL_law_769 : decode cL_law 769 = .ok (.aload_n 2, 1) := by decide +kernel
theorem dL_law_770 : decode cL_law 770 = .ok (.invokevirtual 86, 3) := by decide +kernel
theorem dL_law_773 : decode cL_law 773 = .ok (.if_icmp .eq 692, 3) := by decide +kernel
theorem dL_law_778 : decode cL_law 778 = .ok (.aload_n 1, 1) := by decide +kernel
theorem dL_law_779 : decode cL_law 779 = .ok (.aload_n 0, 1) := by decide +kernel
theorem dL_law_780 : decode cL_law 780 = .ok (.iload 4, 2) := by decide +kernel
theorem dL_law_782 : decode cL_law 782 = .ok (.iconst 1, 1) := by decide +kernel
theorem dL_law_783 : decode cL_law 783 = .ok (.iadd, 1) := by decide +kernel
theorem dL_law_784 : decode cL_law 784 = .ok (.iaload, 1) := by decide +kernel
theorem dL_law_785 : decode cL_law 785 = .ok (.aload_n 0, 1) := by decide +kernel
theorem dL_law_786 : decode cL_law 786 = .ok (.iload 4, 2) := by decide +kernel
theorem dL_law_788 : decode cL_law 788 = .ok (.iconst 2, 1) := by decide +kernel
theorem dL_law_789 : decode cL_law 789 = .ok (.iadd, 1) := by decide +kernel
theorem dL_law_790 : decode cL_law 790 = .ok (.iaload, 1) := by decide +kernel
theorem dL_law_791 : decode cL_law 791 = .ok (.aload_n 0, 1) := by decide +kernel
theorem dL_law_792 : decode cL_law 792 = .ok (.iload 4, 2) := by decide +kernel
theorem dL_law_794 : decode cL_law 794 = .ok (.iconst 3, 1) := by decide +kernel
theorem dL_law_795 : decode cL_law 795 = .ok (.iadd, 1) := by decide +kernel
theorem dL_law_796 : decode cL_law 796 = .ok (.iaload, 1) := by decide +kernel
theorem dL_law_797 : decode cL_law 797 = .ok (.aload_n 0, 1) := by decide +kernel
theorem dL_law_798 : decode cL_law 798 = .ok (.iload 4, 2) := by decide +kernel
theorem dL_law_800 : decode cL_law 800 = .ok (.iconst 4, 1) := by decide +kernel
theorem dL_law_801 : decode cL_law 801 = .ok (.iadd, 1) := by decide +kernel
theorem dL_law_802 : decode cL_law 802 = .ok (.iaload, 1) := by decide +kernel
theorem dL_law_803 : decode cL_law 803 = .ok (.aload_n 0, 1) := by decide +kernel
theorem dL_law_804 : decode cL_law 804 = .ok (.iload 4, 2) := by decide +kernel
theorem dL_law_806 : decode cL_law 806 = .ok (.iconst 5, 1) := by decide +kernel
theorem dL_law_807 : decode cL_law 807 = .ok (.iadd, 1) := by decide +kernel
theorem dL_law_808 : decode cL_law 808 = .ok (.iaload, 1) := by decide +kernel
theorem dL_law_809 : decode cL_law 809 = .ok (.invokevirtual 87, 3) := by decide +kernel
theorem dL_law_812 : decode cL_law 812 = .ok (.pop, 1) := by decide +kernel
theorem dL_law_813 : decode cL_law 813 = .ok (.aload_n 2, 1) := by decide +kernel
theorem dL_law_814 : decode cL_law 814 = .ok (.aload_n 0, 1) := by decide +kernel
theorem dL_law_815 : decode cL_law 815 = .ok (.iload 4, 2) := by decide +kernel
theorem dL_law_817 : decode cL_law 817 = .ok (.iconst 1, 1) := by decide +kernel
theorem dL_law_818 : decode cL_law 818 = .ok (.iadd, 1) := by decide +kernel
theorem dL_law_819 : decode cL_law 819 = .ok (.iaload, 1) := by decide +kernel
theorem dL_law_820 : decode cL_law 820 = .ok (.aload_n 0, 1) := by decide +kernel
theorem dL_law_821 : decode cL_law 821 = .ok (.iload 4, 2) := by decide +kernel
theorem dL_law_823 : decode cL_law 823 = .ok (.iconst 2, 1) := by decide +kernel
theorem dL_law_824 : decode cL_law 824 = .ok (.iadd, 1) := by decide +kernel
theorem dL_law_825 : decode cL_law 825 = .ok (.iaload, 1) := by decide +kernel
theorem dL_law_826 : decode cL_law 826 = .ok (.aload_n 0, 1) := by decide +kernel
theorem dL_law_827 : decode cL_law 827 = .ok (.iload 4, 2) := by decide +kernel
theorem dL_law_829 : decode cL_law 829 = .ok (.iconst 3, 1) := by decide +kernel
theorem dL_law_830 : decode cL_law 830 = .ok (.iadd, 1) := by decide +kernel
theorem dL_law_831 : decode cL_law 831 = .ok (.iaload, 1) := by decide +kernel
theorem dL_law_832 : decode cL_law 832 = .ok (.aload_n 0, 1) := by decide +kernel
theorem dL_law_833 : decode cL_law 833 = .ok (.iload 4, 2) := by decide +kernel
theorem dL_law_835 : decode cL_law 835 = .ok (.iconst 4, 1) := by decide +kernel
theorem dL_law_836 : decode cL_law 836 = .ok (.iadd, 1) := by decide +kernel
theorem dL_law_837 : decode cL_law 837 = .ok (.iaload, 1) := by decide +kernel
theorem dL_law_838 : decode cL_law 838 = .ok (.aload_n 0, 1) := by decide +kernel
theorem dL_law_839 : decode cL_law 839 = .ok (.iload 4, 2) := by decide +kernel
theorem dL_law_841 : decode cL_law 841 = .ok (.iconst 5, 1) := by decide +kernel
theorem dL_law_842 : decode cL_law 842 = .ok (.iadd, 1) := by decide +kernel
theorem dL_law_843 : decode cL_law 843 = .ok (.iaload, 1) := by decide +kernel
theorem dL_law_844 : decode cL_law 844 = .ok (.invokevirtual 90, 3) := by decide +kernel
theorem dL_law_847 : decode cL_law 847 = .ok (.pop, 1) := by decide +kernel
theorem dL_law_848 : decode cL_law 848 = .ok (.goto 617, 3) := by decide +kernel
theorem dL_law_851 : decode cL_law 851 = .ok (.aload_n 1, 1) := by decide +kernel
theorem dL_law_852 : decode cL_law 852 = .ok (.aload_n 0, 1) := by decide +kernel
theorem dL_law_853 : decode cL_law 853 = .ok (.iload 4, 2) := by decide +kernel
theorem dL_law_855 : decode cL_law 855 = .ok (.iconst 1, 1) := by decide +kernel
theorem dL_law_856 : decode cL_law 856 = .ok (.iadd, 1) := by decide +kernel
theorem dL_law_857 : decode cL_law 857 = .ok (.iaload, 1) := by decide +kernel
theorem dL_law_858 : decode cL_law 858 = .ok (.aload_n 0, 1) := by decide +kernel
theorem dL_law_859 : decode cL_law 859 = .ok (.iload 4, 2) := by decide +kernel
theorem dL_law_861 : decode cL_law 861 = .ok (.iconst 2, 1) := by decide +kernel
theorem dL_law_862 : decode cL_law 862 = .ok (.iadd, 1) := by decide +kernel
theorem dL_law_863 : decode cL_law 863 = .ok (.iaload, 1) := by decide +kernel
theorem dL_law_864 : decode cL_law 864 = .ok (.invokevirtual 91, 3) := by decide +kernel
theorem dL_law_867 : decode cL_law 867 = .ok (.pop, 1) := by decide +kernel
theorem dL_law_868 : decode cL_law 868 = .ok (.aload_n 2, 1) := by decide +kernel
theorem dL_law_869 : decode cL_law 869 = .ok (.aload_n 0, 1) := by decide +kernel
theorem dL_law_870 : decode cL_law 870 = .ok (.iload 4, 2) := by decide +kernel
theorem dL_law_872 : decode cL_law 872 = .ok (.iconst 1, 1) := by decide +kernel
theorem dL_law_873 : decode cL_law 873 = .ok (.iadd, 1) := by decide +kernel
theorem dL_law_874 : decode cL_law 874 = .ok (.iaload, 1) := by decide +kernel
theorem dL_law_875 : decode cL_law 875 = .ok (.aload_n 0, 1) := by decide +kernel
theorem dL_law_876 : decode cL_law 876 = .ok (.iload 4, 2) := by decide +kernel
theorem dL_law_878 : decode cL_law 878 = .ok (.iconst 2, 1) := by decide +kernel
theorem dL_law_879 : decode cL_law 879 = .ok (.iadd, 1) := by decide +kernel
theorem dL_law_880 : decode cL_law 880 = .ok (.iaload, 1) := by decide +kernel
theorem dL_law_881 : decode cL_law 881 = .ok (.invokevirtual 94, 3) := by decide +kernel
theorem dL_law_884 : decode cL_law 884 = .ok (.pop, 1) := by decide +kernel
theorem dL_law_885 : decode cL_law 885 = .ok (.goto 580, 3) := by decide +kernel
theorem dL_law_888 : decode cL_law 888 = .ok (.aload_n 1, 1) := by decide +kernel
theorem dL_law_889 : decode cL_law 889 = .ok (.invokevirtual 95, 3) := by decide +kernel
theorem dL_law_892 : decode cL_law 892 = .ok (.pop, 1) := by decide +kernel
theorem dL_law_893 : decode cL_law 893 = .ok (.aload_n 2, 1) := by decide +kernel
theorem dL_law_894 : decode cL_law 894 = .ok (.invokevirtual 98, 3) := by decide +kernel
theorem dL_law_897 : decode cL_law 897 = .ok (.pop, 1) := by decide +kernel
theorem dL_law_898 : decode cL_law 898 = .ok (.goto 567, 3) := by decide +kernel
theorem dL_law_901 : decode cL_law 901 = .ok (.aload_n 1, 1) := by decide +kernel
theorem dL_law_902 : decode cL_law 902 = .ok (.invokevirtual 99, 3) := by decide +kernel
theorem dL_law_905 : decode cL_law 905 = .ok (.pop, 1) := by decide +kernel
theorem dL_law_906 : decode cL_law 906 = .ok (.aload_n 2, 1) := by decide +kernel
theorem dL_law_907 : decode cL_law 907 = .ok (.invokevirtual 102, 3) := by decide +kernel
theorem dL_law_910 : decode cL_law 910 = .ok (.pop, 1) := by decide +kernel
theorem dL_law_911 : decode cL_law 911 = .ok (.goto 554, 3) := by decide +kernel
theorem dL_law_914 : decode cL_law 914 = .ok (.aload_n 1, 1) := by decide +kernel
theorem dL_law_915 : decode cL_law 915 = .ok (.aload_n 0, 1) := by decide +kernel
theorem dL_law_916 : decode cL_law 916 = .ok (.iload 4, 2) := by decide +kernel
theorem dL_law_918 : decode cL_law 918 = .ok (.iconst 1, 1) := by decide +kernel
theorem dL_law_919 : decode cL_law 919 = .ok (.iadd, 1) := by decide +kernel
theorem dL_law_920 : decode cL_law 920 = .ok (.iaload, 1) := by decide +kernel
theorem dL_law_921 : decode cL_law 921 = .ok (.aload_n 0, 1) := by decide +kernel
theorem dL_law_922 : decode cL_law 922 = .ok (.iload 4, 2) := by decide +kernel
theorem dL_law_924 : decode cL_law 924 = .ok (.iconst 2, 1) := by decide +kernel
theorem dL_law_925 : decode cL_law 925 = .ok (.iadd, 1) := by decide +kernel
theorem dL_law_926 : decode cL_law 926 = .ok (.iaload, 1) := by decide +kernel
theorem dL_law_927 : decode cL_law 927 = .ok (.aload_n 3, 1) := by decide +kernel
theorem dL_law_928 : decode cL_law 928 = .ok (.invokestatic 103, 3) := by decide +kernel
theorem dL_law_931 : decode cL_law 931 = .ok (.istore 5, 2) := by decide +kernel
theorem dL_law_933 : decode cL_law 933 = .ok (.aload_n 2, 1) := by decide +kernel
theorem dL_law_934 : decode cL_law 934 = .ok (.aload_n 0, 1) := by decide +kernel
theorem dL_law_935 : decode cL_law 935 = .ok (.iload 4, 2) := by decide +kernel
theorem dL_law_937 : decode cL_law 937 = .ok (.iconst 1, 1) := by decide +kernel
theorem dL_law_938 : decode cL_law 938 = .ok (.iadd, 1) := by decide +kernel
theorem dL_law_939 : decode cL_law 939 = .ok (.iaload, 1) := by decide +kernel
theorem dL_law_940 : decode cL_law 940 = .ok (.aload_n 0, 1) := by decide +kernel
theorem dL_law_941 : decode cL_law 941 = .ok (.iload 4, 2) := by decide +kernel
theorem dL_law_943 : decode cL_law 943 = .ok (.iconst 2, 1) := by decide +kernel
theorem dL_law_944 : decode cL_law 944 = .ok (.iadd, 1) := by decide +kernel
theorem dL_law_945 : decode cL_law 945 = .ok (.iaload, 1) := by decide +kernel
theorem dL_law_946 : decode cL_law 946 = .ok (.invokevirtual 108, 3) := by decide +kernel
theorem dL_law_949 : decode cL_law 949 = .ok (.istore 6, 2) := by decide +kernel
theorem dL_law_951 : decode cL_law 951 = .ok (.goto 514, 3) := by decide +kernel
theorem dL_law_954 : decode cL_law 954 = .ok (.aload_n 1, 1) := by decide +kernel
theorem dL_law_955 : decode cL_law 955 = .ok (.aload_n 0, 1) := by decide +kernel
theorem dL_law_956 : decode cL_law 956 = .ok (.iload 4, 2) := by decide +kernel
theorem dL_law_958 : decode cL_law 958 = .ok (.iconst 1, 1) := by decide +kernel
theorem dL_law_959 : decode cL_law 959 = .ok (.iadd, 1) := by decide +kernel
theorem dL_law_960 : decode cL_law 960 = .ok (.iaload, 1) := by decide +kernel
theorem dL_law_961 : decode cL_law 961 = .ok (.aload_n 3, 1) := by decide +kernel
theorem dL_law_962 : decode cL_law 962 = .ok (.invokestatic 109, 3) := by decide +kernel
theorem dL_law_965 : decode cL_law 965 = .ok (.istore 5, 2) := by decide +kernel
theorem dL_law_967 : decode cL_law 967 = .ok (.aload_n 2, 1) := by decide +kernel
theorem dL_law_968 : decode cL_law 968 = .ok (.aload_n 0, 1) := by decide +kernel
theorem dL_law_969 : decode cL_law 969 = .ok (.iload 4, 2) := by decide +kernel
theorem dL_law_971 : decode cL_law 971 = .ok (.iconst 1, 1) := by decide +kernel
theorem dL_law_972 : decode cL_law 972 = .ok (.iadd, 1) := by decide +kernel
theorem dL_law_973 : decode cL_law 973 = .ok (.iaload, 1) := by decide +kernel
theorem dL_law_974 : decode cL_law 974 = .ok (.invokevirtual 112, 3) := by decide +kernel
theorem dL_law_977 : decode cL_law 977 = .ok (.istore 6, 2) := by decide +kernel
theorem dL_law_979 : decode cL_law 979 = .ok (.goto 486, 3) := by decide +kernel
theorem dL_law_982 : decode cL_law 982 = .ok (.aload_n 1, 1) := by decide +kernel
theorem dL_law_983 : decode cL_law 983 = .ok (.aload_n 0, 1) := by decide +kernel
theorem dL_law_984 : decode cL_law 984 = .ok (.iload 4, 2) := by decide +kernel
theorem dL_law_986 : decode cL_law 986 = .ok (.iconst 1, 1) := by decide +kernel
theorem dL_law_987 : decode cL_law 987 = .ok (.iadd, 1) := by decide +kernel
theorem dL_law_988 : decode cL_law 988 = .ok (.iaload, 1) := by decide +kernel
theorem dL_law_989 : decode cL_law 989 = .ok (.aload_n 0, 1) := by decide +kernel
theorem dL_law_990 : decode cL_law 990 = .ok (.iload 4, 2) := by decide +kernel
theorem dL_law_992 : decode cL_law 992 = .ok (.iconst 2, 1) := by decide +kernel
theorem dL_law_993 : decode cL_law 993 = .ok (.iadd, 1) := by decide +kernel
theorem dL_law_994 : decode cL_law 994 = .ok (.iaload, 1) := by decide +kernel
theorem dL_law_995 : decode cL_law 995 = .ok (.aload_n 0, 1) := by decide +kernel
theorem dL_law_996 : decode cL_law 996 = .ok (.iload 4, 2) := by decide +kernel
theorem dL_law_998 : decode cL_law 998 = .ok (.iconst 3, 1) := by decide +kernel
theorem dL_law_999 : decode cL_law 999 = .ok (.iadd, 1) := by decide +kernel
theorem dL_law_1000 : decode cL_law 1000 = .ok (.iaload, 1) := by decide +kernel
theorem dL_law_1001 : decode cL_law 1001 = .ok (.aload_n 0, 1) := by decide +kernel
theorem dL_law_1002 : decode cL_law 1002 = .ok (.iload 4, 2) := by decide +kernel
theorem dL_law_1004 : decode cL_law 1004 = .ok (.iconst 4, 1) := by decide +kernel
theorem dL_law_1005 : decode cL_law 1005 = .ok (.iadd, 1) := by decide +kernel
theorem dL_law_1006 : decode cL_law 1006 = .ok (.iaload, 1) := by decide +kernel
theorem dL_law_1007 : decode cL_law 1007 = .ok (.invokevirtual 113, 3) := by decide +kernel
theorem dL_law_1010 : decode cL_law 1010 = .ok (.pop, 1) := by decide +kernel
theorem dL_law_1011 : decode cL_law 1011 = .ok (.aload_n 2, 1) := by decide +kernel
theorem dL_law_1012 : decode cL_law 1012 = .ok (.aload_n 0, 1) := by decide +kernel
theorem dL_law_1013 : decode cL_law 1013 = .ok (.iload 4, 2) := by decide +kernel
theorem dL_law_1015 : decode cL_law 1015 = .ok (.iconst 1, 1) := by decide +kernel
theorem dL_law_1016 : decode cL_law 1016 = .ok (.iadd, 1) := by decide +kernel
theorem dL_law_1017 : decode cL_law 1017 = .ok (.iaload, 1) := by decide +kernel
theorem dL_law_1018 : decode cL_law 1018 = .ok (.aload_n 0, 1) := by decide +kernel
theorem dL_law_1019 : decode cL_law 1019 = .ok (.iload 4, 2) := by decide +kernel
theorem dL_law_1021 : decode cL_law 1021 = .ok (.iconst 2, 1) := by decide +kernel
theorem dL_law_1022 : decode cL_law 1022 = .ok (.iadd, 1) := by decide +kernel
theorem dL_law_1023 : decode cL_law 1023 = .ok (.iaload, 1) := by decide +kernel
theorem dL_law_1024 : decode cL_law 1024 = .ok (.aload_n 0, 1) := by decide +kernel
theorem dL_law_1025 : decode cL_law 1025 = .ok (.iload 4, 2) := by decide +kernel
theorem dL_law_1027 : decode cL_law 1027 = .ok (.iconst 3, 1) := by decide +kernel
theorem dL_law_1028 : decode cL_law 1028 = .ok (.iadd, 1) := by decide +kernel
theorem dL_law_1029 : decode cL_law 1029 = .ok (.iaload, 1) := by decide +kernel
theorem dL_law_1030 : decode cL_law 1030 = .ok (.aload_n 0, 1) := by decide +kernel
theorem dL_law_1031 : decode cL_law 1031 = .ok (.iload 4, 2) := by decide +kernel
theorem dL_law_1033 : decode cL_law 1033 = .ok (.iconst 4, 1) := by decide +kernel
theorem dL_law_1034 : decode cL_law 1034 = .ok (.iadd, 1) := by decide +kernel
theorem dL_law_1035 : decode cL_law 1035 = .ok (.iaload, 1) := by decide +kernel
theorem dL_law_1036 : decode cL_law 1036 = .ok (.invokevirtual 116, 3) := by decide +kernel
theorem dL_law_1039 : decode cL_law 1039 = .ok (.pop, 1) := by decide +kernel
theorem dL_law_1040 : decode cL_law 1040 = .ok (.goto 425, 3) := by decide +kernel
theorem dL_law_1043 : decode cL_law 1043 = .ok (.aload_n 1, 1) := by decide +kernel
theorem dL_law_1044 : decode cL_law 1044 = .ok (.aload_n 0, 1) := by decide +kernel
theorem dL_law_1045 : decode cL_law 1045 = .ok (.iload 4, 2) := by decide +kernel
theorem dL_law_1047 : decode cL_law 1047 = .ok (.iconst 1, 1) := by decide +kernel
theorem dL_law_1048 : decode cL_law 1048 = .ok (.iadd, 1) := by decide +kernel
theorem dL_law_1049 : decode cL_law 1049 = .ok (.iaload, 1) := by decide +kernel
theorem dL_law_1050 : decode cL_law 1050 = .ok (.invokevirtual 117, 3) := by decide +kernel
theorem dL_law_1053 : decode cL_law 1053 = .ok (.pop, 1) := by decide +kernel
theorem dL_law_1054 : decode cL_law 1054 = .ok (.aload_n 2, 1) := by decide +kernel
theorem dL_law_1055 : decode cL_law 1055 = .ok (.aload_n 0, 1) := by decide +kernel
theorem dL_law_1056 : decode cL_law 1056 = .ok (.iload 4, 2) := by decide +kernel
theorem dL_law_1058 : decode cL_law 1058 = .ok (.iconst 1, 1) := by decide +kernel
theorem dL_law_1059 : decode cL_law 1059 = .ok (.iadd, 1) := by decide +kernel
theorem dL_law_1060 : decode cL_law 1060 = .ok (.iaload, 1) := by decide +kernel
theorem dL_law_1061 : decode cL_law 1061 = .ok (.invokevirtual 120, 3) := by decide +kernel
theorem dL_law_1064 : decode cL_law 1064 = .ok (.pop, 1) := by decide +kernel
theorem dL_law_1065 : decode cL_law 1065 = .ok (.goto 400, 3) := by decide +kernel
theorem dL_law_1068 : decode cL_law 1068 = .ok (.aload_n 1, 1) := by decide +kernel
theorem dL_law_1069 : decode cL_law 1069 = .ok (.aload_n 0, 1) := by decide +kernel
theorem dL_law_1070 : decode cL_law 1070 = .ok (.iload 4, 2) := by decide +kernel
theorem dL_law_1072 : decode cL_law 1072 = .ok (.iconst 1, 1) := by decide +kernel
theorem dL_law_1073 : decode cL_law 1073 = .ok (.iadd, 1) := by decide +kernel
theorem dL_law_1074 : decode cL_law 1074 = .ok (.iaload, 1) := by decide +kernel
theorem dL_law_1075 : decode cL_law 1075 = .ok (.invokevirtual 121, 3) := by decide +kernel
theorem dL_law_1078 : decode cL_law 1078 = .ok (.pop, 1) := by decide +kernel
theorem dL_law_1079 : decode cL_law 1079 = .ok (.aload_n 2, 1) := by decide +kernel
theorem dL_law_1080 : decode cL_law 1080 = .ok (.aload_n 0, 1) := by decide +kernel
theorem dL_law_1081 : decode cL_law 1081 = .ok (.iload 4, 2) := by decide +kernel
theorem dL_law_1083 : decode cL_law 1083 = .ok (.iconst 1, 1) := by decide +kernel
theorem dL_law_1084 : decode cL_law 1084 = .ok (.iadd, 1) := by decide +kernel
theorem dL_law_1085 : decode cL_law 1085 = .ok (.iaload, 1) := by decide +kernel
theorem dL_law_1086 : decode cL_law 1086 = .ok (.invokevirtual 124, 3) := by decide +kernel
theorem dL_law_1089 : decode cL_law 1089 = .ok (.pop, 1) := by decide +kernel
theorem dL_law_1090 : decode cL_law 1090 = .ok (.goto 375, 3) := by decide +kernel
theorem dL_law_1093 : decode cL_law 1093 = .ok (.aload_n 1, 1) := by decide +kernel
theorem dL_law_1094 : decode cL_law 1094 = .ok (.aload_n 0, 1) := by decide +kernel
theorem dL_law_1095 : decode cL_law 1095 = .ok (.iload 4, 2) := by decide +kernel
theorem dL_law_1097 : decode cL_law 1097 = .ok (.iconst 1, 1) := by decide +kernel
theorem dL_law_1098 : decode cL_law 1098 = .ok (.iadd, 1) := by decide +kernel
theorem dL_law_1099 : decode cL_law 1099 = .ok (.iaload, 1) := by decide +kernel
theorem dL_law_1100 : decode cL_law 1100 = .ok (.aload_n 0, 1) := by decide +kernel
theorem dL_law_1101 : decode cL_law 1101 = .ok (.iload 4, 2) := by decide +kernel
theorem dL_law_1103 : decode cL_law 1103 = .ok (.iconst 2, 1) := by decide +kernel
theorem dL_law_1104 : decode cL_law 1104 = .ok (.iadd, 1) := by decide +kernel
theorem dL_law_1105 : decode cL_law 1105 = .ok (.iaload, 1) := by decide +kernel
theorem dL_law_1106 : decode cL_law 1106 = .ok (.aload_n 0, 1) := by decide +kernel
theorem dL_law_1107 : decode cL_law 1107 = .ok (.iload 4, 2) := by decide +kernel
theorem dL_law_1109 : decode cL_law 1109 = .ok (.iconst 3, 1) := by decide +kernel
theorem dL_law_1110 : decode cL_law 1110 = .ok (.iadd, 1) := by decide +kernel
theorem dL_law_1111 : decode cL_law 1111 = .ok (.iaload, 1) := by decide +kernel
theorem dL_law_1112 : decode cL_law 1112 = .ok (.aload_n 0, 1) := by decide +kernel
theorem dL_law_1113 : decode cL_law 1113 = .ok (.iload 4, 2) := by decide +kernel
theorem dL_law_1115 : decode cL_law 1115 = .ok (.iconst 4, 1) := by decide +kernel
theorem dL_law_1116 : decode cL_law 1116 = .ok (.iadd, 1) := by decide +kernel
theorem dL_law_1117 : decode cL_law 1117 = .ok (.iaload, 1) := by decide +kernel
theorem dL_law_1118 : decode cL_law 1118 = .ok (.aload_n 0, 1) := by decide +kernel
theorem dL_law_1119 : decode cL_law 1119 = .ok (.iload 4, 2) := by decide +kernel
theorem dL_law_1121 : decode cL_law 1121 = .ok (.iconst 5, 1) := by decide +kernel
theorem dL_law_1122 : decode cL_law 1122 = .ok (.iadd, 1) := by decide +kernel
theorem dL_law_1123 : decode cL_law 1123 = .ok (.iaload, 1) := by decide +kernel
theorem dL_law_1124 : decode cL_law 1124 = .ok (.invokevirtual 125, 3) := by decide +kernel
theorem dL_law_1127 : decode cL_law 1127 = .ok (.pop, 1) := by decide +kernel
theorem dL_law_1128 : decode cL_law 1128 = .ok (.aload_n 2, 1) := by decide +kernel
theorem dL_law_1129 : decode cL_law 1129 = .ok (.aload_n 0, 1) := by decide +kernel
theorem dL_law_1130 : decode cL_law 1130 = .ok (.iload 4, 2) := by decide +kernel
theorem dL_law_1132 : decode cL_law 1132 = .ok (.iconst 1, 1) := by decide +kernel
theorem dL_law_1133 : decode cL_law 1133 = .ok (.iadd, 1) := by decide +kernel
theorem dL_law_1134 : decode cL_law 1134 = .ok (.iaload, 1) := by decide +kernel
theorem dL_law_1135 : decode cL_law 1135 = .ok (.aload_n 0, 1) := by decide +kernel
theorem dL_law_1136 : decode cL_law 1136 = .ok (.iload 4, 2) := by decide +kernel
theorem dL_law_1138 : decode cL_law 1138 = .ok (.iconst 2, 1) := by decide +kernel
theorem dL_law_1139 : decode cL_law 1139 = .ok (.iadd, 1) := by decide +kernel
theorem dL_law_1140 : decode cL_law 1140 = .ok (.iaload, 1) := by decide +kernel
theorem dL_law_1141 : decode cL_law 1141 = .ok (.aload_n 0, 1) := by decide +kernel
theorem dL_law_1142 : decode cL_law 1142 = .ok (.iload 4, 2) := by decide +kernel
theorem dL_law_1144 : decode cL_law 1144 = .ok (.iconst 3, 1) := by decide +kernel
theorem dL_law_1145 : decode cL_law 1145 = .ok (.iadd, 1) := by decide +kernel
theorem dL_law_1146 : decode cL_law 1146 = .ok (.iaload, 1) := by decide +kernel
theorem dL_law_1147 : decode cL_law 1147 = .ok (.aload_n 0, 1) := by decide +kernel
theorem dL_law_1148 : decode cL_law 1148 = .ok (.iload 4, 2) := by decide +kernel
theorem dL_law_1150 : decode cL_law 1150 = .ok (.iconst 4, 1) := by decide +kernel
theorem dL_law_1151 : decode cL_law 1151 = .ok (.iadd, 1) := by decide +kernel
theorem dL_law_1152 : decode cL_law 1152 = .ok (.iaload, 1) := by decide +kernel
theorem dL_law_1153 : decode cL_law 1153 = .ok (.aload_n 0, 1) := by decide +kernel
theorem dL_law_1154 : decode cL_law 1154 = .ok (.iload 4, 2) := by decide +kernel
theorem dL_law_1156 : decode cL_law 1156 = .ok (.iconst 5, 1) := by decide +kernel
theorem dL_law_1157 : decode cL_law 1157 = .ok (.iadd, 1) := by decide +kernel
theorem dL_law_1158 : decode cL_law 1158 = .ok (.iaload, 1) := by decide +kernel
theorem dL_law_1159 : decode cL_law 1159 = .ok (.invokevirtual 128, 3) := by decide +kernel
theorem dL_law_1162 : decode cL_law 1162 = .ok (.pop, 1) := by decide +kernel
theorem dL_law_1163 : decode cL_law 1163 = .ok (.goto 302, 3) := by decide +kernel
theorem dL_law_1166 : decode cL_law 1166 = .ok (.aload_n 1, 1) := by decide +kernel
theorem dL_law_1167 : decode cL_law 1167 = .ok (.invokevirtual 129, 3) := by decide +kernel
theorem dL_law_1170 : decode cL_law 1170 = .ok (.pop2, 1) := by decide +kernel
theorem dL_law_1171 : decode cL_law 1171 = .ok (.aload_n 2, 1) := by decide +kernel
theorem dL_law_1172 : decode cL_law 1172 = .ok (.invokevirtual 133, 3) := by decide +kernel
theorem dL_law_1175 : decode cL_law 1175 = .ok (.pop2, 1) := by decide +kernel
theorem dL_law_1176 : decode cL_law 1176 = .ok (.goto 289, 3) := by decide +kernel
theorem dL_law_1179 : decode cL_law 1179 = .ok (.aload_n 1, 1) := by decide +kernel
theorem dL_law_1180 : decode cL_law 1180 = .ok (.invokevirtual 134, 3) := by decide +kernel
theorem dL_law_1183 : decode cL_law 1183 = .ok (.pop, 1) := by decide +kernel
theorem dL_law_1184 : decode cL_law 1184 = .ok (.aload_n 2, 1) := by decide +kernel
theorem dL_law_1185 : decode cL_law 1185 = .ok (.invokevirtual 137, 3) := by decide +kernel
theorem dL_law_1188 : decode cL_law 1188 = .ok (.pop, 1) := by decide +kernel
theorem dL_law_1189 : decode cL_law 1189 = .ok (.goto 276, 3) := by decide +kernel
theorem dL_law_1192 : decode cL_law 1192 = .ok (.aload_n 1, 1) := by decide +kernel
theorem dL_law_1193 : decode cL_law 1193 = .ok (.invokevirtual 138, 3) := by decide +kernel
theorem dL_law_1196 : decode cL_law 1196 = .ok (.pop, 1) := by decide +kernel
theorem dL_law_1197 : decode cL_law 1197 = .ok (.aload_n 2, 1) := by decide +kernel
theorem dL_law_1198 : decode cL_law 1198 = .ok (.invokevirtual 141, 3) := by decide +kernel
theorem dL_law_1201 : decode cL_law 1201 = .ok (.pop, 1) := by decide +kernel
theorem dL_law_1202 : decode cL_law 1202 = .ok (.goto 263, 3) := by decide +kernel
theorem dL_law_1205 : decode cL_law 1205 = .ok (.aload_n 1, 1) := by decide +kernel
theorem dL_law_1206 : decode cL_law 1206 = .ok (.aload_n 0, 1) := by decide +kernel
theorem dL_law_1207 : decode cL_law 1207 = .ok (.iload 4, 2) := by decide +kernel
theorem dL_law_1209 : decode cL_law 1209 = .ok (.iconst 1, 1) := by decide +kernel
theorem dL_law_1210 : decode cL_law 1210 = .ok (.iadd, 1) := by decide +kernel
theorem dL_law_1211 : decode cL_law 1211 = .ok (.iaload, 1) := by decide +kernel
theorem dL_law_1212 : decode cL_law 1212 = .ok (.aload_n 0, 1) := by decide +kernel
theorem dL_law_1213 : decode cL_law 1213 = .ok (.iload 4, 2) := by decide +kernel
theorem dL_law_1215 : decode cL_law 1215 = .ok (.iconst 2, 1) := by decide +kernel
theorem dL_law_1216 : decode cL_law 1216 = .ok (.iadd, 1) := by decide +kernel
theorem dL_law_1217 : decode cL_law 1217 = .ok (.iaload, 1) := by decide +kernel
theorem dL_law_1218 : decode cL_law 1218 = .ok (.aload_n 0, 1) := by decide +kernel
theorem dL_law_1219 : decode cL_law 1219 = .ok (.iload 4, 2) := by decide +kernel
theorem dL_law_1221 : decode cL_law 1221 = .ok (.iconst 3, 1) := by decide +kernel
theorem dL_law_1222 : decode cL_law 1222 = .ok (.iadd, 1) := by decide +kernel
theorem dL_law_1223 : decode cL_law 1223 = .ok (.iaload, 1) := by decide +kernel
theorem dL_law_1224 : decode cL_law 1224 = .ok (.invokevirtual 142, 3) := by decide +kernel
theorem dL_law_1227 : decode cL_law 1227 = .ok (.pop, 1) := by decide +kernel
theorem dL_law_1228 : decode cL_law 1228 = .ok (.aload_n 2, 1) := by decide +kernel
theorem dL_law_1229 : decode cL_law 1229 = .ok (.aload_n 0, 1) := by decide +kernel
theorem dL_law_1230 : decode cL_law 1230 = .ok (.iload 4, 2) := by decide +kernel
theorem dL_law_1232 : decode cL_law 1232 = .ok (.iconst 1, 1) := by decide +kernel
theorem dL_law_1233 : decode cL_law 1233 = .ok (.iadd, 1) := by decide +kernel
theorem dL_law_1234 : decode cL_law 1234 = .ok (.iaload, 1) := by decide +kernel
theorem dL_law_1235 : decode cL_law 1235 = .ok (.aload_n 0, 1) := by decide +kernel
theorem dL_law_1236 : decode cL_law 1236 = .ok (.iload 4, 2) := by decide +kernel
theorem dL_law_1238 : decode cL_law 1238 = .ok (.iconst 2, 1) := by decide +kernel
theorem dL_law_1239 : decode cL_law 1239 = .ok (.iadd, 1) := by decide +kernel
theorem dL_law_1240 : decode cL_law 1240 = .ok (.iaload, 1) := by decide +kernel
theorem dL_law_1241 : decode cL_law 1241 = .ok (.aload_n 0, 1) := by decide +kernel
theorem dL_law_1242 : decode cL_law 1242 = .ok (.iload 4, 2) := by decide +kernel
theorem dL_law_1244 : decode cL_law 1244 = .ok (.iconst 3, 1) := by decide +kernel
theorem dL_law_1245 : decode cL_law 1245 = .ok (.iadd, 1) := by decide +kernel
theorem dL_law_1246 : decode cL_law 1246 = .ok (.iaload, 1) := by decide +kernel
theorem dL_law_1247 : decode cL_law 1247 = .ok (.invokevirtual 146, 3) := by decide +kernel
theorem dL_law_1250 : decode cL_law 1250 = .ok (.pop, 1) := by decide +kernel
theorem dL_law_1251 : decode cL_law 1251 = .ok (.goto 214, 3) := by decide +kernel
theorem dL_law_1254 : decode cL_law 1254 = .ok (.aload_n 1, 1) := by decide +kernel
theorem dL_law_1255 : decode cL_law 1255 = .ok (.aload_n 0, 1) := by decide +kernel
theorem dL_law_1256 : decode cL_law 1256 = .ok (.iload 4, 2) := by decide +kernel
theorem dL_law_1258 : decode cL_law 1258 = .ok (.iconst 1, 1) := by decide +kernel
theorem dL_law_1259 : decode cL_law 1259 = .ok (.iadd, 1) := by decide +kernel
theorem dL_law_1260 : decode cL_law 1260 = .ok (.iaload, 1) := by decide +kernel
theorem dL_law_1261 : decode cL_law 1261 = .ok (.invokevirtual 147, 3) := by decide +kernel
theorem dL_law_1264 : decode cL_law 1264 = .ok (.pop, 1) := by decide +kernel
theorem dL_law_1265 : decode cL_law 1265 = .ok (.aload_n 2, 1) := by decide +kernel
theorem dL_law_1266 : decode cL_law 1266 = .ok (.aload_n 0, 1) := by decide +kernel
theorem dL_law_1267 : decode cL_law 1267 = .ok (.iload 4, 2) := by decide +kernel
theorem dL_law_1269 : decode cL_law 1269 = .ok (.iconst 1, 1) := by decide +kernel
theorem dL_law_1270 : decode cL_law 1270 = .ok (.iadd, 1) := by decide +kernel
theorem dL_law_1271 : decode cL_law 1271 = .ok (.iaload, 1) := by decide +kernel
theorem dL_law_1272 : decode cL_law 1272 = .ok (.invokevirtual 150, 3) := by decide +kernel
theorem dL_law_1275 : decode cL_law 1275 = .ok (.pop, 1) := by decide +kernel
theorem dL_law_1276 : decode cL_law 1276 = .ok (.goto 189, 3) := by decide +kernel
theorem dL_law_1279 : decode cL_law 1279 = .ok (.aload_n 1, 1) := by decide +kernel
theorem dL_law_1280 : decode cL_law 1280 = .ok (.aload_n 0, 1) := by decide +kernel
theorem dL_law_1281 : decode cL_law 1281 = .ok (.iload 4, 2) := by decide +kernel
theorem dL_law_1283 : decode cL_law 1283 = .ok (.iconst 1, 1) := by decide +kernel
theorem dL_law_1284 : decode cL_law 1284 = .ok (.iadd, 1) := by decide +kernel
theorem dL_law_1285 : decode cL_law 1285 = .ok (.iaload, 1) := by decide +kernel
theorem dL_law_1286 : decode cL_law 1286 = .ok (.invokevirtual 151, 3) := by decide +kernel
theorem dL_law_1289 : decode cL_law 1289 = .ok (.pop, 1) := by decide +kernel
theorem dL_law_1290 : decode cL_law 1290 = .ok (.aload_n 2, 1) := by decide +kernel
theorem dL_law_1291 : decode cL_law 1291 = .ok (.aload_n 0, 1) := by decide +kernel
theorem dL_law_1292 : decode cL_law 1292 = .ok (.iload 4, 2) := by decide +kernel
theorem dL_law_1294 : decode cL_law 1294 = .ok (.iconst 1, 1) := by decide +kernel
theorem dL_law_1295 : decode cL_law 1295 = .ok (.iadd, 1) := by decide +kernel
theorem dL_law_1296 : decode cL_law 1296 = .ok (.iaload, 1) := by decide +kernel
theorem dL_law_1297 : decode cL_law 1297 = .ok (.invokevirtual 154, 3) := by decide +kernel
theorem dL_law_1300 : decode cL_law 1300 = .ok (.pop, 1) := by decide +kernel
theorem dL_law_1301 : decode cL_law 1301 = .ok (.goto 164, 3) := by decide +kernel
theorem dL_law_1304 : decode cL_law 1304 = .ok (.aload_n 1, 1) := by decide +kernel
theorem dL_law_1305 : decode cL_law 1305 = .ok (.invokevirtual 155, 3) := by decide +kernel
theorem dL_law_1308 : decode cL_law 1308 = .ok (.pop, 1) := by decide +kernel
theorem dL_law_1309 : decode cL_law 1309 = .ok (.aload_n 2, 1) := by decide +kernel
theorem dL_law_1310 : decode cL_law 1310 = .ok (.invokevirtual 158, 3) := by decide +kernel
theorem dL_law_1313 : decode cL_law 1313 = .ok (.pop, 1) := by decide +kernel
theorem dL_law_1314 : decode cL_law 1314 = .ok (.goto 151, 3) := by decide +kernel
theorem dL_law_1317 : decode cL_law 1317 = .ok (.aload_n 1, 1) := by decide +kernel
theorem dL_law_1318 : decode cL_law 1318 = .ok (.aload_n 0, 1) := by decide +kernel
theorem dL_law_1319 : decode cL_law 1319 = .ok (.iload 4, 2) := by decide +kernel
theorem dL_law_1321 : decode cL_law 1321 = .ok (.iconst 1, 1) := by decide +kernel
theorem dL_law_1322 : decode cL_law 1322 = .ok (.iadd, 1) := by decide +kernel
theorem dL_law_1323 : decode cL_law 1323 = .ok (.iaload, 1) := by decide +kernel
theorem dL_law_1324 : decode cL_law 1324 = .ok (.invokevirtual 159, 3) := by decide +kernel
theorem dL_law_1327 : decode cL_law 1327 = .ok (.pop, 1) := by decide +kernel
theorem dL_law_1328 : decode cL_law 1328 = .ok (.aload_n 2, 1) := by decide +kernel
theorem dL_law_1329 : decode cL_law 1329 = .ok (.aload_n 0, 1) := by decide +kernel
theorem dL_law_1330 : decode cL_law 1330 = .ok (.iload 4, 2) := by decide +kernel
theorem dL_law_1332 : decode cL_law 1332 = .ok (.iconst 1, 1) := by decide +kernel
theorem dL_law_1333 : decode cL_law 1333 = .ok (.iadd, 1) := by decide +kernel
theorem dL_law_1334 : decode cL_law 1334 = .ok (.iaload, 1) := by decide +kernel
theorem dL_law_1335 : decode cL_law 1335 = .ok (.invokevirtual 162, 3) := by decide +kernel
theorem dL_law_1338 : decode cL_law 1338 = .ok (.pop, 1) := by decide +kernel
theorem dL_law_1339 : decode cL_law 1339 = .ok (.goto 126, 3) := by decide +kernel
theorem dL_law_1342 : decode cL_law 1342 = .ok (.aload_n 1, 1) := by decide +kernel
theorem dL_law_1343 : decode cL_law 1343 = .ok (.aload_n 0, 1) := by decide +kernel
theorem dL_law_1344 : decode cL_law 1344 = .ok (.iload 4, 2) := by decide +kernel
theorem dL_law_1346 : decode cL_law 1346 = .ok (.iconst 1, 1) := by decide +kernel
theorem dL_law_1347 : decode cL_law 1347 = .ok (.iadd, 1) := by decide +kernel
theorem dL_law_1348 : decode cL_law 1348 = .ok (.iaload, 1) := by decide +kernel
theorem dL_law_1349 : decode cL_law 1349 = .ok (.aload_n 0, 1) := by decide +kernel
theorem dL_law_1350 : decode cL_law 1350 = .ok (.iload 4, 2) := by decide +kernel
theorem dL_law_1352 : decode cL_law 1352 = .ok (.iconst 2, 1) := by decide +kernel
theorem dL_law_1353 : decode cL_law 1353 = .ok (.iadd, 1) := by decide +kernel
theorem dL_law_1354 : decode cL_law 1354 = .ok (.iaload, 1) := by decide +kernel
theorem dL_law_1355 : decode cL_law 1355 = .ok (.aload_n 0, 1) := by decide +kernel
theorem dL_law_1356 : decode cL_law 1356 = .ok (.iload 4, 2) := by decide +kernel
theorem dL_law_1358 : decode cL_law 1358 = .ok (.iconst 3, 1) := by decide +kernel
theorem dL_law_1359 : decode cL_law 1359 = .ok (.iadd, 1) := by decide +kernel
theorem dL_law_1360 : decode cL_law 1360 = .ok (.iaload, 1) := by decide +kernel
theorem dL_law_1361 : decode cL_law 1361 = .ok (.aload_n 0, 1) := by decide +kernel
theorem dL_law_1362 : decode cL_law 1362 = .ok (.iload 4, 2) := by decide +kernel
theorem dL_law_1364 : decode cL_law 1364 = .ok (.iconst 4, 1) := by decide +kernel
theorem dL_law_1365 : decode cL_law 1365 = .ok (.iadd, 1) := by decide +kernel
theorem dL_law_1366 : decode cL_law 1366 = .ok (.iaload, 1) := by decide +kernel
theorem dL_law_1367 : decode cL_law 1367 = .ok (.aload_n 0, 1) := by decide +kernel
theorem dL_law_1368 : decode cL_law 1368 = .ok (.iload 4, 2) := by decide +kernel
theorem dL_law_1370 : decode cL_law 1370 = .ok (.iconst 5, 1) := by decide +kernel
theorem dL_law_1371 : decode cL_law 1371 = .ok (.iadd, 1) := by decide +kernel
theorem dL_law_1372 : decode cL_law 1372 = .ok (.iaload, 1) := by decide +kernel
theorem dL_law_1373 : decode cL_law 1373 = .ok (.invokevirtual 163, 3) := by decide +kernel
theorem dL_law_1376 : decode cL_law 1376 = .ok (.pop, 1) := by decide +kernel
theorem dL_law_1377 : decode cL_law 1377 = .ok (.aload_n 2, 1) := by decide +kernel
theorem dL_law_1378 : decode cL_law 1378 = .ok (.aload_n 0, 1) := by decide +kernel
theorem dL_law_1379 : decode cL_law 1379 = .ok (.iload 4, 2) := by decide +kernel
theorem dL_law_1381 : decode cL_law 1381 = .ok (.iconst 1, 1) := by decide +kernel
theorem dL_law_1382 : decode cL_law 1382 = .ok (.iadd, 1) := by decide +kernel
theorem dL_law_1383 : decode cL_law 1383 = .ok (.iaload, 1) := by decide +kernel
theorem dL_law_1384 : decode cL_law 1384 = .ok (.aload_n 0, 1) := by decide +kernel
theorem dL_law_1385 : decode cL_law 1385 = .ok (.iload 4, 2) := by decide +kernel
theorem dL_law_1387 : decode cL_law 1387 = .ok (.iconst 2, 1) := by decide +kernel
theorem dL_law_1388 : decode cL_law 1388 = .ok (.iadd, 1) := by decide +kernel
theorem dL_law_1389 : decode cL_law 1389 = .ok (.iaload, 1) := by decide +kernel
theorem dL_law_1390 : decode cL_law 1390 = .ok (.aload_n 0, 1) := by decide +kernel
theorem dL_law_1391 : decode cL_law 1391 = .ok (.iload 4, 2) := by decide +kernel
theorem dL_law_1393 : decode cL_law 1393 = .ok (.iconst 3, 1) := by decide +kernel
theorem dL_law_1394 : decode cL_law 1394 = .ok (.iadd, 1) := by decide +kernel
theorem dL_law_1395 : decode cL_law 1395 = .ok (.iaload, 1) := by decide +kernel
theorem dL_law_1396 : decode cL_law 1396 = .ok (.aload_n 0, 1) := by decide +kernel
theorem dL_law_1397 : decode cL_law 1397 = .ok (.iload 4, 2) := by decide +kernel
theorem dL_law_1399 : decode cL_law 1399 = .ok (.iconst 4, 1) := by decide +kernel
theorem dL_law_1400 : decode cL_law 1400 = .ok (.iadd, 1) := by decide +kernel
theorem dL_law_1401 : decode cL_law 1401 = .ok (.iaload, 1) := by decide +kernel
theorem dL_law_1402 : decode cL_law 1402 = .ok (.aload_n 0, 1) := by decide +kernel
theorem dL_law_1403 : decode cL_law 1403 = .ok (.iload 4, 2) := by decide +kernel
theorem dL_law_1405 : decode cL_law 1405 = .ok (.iconst 5, 1) := by decide +kernel
theorem dL_law_1406 : decode cL_law 1406 = .ok (.iadd, 1) := by decide +kernel
theorem dL_law_1407 : decode cL_law 1407 = .ok (.iaload, 1) := by decide +kernel
theorem dL_law_1408 : decode cL_law 1408 = .ok (.invokevirtual 166, 3) := by decide +kernel
theorem dL_law_1411 : decode cL_law 1411 = .ok (.pop, 1) := by decide +kernel
theorem dL_law_1412 : decode cL_law 1412 = .ok (.goto 53, 3) := by decide +kernel
theorem dL_law_1415 : decode cL_law 1415 = .ok (.aload_n 1, 1) := by decide +kernel
theorem dL_law_1416 : decode cL_law 1416 = .ok (.aload_n 0, 1) := by decide +kernel
theorem dL_law_1417 : decode cL_law 1417 = .ok (.iload 4, 2) := by decide +kernel
theorem dL_law_1419 : decode cL_law 1419 = .ok (.iconst 1, 1) := by decide +kernel
theorem dL_law_1420 : decode cL_law 1420 = .ok (.iadd, 1) := by decide +kernel
theorem dL_law_1421 : decode cL_law 1421 = .ok (.iaload, 1) := by decide +kernel
theorem dL_law_1422 : decode cL_law 1422 = .ok (.invokevirtual 167, 3) := by decide +kernel
theorem dL_law_1425 : decode cL_law 1425 = .ok (.pop, 1) := by decide +kernel
theorem dL_law_1426 : decode cL_law 1426 = .ok (.aload_n 2, 1) := by decide +kernel
theorem dL_law_1427 : decode cL_law 1427 = .ok (.aload_n 0, 1) := by decide +kernel
theorem dL_law_1428 : decode cL_law 1428 = .ok (.iload 4, 2) := by decide +kernel
theorem dL_law_1430 : decode cL_law 1430 = .ok (.iconst 1, 1) := by decide +kernel
theorem dL_law_1431 : decode cL_law 1431 = .ok (.iadd, 1) := by decide +kernel
theorem dL_law_1432 : decode cL_law 1432 = .ok (.iaload, 1) := by decide +kernel
theorem dL_law_1433 : decode cL_law 1433 = .ok (.invokevirtual 170, 3) := by decide +kernel
theorem dL_law_1436 : decode cL_law 1436 = .ok (.pop, 1) := by decide +kernel
theorem dL_law_1437 : decode cL_law 1437 = .ok (.goto 28, 3) := by decide +kernel
theorem dL_law_1440 : decode cL_law 1440 = .ok (.aload_n 1, 1) := by decide +kernel
theorem dL_law_1441 : decode cL_law 1441 = .ok (.aload_n 0, 1) := by decide +kernel
theorem dL_law_1442 : decode cL_law 1442 = .ok (.iload 4, 2) := by decide +kernel
theorem dL_law_1444 : decode cL_law 1444 = .ok (.iconst 1, 1) := by decide +kernel
theorem dL_law_1445 : decode cL_law 1445 = .ok (.iadd, 1) := by decide +kernel
theorem dL_law_1446 : decode cL_law 1446 = .ok (.iaload, 1) := by decide +kernel
theorem dL_law_1447 : decode cL_law 1447 = .ok (.invokevirtual 171, 3) := by decide +kernel
theorem dL_law_1450 : decode cL_law 1450 = .ok (.pop, 1) := by decide +kernel
theorem dL_law_1451 : decode cL_law 1451 = .ok (.aload_n 2, 1) := by decide +kernel
theorem dL_law_1452 : decode cL_law 1452 = .ok (.aload_n 0, 1) := by decide +kernel
theorem dL_law_1453 : decode cL_law 1453 = .ok (.iload 4, 2) := by decide +kernel
theorem dL_law_1455 : decode cL_law 1455 = .ok (.iconst 1, 1) := by decide +kernel
theorem dL_law_1456 : decode cL_law 1456 = .ok (.iadd, 1) := by decide +kernel
theorem dL_law_1457 : decode cL_law 1457 = .ok (.iaload, 1) := by decide +kernel
theorem dL_law_1458 : decode cL_law 1458 = .ok (.invokevirtual 174, 3) := by decide +kernel
theorem dL_law_1461 : decode cL_law 1461 = .ok (.pop, 1) := by decide +kernel
theorem dL_law_1462 : decode cL_law 1462 = .ok (.goto 3, 3) := by decide +kernel
theorem dL_law_1465 : decode cL_law 1465 = .ok (.iinc 4 6, 3) := by decide +kernel
theorem dL_law_1468 : decode cL_law 1468 = .ok (.goto (-1445), 3) := by decide +kernel
theorem dL_law_1471 : decode cL_law 1471 = .ok (.iconst 1, 1) := by decide +kernel
theorem dL_law_1472 : decode cL_law 1472 = .ok (.ireturn, 1) := by decide +kernel
theorem li_L_19 : xLI RL 19 yX11_init cX11_init 1 0 := ⟨Or.inl m_1_7, m_1_8, m_1_2, m_1_9, rfl, by decide +kernel⟩
theorem li_L_22 : xLI RL 22 yX12_init cX12_init 1 0 := ⟨Or.inl m_7_22, m_7_23, m_1_5, m_8_0, rfl, by decide +kernel⟩
theorem lk_L_102 : xLV RL 102 yX12_close cX12_close 4 (some .int) 0 := ⟨m_40_16, m_40_17, m_40_18, m_1_5, m_40_19, by decide +kernel⟩
theorem lk_L_108 : xLV RL 108 yX12_of cX12_of 3 (some .int) 2 := ⟨m_42_3, m_42_4, m_42_5, m_1_5, m_42_6, by decide +kernel⟩
theorem lk_L_112 : xLV RL 112 yX12_coin cX12_coin 2 (some .int) 1 := ⟨m_42_18, m_42_19, m_42_20, m_1_5, m_42_21, by decide +kernel⟩
theorem lk_L_113 : xLV RL 113 yX11_counted cX11_counted 5 (some .int) 4 := ⟨m_42_22, m_43_0, m_43_1, m_1_2, m_43_2, by decide +kernel⟩
theorem lk_L_116 : xLV RL 116 yX12_counted cX12_counted 5 (some .int) 4 := ⟨m_43_9, m_43_10, m_43_11, m_1_5, m_43_12, by decide +kernel⟩
theorem lk_L_117 : xLV RL 117 yX11_falseCounts cX11_falseCounts 2 (some .int) 1 := ⟨m_43_14, m_43_15, m_43_16, m_1_2, m_43_17, by decide +kernel⟩
theorem lk_L_120 : xLV RL 120 yX12_falseCounts cX12_falseCounts 7 (some .int) 1 := ⟨m_44_6, m_44_7, m_44_8, m_1_5, m_44_9, by decide +kernel⟩
theorem lk_L_121 : xLV RL 121 yX11_shortOf cX11_shortOf 2 (some .int) 1 := ⟨m_44_18, m_44_19, m_44_20, m_1_2, m_44_21, by decide +kernel⟩
theorem lk_L_124 : xLV RL 124 yX12_shortOf cX12_shortOf 9 (some .int) 1 := ⟨m_45_17, m_45_18, m_45_19, m_1_5, m_45_20, by decide +kernel⟩
theorem lk_L_125 : xLV RL 125 yX11_best cX11_best 7 (some .int) 5 := ⟨m_46_1, m_46_2, m_46_3, m_1_2, m_46_4, by decide +kernel⟩
theorem lk_L_128 : xLV RL 128 yX12_best cX12_best 19 (some .int) 5 := ⟨m_47_0, m_47_1, m_47_2, m_1_5, m_47_3, by decide +kernel⟩
theorem lk_L_129 : xLV RL 129 yX11_expected cX11_expected 1 (some .long) 0 := ⟨m_47_5, m_47_6, m_47_7, m_1_2, m_47_8, by decide +kernel⟩
theorem lk_L_133 : xLV RL 133 yX12_expected cX12_expected 1 (some .long) 0 := ⟨m_47_10, m_47_11, m_47_12, m_1_5, m_47_13, by decide +kernel⟩
theorem lk_L_134 : xLV RL 134 yX11_tried cX11_tried 1 (some .int) 0 := ⟨m_47_14, m_47_15, m_47_16, m_1_2, m_47_17, by decide +kernel⟩
theorem lk_L_137 : xLV RL 137 yX12_tried cX12_tried 5 (some .int) 0 := ⟨m_48_3, m_48_4, m_48_5, m_1_5, m_48_6, by decide +kernel⟩
theorem lk_L_138 : xLV RL 138 yX11_triedEaten cX11_triedEaten 1 (some .int) 0 := ⟨m_48_12, m_48_13, m_48_14, m_1_2, m_48_15, by decide +kernel⟩
theorem lk_L_141 : xLV RL 141 yX12_triedEaten cX12_triedEaten 1 (some .int) 0 := ⟨m_48_16, m_48_17, m_48_18, m_1_5, m_48_19, by decide +kernel⟩
theorem lk_L_142 : xLV RL 142 yX11_parted cX11_parted 6 (some .int) 3 := ⟨m_48_20, m_48_21, m_48_22, m_1_2, m_48_23, by decide +kernel⟩
theorem lk_L_146 : xLV RL 146 yX12_parted cX12_parted 7 (some .int) 3 := ⟨m_51_16, m_51_17, m_51_18, m_1_5, m_51_19, by decide +kernel⟩
theorem lk_L_147 : xLV RL 147 yX11_partedAt cX11_partedAt 2 (some .int) 1 := ⟨m_52_16, m_52_17, m_52_18, m_1_2, m_52_19, by decide +kernel⟩
theorem lk_L_150 : xLV RL 150 yX12_partedAt cX12_partedAt 2 (some .int) 1 := ⟨m_52_22, m_52_23, m_53_0, m_1_5, m_53_1, by decide +kernel⟩
theorem lk_L_151 : xLV RL 151 yX11_peace cX11_peace 2 (some .int) 1 := ⟨m_53_2, m_53_3, m_53_4, m_1_2, m_53_5, by decide +kernel⟩
theorem lk_L_154 : xLV RL 154 yX12_peace cX12_peace 2 (some .int) 1 := ⟨m_53_10, m_53_11, m_53_12, m_1_5, m_53_13, by decide +kernel⟩
theorem lk_L_155 : xLV RL 155 yX11_truck cX11_truck 2 (some .int) 0 := ⟨m_53_14, m_53_15, m_53_16, m_1_2, m_53_17, by decide +kernel⟩
theorem lk_L_158 : xLV RL 158 yX12_truck cX12_truck 7 (some .int) 0 := ⟨m_55_10, m_55_11, m_55_12, m_1_5, m_55_13, by decide +kernel⟩
theorem lk_L_159 : xLV RL 159 yX11_truckAt cX11_truckAt 2 (some .int) 1 := ⟨m_56_2, m_56_3, m_56_4, m_1_2, m_56_5, by decide +kernel⟩
theorem lk_L_162 : xLV RL 162 yX12_truckAt cX12_truckAt 2 (some .int) 1 := ⟨m_56_8, m_56_9, m_56_10, m_1_5, m_56_11, by decide +kernel⟩
theorem lk_L_163 : xLV RL 163 yX11_strike cX11_strike 7 (some .int) 5 := ⟨m_56_12, m_56_13, m_56_14, m_1_2, m_56_15, by decide +kernel⟩
theorem lk_L_166 : xLV RL 166 yX12_strike cX12_strike 13 (some .int) 5 := ⟨m_57_5, m_57_6, m_57_7, m_1_5, m_57_8, by decide +kernel⟩
theorem lk_L_167 : xLV RL 167 yX11_struck cX11_struck 2 (some .int) 1 := ⟨m_57_12, m_57_13, m_57_14, m_1_2, m_57_15, by decide +kernel⟩
theorem lk_L_170 : xLV RL 170 yX12_struck cX12_struck 2 (some .int) 1 := ⟨m_57_16, m_57_17, m_57_18, m_1_5, m_57_19, by decide +kernel⟩
theorem lk_L_171 : xLV RL 171 yX11_count cX11_count 2 (some .int) 1 := ⟨m_57_20, m_57_21, m_57_22, m_1_2, m_57_23, by decide +kernel⟩
theorem lk_L_174 : xLV RL 174 yX12_count cX12_count 2 (some .int) 1 := ⟨m_58_0, m_58_1, m_58_2, m_1_5, m_58_3, by decide +kernel⟩
theorem lk_L_23 : xLV RL 23 yX11_feed cX11_feed 6 (some .int) 5 := ⟨m_10_16, m_10_17, m_10_18, m_1_2, m_10_19, by decide +kernel⟩
theorem lk_L_27 : xLV RL 27 yX12_feed cX12_feed 6 (some .int) 5 := ⟨m_11_1, m_11_2, m_11_3, m_1_5, m_11_4, by decide +kernel⟩
theorem lk_L_28 : xLV RL 28 yX11_end cX11_end 2 (some .boolean) 1 := ⟨m_11_11, m_11_12, m_11_13, m_1_2, m_11_14, by decide +kernel⟩
theorem lk_L_32 : xLV RL 32 yX12_end cX12_end 2 (some .boolean) 1 := ⟨m_11_15, m_11_16, m_11_17, m_1_5, m_11_18, by decide +kernel⟩
theorem lk_L_33 : xLV RL 33 yX11_boy cX11_boy 6 (some .int) 4 := ⟨m_11_19, m_11_20, m_11_21, m_1_2, m_11_22, by decide +kernel⟩
theorem lk_L_37 : xLV RL 37 yX12_boy cX12_boy 5 (some .int) 4 := ⟨m_15_7, m_15_8, m_15_9, m_1_5, m_15_10, by decide +kernel⟩
theorem lk_L_38 : xLV RL 38 yX11_badge cX11_badge 3 (some .boolean) 2 := ⟨m_15_15, m_15_16, m_15_17, m_1_2, m_15_18, by decide +kernel⟩
theorem lk_L_42 : xLV RL 42 yX12_badge cX12_badge 3 (some .boolean) 2 := ⟨m_16_18, m_16_19, m_16_20, m_1_5, m_16_21, by decide +kernel⟩
theorem lk_L_43 : xLV RL 43 yX11_owner cX11_owner 3 (some .boolean) 2 := ⟨m_17_2, m_17_3, m_17_4, m_1_2, m_17_5, by decide +kernel⟩
theorem lk_L_46 : xLV RL 46 yX12_owner cX12_owner 3 (some .boolean) 2 := ⟨m_17_10, m_17_11, m_17_12, m_1_5, m_17_13, by decide +kernel⟩
theorem lk_L_47 : xLV RL 47 yX11_weather cX11_weather 2 (some .boolean) 0 := ⟨m_17_17, m_17_18, m_17_19, m_1_2, m_17_20, by decide +kernel⟩
theorem lk_L_51 : xLV RL 51 yX12_weather cX12_weather 3 (some .boolean) 0 := ⟨m_18_7, m_18_8, m_18_9, m_1_5, m_18_10, by decide +kernel⟩
theorem lk_L_52 : xLV RL 52 yX11_sky cX11_sky 2 (some .int) 1 := ⟨m_18_16, m_18_17, m_18_18, m_1_2, m_18_19, by decide +kernel⟩
theorem lk_L_55 : xLV RL 55 yX12_sky cX12_sky 2 (some .int) 1 := ⟨m_18_21, m_18_22, m_18_23, m_1_5, m_19_0, by decide +kernel⟩
theorem lk_L_56 : xLV RL 56 yX11_headline cX11_headline 4 (some .boolean) 3 := ⟨m_19_8, m_19_9, m_19_10, m_1_2, m_19_11, by decide +kernel⟩
theorem lk_L_60 : xLV RL 60 yX12_headline cX12_headline 4 (some .boolean) 3 := ⟨m_19_19, m_19_20, m_19_21, m_1_5, m_19_22, by decide +kernel⟩
theorem lk_L_61 : xLV RL 61 yX11_table cX11_table 4 (some .boolean) 3 := ⟨m_20_3, m_20_4, m_20_5, m_1_2, m_20_6, by decide +kernel⟩
theorem lk_L_64 : xLV RL 64 yX12_table cX12_table 4 (some .boolean) 3 := ⟨m_20_12, m_20_13, m_20_14, m_1_5, m_20_15, by decide +kernel⟩
theorem lk_L_65 : xLV RL 65 yX11_want cX11_want 4 (some .boolean) 3 := ⟨m_20_16, m_20_17, m_20_18, m_1_2, m_20_19, by decide +kernel⟩
theorem lk_L_68 : xLV RL 68 yX12_want cX12_want 4 (some .boolean) 3 := ⟨m_20_21, m_20_22, m_20_23, m_1_5, m_21_0, by decide +kernel⟩
theorem lk_L_69 : xLV RL 69 yX11_asked cX11_asked 5 (some .int) 4 := ⟨m_21_1, m_21_2, m_21_3, m_1_2, m_21_4, by decide +kernel⟩
theorem lk_L_73 : xLV RL 73 yX12_asked cX12_asked 5 (some .int) 4 := ⟨m_21_9, m_21_10, m_21_11, m_1_5, m_21_12, by decide +kernel⟩
theorem lk_L_74 : xLV RL 74 yX11_minutes cX11_minutes 4 (some .boolean) 3 := ⟨m_21_17, m_21_18, m_21_19, m_1_2, m_21_20, by decide +kernel⟩
theorem lk_L_77 : xLV RL 77 yX12_minutes cX12_minutes 4 (some .boolean) 3 := ⟨m_21_22, m_21_23, m_22_0, m_1_5, m_22_1, by decide +kernel⟩
theorem lk_L_78 : xLV RL 78 yX11_terms cX11_terms 3 (some .int) 1 := ⟨m_22_7, m_22_8, m_22_9, m_1_2, m_22_10, by decide +kernel⟩
theorem lk_L_81 : xLV RL 81 yX12_terms cX12_terms 4 (some .int) 1 := ⟨m_28_3, m_28_4, m_28_5, m_1_5, m_28_6, by decide +kernel⟩
theorem lk_L_82 : xLV RL 82 yX11_fault cX11_fault 1 (some .int) 0 := ⟨m_32_9, m_32_10, m_32_11, m_1_2, m_32_12, by decide +kernel⟩
theorem lk_L_86 : xLV RL 86 yX12_fault cX12_fault 1 (some .int) 0 := ⟨m_32_13, m_32_14, m_32_15, m_1_5, m_32_16, by decide +kernel⟩
theorem lk_L_87 : xLV RL 87 yX11_bundle cX11_bundle 7 (some .int) 5 := ⟨m_32_17, m_32_18, m_32_19, m_1_2, m_32_20, by decide +kernel⟩
theorem lk_L_90 : xLV RL 90 yX12_bundle cX12_bundle 8 (some .int) 5 := ⟨m_36_1, m_36_2, m_36_3, m_1_5, m_36_4, by decide +kernel⟩
theorem lk_L_91 : xLV RL 91 yX11_told cX11_told 5 (some .int) 2 := ⟨m_37_4, m_37_5, m_37_6, m_1_2, m_37_7, by decide +kernel⟩
theorem lk_L_94 : xLV RL 94 yX12_told cX12_told 4 (some .int) 2 := ⟨m_37_18, m_37_19, m_37_20, m_1_5, m_37_21, by decide +kernel⟩
theorem lk_L_95 : xLV RL 95 yX11_why cX11_why 1 (some .int) 0 := ⟨m_38_2, m_38_3, m_38_4, m_1_2, m_38_5, by decide +kernel⟩
theorem lk_L_98 : xLV RL 98 yX12_why cX12_why 1 (some .int) 0 := ⟨m_38_6, m_38_7, m_38_8, m_1_5, m_38_9, by decide +kernel⟩
theorem lk_L_99 : xLV RL 99 yX11_close cX11_close 1 (some .int) 0 := ⟨m_38_10, m_38_11, m_38_12, m_1_2, m_38_13, by decide +kernel⟩
theorem nw_L_20 : xNw RL 20 13 RX12 TX12 91 tyX12 [.int 0, .null, .int 0, .int 0, .null, .null, .null, .null, .null, .null, .null, .null, .null, .null, .null, .null, .int 0, .int 0, .int 0, .int 0, .int 0, .int 0, .int 0, .int 0, .int 0, .int 0, .int 0, .int 0, .long 0, .null, .null, .null, .null, .null, .null, .null, .null, .null, .null, .int 0, .int 0, .int 0, .int 0, .int 0, .int 0, .null, .null, .int 0, .null, .null, .null, .null, .null, .null, .null, .null, .null, .null, .int 0, .int 0, .null, .null, .null, .null, .null, .null, .null, .null, .null, .int 0, .long 0, .int 0, .null, .null, .null, .null, .null, .null, .int 0, .int 0, .null, .null, .null, .null, .null, .null, .null, .int 0, .int 0, .int 0, .int 0] := ⟨by decide, rfl, inlX12, tyX12_ok, dfX12, m_1_3, m_1_4, m_1_5⟩
theorem nw_L_8 : xNw RL 8 12 RX11 TX11 18 tyX11 [.null, .null, .null, .null, .null, .null, .null, .null, .null, .null, .null, .null, .int 0, .int 0, .int 0, .int 0, .int 0, .int 0] := ⟨by decide, rfl, inlX11, tyX11_ok, dfX11, m_1_0, m_1_1, m_1_2⟩
theorem xPi_seal {S S1 : xT} {g : xG} {a q r ci : Nat} (h : xPi S g a) (hq : S q = some (r, 0)) (hS : S1 = xset S q (ci, 0)) (hr : 5000 ≤ r ∧ r < 5100) : xPi S1 g a := by
  obtain ⟨p, q', c, d, n, h1, h2, h3, h4, h5, h6, h7, h8, h9, h10, h11, h12, h13, h14, h15⟩ := h
  have ho : ∀ b, b ≠ q → S1 b = S b := fun b hb => by rw [hS]; exact xset_o hb
  exact ⟨p, q', c, d, n, xhs_seal ho hq h1 (by omega), h2, h3, h4, xhs_seal ho hq h5 (by omega), xhs_seal ho hq h6 (by omega), h7, h8, h9, xhs_seal ho hq h10 (by omega), xhs_seal ho hq h11 (by omega), h12, h13, h14, h15⟩
section XSR
variable {K : xCx} {E : xEn} {own : String} {cc : ByteArray} {Lw : List (Nat × Nat)} {nL rf rc rs rl : Nat} {pc : Nat} {lv : List (Nat × Value)} {st : List Value} {S : xT} {g : xG} {cells slots : Nat}
theorem X_scr (hK : xK K E own cc Lw nL rf rc rs rl) {b n : Nat} {xs : Nat → Int32} {j : Int} (hX : va_X b n xs K.2.2.2.2.1 K.2.2.2.2.1.heap) (hbl : b < K.2.2.2.2.1.heap.size) (hbA : ¬ E.2.2.1 ≤ b) (hn : n ≤ 3072) (q1 : 0 ≤ j) (q2 : j < n) (hd : decode cc pc = .ok (.iaload, 1)) (kk : ∀ z : Int, xs j.toNat = iI z → -2147483648 ≤ z → z ≤ 2147483647 → X K E (pc + 1) lv (.int (iI z) :: st) S g cells slots) : X K E pc lv (.int (iI j) :: .ref b :: st) S g cells slots := by
  intro H locs ls h1 h2 h3 h4 h5 h6
  refine va_sld (A := fun q => E.2.2.1 ≤ q) hK.1 hK.2.1 hX hbl hbA h5 (iI_in q1 q2 (by omega)) hd ?_
  rw [iI_clamp q1 (by omega)]
  exact X_anyi kk H locs ls h1 h2 h3 h4 h5 h6
theorem X_scrK (hK : xK K E own cc Lw nL rf rc rs rl) {b n : Nat} {xs : Nat → Int32} {j z : Int} (hX : va_X b n xs K.2.2.2.2.1 K.2.2.2.2.1.heap) (hbl : b < K.2.2.2.2.1.heap.size) (hbA : ¬ E.2.2.1 ≤ b) (hn : n ≤ 3072) (q1 : 0 ≤ j) (q2 : j < n) (e : xs j.toNat = iI z) (hd : decode cc pc = .ok (.iaload, 1)) (kk : X K E (pc + 1) lv (.int (iI z) :: st) S g cells slots) : X K E pc lv (.int (iI j) :: .ref b :: st) S g cells slots := by
  intro H locs ls h1 h2 h3 h4 h5 h6
  refine va_sld (A := fun q => E.2.2.1 ≤ q) hK.1 hK.2.1 hX hbl hbA h5 (iI_in q1 q2 (by omega)) hd ?_
  rw [iI_clamp q1 (by omega), e]
  exact kk H locs ls h1 h2 h3 h4 h5 h6
theorem X_sclen (hK : xK K E own cc Lw nL rf rc rs rl) {b n : Nat} {xs : Nat → Int32} (hX : va_X b n xs K.2.2.2.2.1 K.2.2.2.2.1.heap) (hbl : b < K.2.2.2.2.1.heap.size) (hbA : ¬ E.2.2.1 ≤ b) (hd : decode cc pc = .ok (.arraylength, 1)) (kk : X K E (pc + 1) lv (.int (iI (n : Int)) :: st) S g cells slots) : X K E pc lv (.ref b :: st) S g cells slots := by
  intro H locs ls h1 h2 h3 h4 h5 h6
  refine va_slen (A := fun q => E.2.2.1 ≤ q) hK.1 hK.2.1 hX hbl hbA h5 hd ?_
  rw [← Int32.ofInt_eq_ofNat]
  exact kk H locs ls h1 h2 h3 h4 h5 h6
end XSR
def xLW : List (Nat × Nat) := [(5010, 0), (5010, 1), (5012, 0), (5004, 0), (5004, 1), (11000, 0), (5004, 2), (11100, 0), (5004, 3), (5004, 4), (11400, 0), (5004, 5), (5004, 6), (11500, 0), (5006, 0), (5000, 0), (5000, 1), (5006, 1), (5006, 2), (5006, 3), (5006, 4), (5006, 5), (5006, 6), (5006, 7), (5012, 1), (5012, 2), (5005, 0), (5005, 1), (5005, 2), (5005, 3), (5012, 3), (5012, 4), (5011, 0), (5011, 1), (5011, 2), (5011, 3), (5011, 4), (5011, 5), (5011, 6), (5011, 7), (5012, 5), (5008, 0), (5008, 1), (5008, 2), (5008, 3), (5008, 4), (5008, 5), (5008, 6), (5012, 6), (5012, 7), (5003, 0), (5003, 1), (5003, 2), (5003, 3), (5012, 8), (5009, 0), (5009, 1), (5009, 2), (5009, 3), (5009, 4), (5009, 5), (5012, 9), (5007, 0), (5007, 1), (5007, 2), (5007, 3), (5007, 4), (5007, 5), (5007, 6), (5007, 7), (5007, 8), (5007, 9), (5012, 10), (5012, 11), (5012, 12), (5012, 13), (5012, 14), (5012, 15), (5012, 16), (5012, 17), (5013, 1), (5013, 4), (5013, 5), (5013, 6), (5013, 7), (5013, 8), (14600, 0), (5013, 9), (5013, 10), (5013, 11), (5013, 12), (15000, 0), (5013, 13), (15100, 0), (5013, 14), (5013, 15), (5013, 29), (5013, 30), (5013, 31), (5013, 32), (5013, 33), (5013, 34), (5013, 35), (5013, 36), (5013, 37), (5013, 38), (5013, 45), (5013, 46), (5013, 47), (5013, 48), (5013, 49), (5013, 50), (5013, 51), (5013, 52), (5013, 53), (5013, 54), (5013, 55), (5013, 56), (5013, 57), (5013, 59), (5013, 60), (5013, 61), (5013, 62), (5013, 63), (5013, 64), (5013, 65), (5013, 66), (5013, 67), (5013, 68), (5013, 71), (5013, 72), (5013, 73), (5013, 74), (5013, 75), (5013, 76), (5013, 77), (5013, 80), (5013, 81), (5013, 82), (5013, 83), (5013, 84), (5013, 85), (5013, 86), (5013, 89), (5013, 90), (13500, 0), (10, 1), (13, 0), (14100, 0), (13, 2), (5001, 5), (5001, 0), (5001, 1), (5001, 2), (5001, 4), (5001, 3), (0, 0), (0, 1), (0, 2), (10103, 0), (14200, 0), (19301, 0), (14300, 0), (14400, 0), (13, 16), (1, 4), (10700, 0), (14700, 0), (13, 17), (10800, 0), (14800, 0), (11200, 0), (14900, 0), (13, 18), (15200, 0), (12900, 0), (13000, 0), (8, 2), (8, 3), (8, 4), (8, 5), (8, 6), (11, 1), (11, 2), (13600, 0), (13700, 0), (13800, 0), (13900, 0), (14000, 0), (12, 13), (11, 0), (300, 0), (300, 1), (300, 2), (10303, 0), (12, 7), (13, 19), (13, 25), (13, 27), (13, 40), (13, 41), (13, 43), (13, 44), (13, 20), (13, 21), (13, 22), (13, 24), (13, 28), (13, 23), (15300, 0), (13, 26), (15500, 0), (15600, 0), (15700, 0), (13, 42), (15900, 0), (16000, 0), (16100, 0), (16200, 0), (15800, 0), (15400, 0), (13, 39), (5002, 7), (5002, 8), (5002, 9), (5002, 10), (5002, 0), (5002, 1), (5002, 2), (5002, 3), (5002, 4), (5002, 5), (5002, 6), (12000, 0), (2, 7), (1, 5), (100, 0), (100, 1), (100, 2), (10203, 0), (16300, 0), (13, 47), (19401, 0), (14500, 0), (16400, 0), (16500, 0), (16600, 0), (16700, 0), (16800, 0), (16900, 0), (17000, 0), (13, 58), (12, 14), (13, 59), (6, 5), (6, 6), (6, 7), (200, 0), (200, 2), (10403, 0), (200, 1), (2, 8), (2, 9), (2, 10), (12, 12), (19501, 0), (17400, 0), (17500, 0), (19601, 0), (13, 3), (17100, 0), (17200, 0), (17300, 0), (12802, 0), (11700, 0), (11800, 0), (11900, 0), (5, 3), (17600, 0), (17700, 0), (17800, 0), (17900, 0), (18000, 0), (13, 69), (3, 2), (10500, 0), (10600, 0), (3, 3), (13, 70), (12, 15), (13, 71), (7, 0), (12100, 0), (12200, 0), (12600, 0), (7, 9), (12500, 0), (12300, 0), (12, 10), (12, 11), (12400, 0), (12701, 0), (18600, 0), (18700, 0), (18100, 0), (18200, 0), (19701, 0), (18300, 0), (18500, 0), (13, 78), (13, 79), (18400, 0), (9, 4), (13100, 0), (13200, 0), (9, 3), (13400, 0), (9, 5), (13300, 0), (19100, 0), (19200, 0), (19000, 0), (13, 87), (13, 88), (18800, 0), (18900, 0), (12, 16), (12, 17), (13, 89), (13, 90)]
set_option maxHeartbeats 16000000 in
set_option maxRecDepth 100000 in
theorem law_X {K : xCx} {E : xEn} {b L : Nat} {xs : Nat → Int32} {S : xT} {g : xG} (hst : K.2.1.stackTraces = false) (hK : xK K E RL cL_law xLW 7 2048 601024 7293034 84000) (hts : ∀ w ∈ lw_tbl, w.before K.2.2.2.2.2.2.1 K.2.2.2.2.1 = true) (hT : tsr (fun q => E.2.2.1 ≤ q) K.2.2.2.2.1 K.2.2.2.2.1.heap) (hp3 : xP3 K.2.2.2.2.1) (hret : ∀ (pc : Nat) (lv : List (Nat × Value)) (S1 : xT) (g1 : xG) (cells slots : Nat), decode cL_law pc = .ok (.ireturn, 1) → cells ≤ 601024 → slots ≤ 7293034 → X K E pc lv [.int (iI 1)] S1 g1 cells slots) (hL : L ≤ 3072) (hX : va_X b L xs K.2.2.2.2.1 K.2.2.2.2.1.heap) (hbl : b < K.2.2.2.2.1.heap.size) (hbA : ¬ E.2.2.1 ≤ b) (hem : S (E.2.2.2.2.2.2.2 0) = some (20003, 0)) (hab : xAb S) (hsi : xSi S E.2.2.2.2.2.2.2) : X K E 0 [(0, .ref b)] [] S g 0 0 := by
  refine X_new hK nw_L_8 (by omega) (by omega) dL_law_0 (fun b1 S2 g3 zb1 nb1 hSb1 hg3 qb1 hs_b1 => ?_)
  have A4 : xLs S2 g3 := xLs_al (xAb.ls hab) (hg3 ▸ xM_new (L := []) xM.rf nb1) rfl qb1 (xNw2.one hSb1) (by decide)
  refine X_dup hK dL_law_3 rfl ?_
  refine X_callIU hK [] [.ref b1] li_L_19 (c_X11_init _ _ _ _ _ S2 g3 b1 hs_b1 (xSi.nw hsi (xNw2.one hSb1) (by decide)) (fun a9 t9 n9 h9 => ((xNw2.tr xNw2.rf (hSb1 ▸ xNw2.set (by decide)) (fun _ h => h)) a9 t9 n9 h9).elim (hab a9 t9 n9) (fun q9 => (show ∀ t8 ∈ [5012], t8 ≠ 0 ∧ t8 ≠ 100 ∧ t8 ≠ 200 ∧ t8 ≠ 300 by decide) t9 q9)) (qb1 _ _ hem)) dL_law_4 rfl rfl (by simp [Value.category]) (by decide) (by omega) (by omega) (by decide) (fun r5 S7 g6 dcr5 dsr5 pr5 qr5 hg6 => ?_)
  obtain ⟨wr5, rfl, k8, k9, k10, k11, k12, k13, k14, k15, k16, k17, k18, k19⟩ := pr5
  refine X_st [.ref b1] rfl ?_
  obtain ⟨b20, eb20, hs_b20, fb20⟩ := k15
  obtain ⟨b21, eb21, hs_b21, yb21⟩ := k16
  obtain ⟨b22, b23, b24, b25, eb22, hs_b22, zb22, eb23, hs_b23, zb23, eb24, hs_b24, zb24, eb25, hs_b25, zb25⟩ := yb21
  refine X_seal (ci := 12) zb1 (qr5 _ _ hs_b1) (by decide) k19 (fun a9 t9 n9 k9 _ _ _ c9 h9 => Or.inr (h9 ▸ xsl_raw t9 k9 (by omega))) (fun k9 => xsl_raw _ k9 (by omega)) (fun S26 hSy27 hs_y27 hoy27 => ?_)
  have hk28 := (xhs_seal hoy27 (qr5 _ _ hs_b1) (qr5 _ _ (qb1 _ _ hem)) (by decide))
  have hk29 := (xhs_seal hoy27 (qr5 _ _ hs_b1) hs_b20 (by decide))
  have hk30 := (xhs_seal hoy27 (qr5 _ _ hs_b1) hs_b21 (by decide))
  have hk31 := (xhs_seal hoy27 (qr5 _ _ hs_b1) hs_b22 (by decide))
  have hk32 := (xhs_seal hoy27 (qr5 _ _ hs_b1) hs_b23 (by decide))
  have hk33 := (xhs_seal hoy27 (qr5 _ _ hs_b1) hs_b24 (by decide))
  have hk34 := (xhs_seal hoy27 (qr5 _ _ hs_b1) hs_b25 (by decide))
  have pi35 : xPi S26 g6 b1 := xPi_of k11 (qr5 _ _ hs_b1) hSy27
  obtain ⟨b36, eb36, hs_b36, fb36⟩ := k18
  obtain ⟨b37, b38, b39, eb37, hs_b37, fb37, eb38, hs_b38, eb39, hs_b39, fb39, fb38⟩ := k17
  refine X_astoren hK (i := 1) [(1, .ref b1), (0, .ref b)] dL_law_7 rfl (by decide) rfl ?_
  refine X_new hK nw_L_20 (by omega) (by omega) dL_law_8 (fun b40 S41 g42 zb40 nb40 hSb40 hg42 qb40 hs_b40 => ?_)
  have A43 : xLs S41 g42 := xLs_al (xLs_seal k8 (qr5 _ _ hs_b1) hSy27 (by decide) (by decide)) (hg42 ▸ xM_new (L := []) xM.rf nb40) rfl qb40 (xNw2.one hSb40) (by decide)
  have hk44 := (qb40 _ _ (xhs_seal hoy27 (qr5 _ _ hs_b1) hs_b36 (by decide)))
  have hk45 := (qb40 _ _ (xhs_seal hoy27 (qr5 _ _ hs_b1) hs_b37 (by decide)))
  have hk46 := (qb40 _ _ (xhs_seal hoy27 (qr5 _ _ hs_b1) hs_b38 (by decide)))
  have hk47 := (qb40 _ _ (xhs_seal hoy27 (qr5 _ _ hs_b1) hs_b39 (by decide)))
  refine X_dup hK dL_law_11 rfl ?_
  refine X_callIU hK [] [.ref b40] li_L_22 (c_X12_init _ _ _ _ _ S41 g42 b40 hs_b40 (by rw [hg42, xrow_s]; rfl) (by rw [hg42, xrow_s]; rfl) (by rw [hg42, xrow_s]; rfl) (by rw [hg42, xrow_s]; rfl) (by rw [hg42, xrow_s]; rfl) (by rw [hg42, xrow_s]; rfl) (by rw [hg42, xrow_s]; rfl) (by rw [hg42, xrow_s]; rfl) (by rw [hg42, xrow_s]; rfl) (by rw [hg42, xrow_s]; rfl) (by rw [hg42, xrow_s]; rfl) (by rw [hg42, xrow_s]; rfl) (by rw [hg42, xrow_s]; rfl) (by rw [hg42, xrow_s]; rfl) (by rw [hg42, xrow_s]; rfl) (by rw [hg42, xrow_s]; rfl) (by rw [hg42, xrow_s]; rfl) (by rw [hg42, xrow_s]; rfl) (by rw [hg42, xrow_s]; rfl) (by rw [hg42, xrow_s]; rfl) (by rw [hg42, xrow_s]; rfl) (by rw [hg42, xrow_s]; rfl) (by rw [hg42, xrow_s]; rfl) (by rw [hg42, xrow_s]; rfl) (by rw [hg42, xrow_s]; rfl) (by rw [hg42, xrow_s]; rfl) (by rw [hg42, xrow_s]; rfl) (by rw [hg42, xrow_s]; rfl) (by rw [hg42, xrow_s]; rfl)) dL_law_12 rfl rfl (by simp [Value.category]) (by decide) (by omega) (by omega) (by decide) (fun r48 S50 g49 dcr48 dsr48 pr48 qr48 hg49 => ?_)
  obtain ⟨wr48, rfl, k51, k52, k53, k54, k55, k56, k57, k58, k59, k60, k61, k62⟩ := pr48
  have A63 : xLs S50 g49 := xLs_al A43 hg49 (by decide) qr48 wr48 (by decide)
  refine X_st [.ref b40] rfl ?_
  obtain ⟨b64, b65, b66, eb64, hs_b64, zb64, eb65, hs_b65, zb65, eb66, hs_b66, zb66⟩ := k60
  refine X_seal (ci := 13) zb40 (qr48 _ _ hs_b40) (by decide) k62 (fun a9 t9 n9 k9 _ _ _ c9 h9 => Or.inr (h9 ▸ xsl_raw t9 k9 (by omega))) (fun k9 => xsl_raw _ k9 (by omega)) (fun S67 hSy68 hs_y68 hoy68 => ?_)
  have hk69 := (xhs_seal hoy68 (qr48 _ _ hs_b40) (qr48 _ _ (qb40 _ _ hk28)) (by decide))
  have hk70 := (xhs_seal hoy68 (qr48 _ _ hs_b40) (qr48 _ _ (qb40 _ _ hs_y27)) (by decide))
  have hk71 := (xhs_seal hoy68 (qr48 _ _ hs_b40) (qr48 _ _ (qb40 _ _ hk29)) (by decide))
  have hk72 := (xhs_seal hoy68 (qr48 _ _ hs_b40) (qr48 _ _ (qb40 _ _ hk30)) (by decide))
  have hk73 := (xhs_seal hoy68 (qr48 _ _ hs_b40) (qr48 _ _ (qb40 _ _ hk31)) (by decide))
  have hk74 := (xhs_seal hoy68 (qr48 _ _ hs_b40) (qr48 _ _ (qb40 _ _ hk32)) (by decide))
  have hk75 := (xhs_seal hoy68 (qr48 _ _ hs_b40) (qr48 _ _ (qb40 _ _ hk33)) (by decide))
  have hk76 := (xhs_seal hoy68 (qr48 _ _ hs_b40) (qr48 _ _ (qb40 _ _ hk34)) (by decide))
  have hk77 := (xhs_seal hoy68 (qr48 _ _ hs_b40) (qr48 _ _ hk44) (by decide))
  have hk78 := (xhs_seal hoy68 (qr48 _ _ hs_b40) (qr48 _ _ hk45) (by decide))
  have hk79 := (xhs_seal hoy68 (qr48 _ _ hs_b40) (qr48 _ _ hk46) (by decide))
  have hk80 := (xhs_seal hoy68 (qr48 _ _ hs_b40) (qr48 _ _ hk47) (by decide))
  have hk81 := (xhs_seal hoy68 (qr48 _ _ hs_b40) hs_b64 (by decide))
  have hk82 := (xhs_seal hoy68 (qr48 _ _ hs_b40) hs_b65 (by decide))
  have hk83 := (xhs_seal hoy68 (qr48 _ _ hs_b40) hs_b66 (by decide))
  have pi84 : xPi S67 g49 b1 := xPi_seal (xPi_m (xPi_m pi35 (hg42 ▸ xM_new (L := []) xM.rf nb40) qb40 (by decide)) hg49 qr48 (by decide)) (qr48 _ _ hs_b40) hSy68 (by decide)
  have mm85 := xMj.mp k61 (qr48 _ _ hs_b40) hSy68
  have tmm85 := k61.1
  refine X_knowr 13500 420 hk77 (by decide) sl_10_0 (fun b86 eb86 hs_b86 => ?_)
  refine X_knowr 14100 420 hs_y68 (by decide) sl_13_1 (fun b87 eb87 hs_b87 => ?_)
  refine X_knowr 14700 400 hs_y68 (by decide) sl_13_10 (fun b88 eb88 hs_b88 => ?_)
  refine X_astoren hK (i := 2) [(2, .ref b40), (1, .ref b1), (0, .ref b)] dL_law_15 rfl (by decide) rfl ?_
  refine X_iconst hK dL_law_16 ?_
  refine X_newa hK (ty := .long) 12802 2 (.long 0) rfl (fun _ => rfl) rfl (by decide) m_1_6 (by omega) ⟨by show _ * 8 ≤ _; omega, by omega⟩ (by omega) (by omega) (fun _ _ h9 => h9) (fun S9 k9 => by rw [sl_12802]; exact ⟨0, rfl⟩) dL_law_17 (fun b89 S90 g91 zb89 nb89 hSb89 hg91 qb89 hs_b89 => ?_)
  have A92 : xLs S90 g91 := xLs_al (xLs_seal A63 (qr48 _ _ hs_b40) hSy68 (by decide) (by decide)) (hg91 ▸ xM_new (L := []) xM.rf nb89) rfl qb89 (xNw2.one hSb89) (by decide)
  refine X_astoren hK (i := 3) [(3, .ref b89), (2, .ref b40), (1, .ref b1), (0, .ref b)] dL_law_19 rfl (by decide) rfl ?_
  refine X_iconst hK dL_law_20 ?_
  refine X_istore hK (i := 4) [(4, .int (iI 0)), (3, .ref b89), (2, .ref b40), (1, .ref b1), (0, .ref b)] dL_law_21 (by decide) rfl ?_
  have P9 : ∀ (n9 : Nat) (S93 : xT) (qS93 : xLe S90 S93) (g94 : xG) (i9 k9 t9 c9 b9 sh9 sp9 sm9 fa9 tn9 : Int) (hi9 : 0 ≤ i9 ∧ i9 ≤ 3072) (hk9 : 0 ≤ k9 ∧ k9 ≤ 420) (ht9 : 0 ≤ t9 ∧ t9 ≤ 400) (hc9 : 0 ≤ c9 ∧ c9 ≤ 60) (hb9 : 0 ≤ b9 ∧ b9 ≤ 40) (hsh9 : -2147483648 ≤ sh9 ∧ sh9 ≤ 2147483647) (hsp9 : -2147483648 ≤ sp9 ∧ sp9 ≤ 2147483647) (hsm9 : 0 ≤ sm9 ∧ sm9 ≤ 400) (hfa9 : -2147483648 ≤ fa9 ∧ fa9 ≤ 2147483647) (htn9 : 0 ≤ tn9 ∧ tn9 ≤ 10) (al9 : xLs S93 g94) (si9 : xSi S93 E.2.2.2.2.2.2.2) (pi9 : xPi S93 g94 b1) (mp9 : xMp S93 g94 b40) (tw9 : xTw S93 g94 b40) (el09 : g94 b1 0 = .ref b36) (el19 : g94 b1 3 = .ref b37) (el29 : g94 b1 1 = .ref b38) (el39 : g94 b38 1 = .ref b39) (el49 : g94 b1 2 = .ref b21) (el59 : g94 b21 0 = .ref b22) (el69 : g94 b21 2 = .ref b23) (el79 : g94 b21 3 = .ref b24) (el89 : g94 b21 4 = .ref b25) (el99 : g94 b1 4 = .ref b20) (el109 : g94 b36 0 = .ref b86) (el119 : g94 b40 1 = .ref b87) (el129 : g94 b40 10 = .ref b88) (el139 : g94 b40 13 = .ref b64) (el149 : g94 b40 14 = .ref b65) (el159 : g94 b40 12 = .ref b66) (exk9 : g94 b36 1 = .int (iI k9)) (emk9 : g94 b40 2 = .int (iI k9)) (ext9 : g94 b1 12 = .int (iI t9)) (emt9 : g94 b40 3 = .int (iI t9)) (exc9 : g94 b37 3 = .int (iI c9)) (emc9 : g94 b40 69 = .int (iI c9)) (exb9 : g94 b39 2 = .int (iI b9)) (emb9 : g94 b40 16 = .int (iI b9)) (exsh9 : g94 b1 16 = .int (iI sh9)) (emsh9 : g94 b40 89 = .int (iI sh9)) (exsp9 : g94 b1 17 = .int (iI sp9)) (emsp9 : g94 b40 90 = .int (iI sp9)) (emsm9 : g94 b40 17 = .int (iI sm9)) (exfa9 : g94 b1 13 = .int (iI fa9)) (emfa9 : g94 b40 25 = .int (iI fa9)) (extn9 : g94 b20 2 = .int (iI tn9)) (emtn9 : g94 b40 39 = .int (iI tn9)) (wn9 : xWn S93 g94 b25 b66) (wt9 : xTc (xv g94 b23) (xv g94 b64) 4) (ld9 : xTc (xv g94 b24) (xv g94 b65) 6) (sk9 : xSm (xv g94 b22) (xv g94 b88) sm9) (tc9 : xTc (xv g94 b86) (xv g94 b87) k9) (dc9 ds9 : Nat) (hdc9 : (dc9 : Int) ≤ 200 + 4 * i9) (hds9 : (ds9 : Int) ≤ 20000 + 1000 * i9) (hm9 : 4000 - i9 < (n9 : Int)), X K E 23 [(4, .int (iI i9)), (3, .ref b89), (2, .ref b40), (1, .ref b1), (0, .ref b)] [] S93 g94 dc9 ds9 := by
    intro n9
    induction n9 with
    | zero => intro S93 qS93 g94 i9 k9 t9 c9 b9 sh9 sp9 sm9 fa9 tn9 hi9 hk9 ht9 hc9 hb9 hsh9 hsp9 hsm9 hfa9 htn9 al9 si9 pi9 mp9 tw9 el09 el19 el29 el39 el49 el59 el69 el79 el89 el99 el109 el119 el129 el139 el149 el159 exk9 emk9 ext9 emt9 exc9 emc9 exb9 emb9 exsh9 emsh9 exsp9 emsp9 emsm9 exfa9 emfa9 extn9 emtn9 wn9 wt9 ld9 sk9 tc9 dc9 ds9 hdc9 hds9 hm9; exact False.elim (by omega)
    | succ n9 ih9 =>
      intro S93 qS93 g94 i9 k9 t9 c9 b9 sh9 sp9 sm9 fa9 tn9 hi9 hk9 ht9 hc9 hb9 hsh9 hsp9 hsm9 hfa9 htn9 al9 si9 pi9 mp9 tw9 el09 el19 el29 el39 el49 el59 el69 el79 el89 el99 el109 el119 el129 el139 el149 el159 exk9 emk9 ext9 emt9 exc9 emc9 exb9 emb9 exsh9 emsh9 exsp9 emsp9 emsm9 exfa9 emfa9 extn9 emtn9 wn9 wt9 ld9 sk9 tc9 dc9 ds9 hdc9 hds9 hm9
      refine X_iload hK (i := 4) 0 dL_law_23 rfl ?_
      refine X_aloadn hK (i := 0) 4 dL_law_25 rfl rfl ?_
      refine X_sclen hK hX hbl hbA dL_law_26 ?_
      refine X_bipush hK dL_law_27 (by decide) ?_
      refine X_isub hK dL_law_29 ?_
      refine X_icmp_gt hK 1471 (by omega) (by omega) dL_law_30 (by decide) (fun c95 => ?_) (fun c95 => ?_)
      · refine X_iconst hK dL_law_1471 ?_
        exact hret _ _ _ _ _ _ dL_law_1472 (by omega) (by omega)
      · refine X_aloadn hK (i := 0) 4 dL_law_33 rfl rfl ?_
        refine X_iload hK (i := 4) 0 dL_law_34 rfl ?_
        refine X_scr hK hX hbl hbA hL (by omega) (by omega) dL_law_36 (fun z96 ez96 lz96 uz96 => ?_)
        refine X_bipush hK dL_law_37 (by decide) ?_
        refine X_iand hK dL_law_39 (fun z97 ez97 lz97 uz97 => ?_)
        have bz97 := xandB ez97 ⟨lz97, uz97⟩ (by omega)
        rcases (show (z97 < 0 ∨ 34 < z97) ∨ z97 = 0 ∨ z97 = 1 ∨ z97 = 2 ∨ z97 = 3 ∨ z97 = 4 ∨ z97 = 5 ∨ z97 = 6 ∨ z97 = 7 ∨ z97 = 8 ∨ z97 = 9 ∨ z97 = 10 ∨ z97 = 11 ∨ z97 = 12 ∨ z97 = 13 ∨ z97 = 14 ∨ z97 = 15 ∨ z97 = 16 ∨ z97 = 17 ∨ z97 = 18 ∨ z97 = 19 ∨ z97 = 20 ∨ z97 = 21 ∨ z97 = 22 ∨ z97 = 23 ∨ z97 = 24 ∨ z97 = 25 ∨ z97 = 26 ∨ z97 = 27 ∨ z97 = 28 ∨ z97 = 29 ∨ z97 = 30 ∨ z97 = 31 ∨ z97 = 32 ∨ z97 = 33 ∨ z97 = 34 by omega) with c98 | c98 | c98 | c98 | c98 | c98 | c98 | c98 | c98 | c98 | c98 | c98 | c98 | c98 | c98 | c98 | c98 | c98 | c98 | c98 | c98 | c98 | c98 | c98 | c98 | c98 | c98 | c98 | c98 | c98 | c98 | c98 | c98 | c98 | c98 | c98
        · refine X_tableOut hK 1465 (by omega) c98 dL_law_40 (by decide) ?_
          refine X_iinc hK (i := 4) (z := i9) (n := 6) 0 [(4, .int (iI (i9 + 6))), (3, .ref b89), (2, .ref b40), (1, .ref b1), (0, .ref b)] dL_law_1465 rfl (by decide) rfl ?_
          refine X_goto hK 23 dL_law_1468 (by decide) ?_
          exact ih9 S93 qS93 g94 (i9 + 6) k9 t9 c9 b9 sh9 sp9 sm9 fa9 tn9 (by omega) (by omega) (by omega) (by omega) (by omega) (by omega) (by omega) (by omega) (by omega) (by omega) al9 si9 pi9 mp9 tw9 el09 el19 el29 el39 el49 el59 el69 el79 el89 el99 el109 el119 el129 el139 el149 el159 exk9 emk9 ext9 emt9 exc9 emc9 exb9 emb9 exsh9 emsh9 exsp9 emsp9 emsm9 exfa9 emfa9 extn9 emtn9 wn9 (by exact wt9) (by exact ld9) (by exact sk9) (by exact xTc.mono tc9 (by omega)) dc9 ds9 (by omega) (by omega) (by omega)
        · refine X_tableIn hK 196 0 (by decide) c98 (by decide) (by decide) dL_law_40 rfl (by decide) ?_
          refine X_aloadn hK (i := 1) 3 dL_law_196 rfl rfl ?_
          refine X_aloadn hK (i := 0) 4 dL_law_197 rfl rfl ?_
          refine X_iload hK (i := 4) 0 dL_law_198 rfl ?_
          refine X_iconst hK dL_law_200 ?_
          refine X_iadd hK dL_law_201 ?_
          refine X_scr hK hX hbl hbA hL (by omega) (by omega) dL_law_202 (fun z99 ez99 lz99 uz99 => ?_)
          refine X_aloadn hK (i := 0) 4 dL_law_203 rfl rfl ?_
          refine X_iload hK (i := 4) 0 dL_law_204 rfl ?_
          refine X_iconst hK dL_law_206 ?_
          refine X_iadd hK dL_law_207 ?_
          refine X_scr hK hX hbl hbA hL (by omega) (by omega) dL_law_208 (fun z100 ez100 lz100 uz100 => ?_)
          refine X_aloadn hK (i := 0) 4 dL_law_209 rfl rfl ?_
          refine X_iload hK (i := 4) 0 dL_law_210 rfl ?_
          refine X_iconst hK dL_law_212 ?_
          refine X_iadd hK dL_law_213 ?_
          refine X_scr hK hX hbl hbA hL (by omega) (by omega) dL_law_214 (fun z101 ez101 lz101 uz101 => ?_)
          refine X_aloadn hK (i := 0) 4 dL_law_215 rfl rfl ?_
          refine X_iload hK (i := 4) 0 dL_law_216 rfl ?_
          refine X_iconst hK dL_law_218 ?_
          refine X_iadd hK dL_law_219 ?_
          refine X_scr hK hX hbl hbA hL (by omega) (by omega) dL_law_220 (fun z102 ez102 lz102 uz102 => ?_)
          refine X_aloadn hK (i := 0) 4 dL_law_221 rfl rfl ?_
          refine X_iload hK (i := 4) 0 dL_law_222 rfl ?_
          refine X_iconst hK dL_law_224 ?_
          refine X_iadd hK dL_law_225 ?_
          refine X_scr hK hX hbl hbA hL (by omega) (by omega) dL_law_226 (fun z103 ez103 lz103 uz103 => ?_)
          refine X_callV hK [.int (iI z99), .int (iI z100), .int (iI z101), .int (iI z102), .int (iI z103)] [] lk_L_23 (c_X11_feed _ _ _ _ _ S93 g94 b1 z99 z100 z101 z102 z103 b36 k9 b86 (qS93 _ _ (qb89 _ _ hk70)) (by omega) (by omega) (by omega) (by omega) (by omega) el09 (qS93 _ _ (qb89 _ _ hk77)) (by omega) exk9 el109 (qS93 _ _ (qb89 _ _ hs_b86))) (qS93 _ _ (qb89 _ _ hk70)) ⟨by decide, rfl⟩ dL_law_227 rfl rfl (by simp [Value.category]) (by decide) (by omega) (by omega) (by decide) (fun r104 S106 g105 pr104 qr104 hg105 => ?_)
          obtain ⟨rfl, z107, rfl, lz107, uz107, k108, k109, k110⟩ := pr104
          refine X_st [.int (iI z107)] rfl ?_
          refine X_pop hK dL_law_230 rfl ?_
          refine X_aloadn hK (i := 2) 2 dL_law_231 rfl rfl ?_
          refine X_aloadn hK (i := 0) 4 dL_law_232 rfl rfl ?_
          refine X_iload hK (i := 4) 0 dL_law_233 rfl ?_
          refine X_iconst hK dL_law_235 ?_
          refine X_iadd hK dL_law_236 ?_
          refine X_scrK hK hX hbl hbA hL (by omega) (by omega) ez99 dL_law_237 ?_
          refine X_aloadn hK (i := 0) 4 dL_law_238 rfl rfl ?_
          refine X_iload hK (i := 4) 0 dL_law_239 rfl ?_
          refine X_iconst hK dL_law_241 ?_
          refine X_iadd hK dL_law_242 ?_
          refine X_scrK hK hX hbl hbA hL (by omega) (by omega) ez100 dL_law_243 ?_
          refine X_aloadn hK (i := 0) 4 dL_law_244 rfl rfl ?_
          refine X_iload hK (i := 4) 0 dL_law_245 rfl ?_
          refine X_iconst hK dL_law_247 ?_
          refine X_iadd hK dL_law_248 ?_
          refine X_scrK hK hX hbl hbA hL (by omega) (by omega) ez101 dL_law_249 ?_
          refine X_aloadn hK (i := 0) 4 dL_law_250 rfl rfl ?_
          refine X_iload hK (i := 4) 0 dL_law_251 rfl ?_
          refine X_iconst hK dL_law_253 ?_
          refine X_iadd hK dL_law_254 ?_
          refine X_scrK hK hX hbl hbA hL (by omega) (by omega) ez102 dL_law_255 ?_
          refine X_aloadn hK (i := 0) 4 dL_law_256 rfl rfl ?_
          refine X_iload hK (i := 4) 0 dL_law_257 rfl ?_
          refine X_iconst hK dL_law_259 ?_
          refine X_iadd hK dL_law_260 ?_
          refine X_scrK hK hX hbl hbA hL (by omega) (by omega) ez103 dL_law_261 ?_
          refine X_callV hK [.int (iI z99), .int (iI z100), .int (iI z101), .int (iI z102), .int (iI z103)] [] lk_L_27 (c_X12_feed _ _ _ _ _ S93 g105 b40 z99 z100 z101 z102 z103 k9 b87 (qS93 _ _ (qb89 _ _ hs_y68)) (by omega) (by omega) (by omega) (by omega) (by omega) (by omega) ((hg105 b40 13 0 2 (qS93 _ _ (qb89 _ _ hs_y68)) (by decide)).trans emk9) ((hg105 b40 13 0 1 (qS93 _ _ (qb89 _ _ hs_y68)) (by decide)).trans el119) (qS93 _ _ (qb89 _ _ hs_b87))) (qS93 _ _ (qb89 _ _ hs_y68)) ⟨by decide, rfl⟩ dL_law_262 rfl rfl (by simp [Value.category]) (by decide) (by omega) (by omega) (by decide) (fun r111 S113 g112 pr111 qr111 hg112 => ?_)
          obtain ⟨rfl, z114, rfl, lz114, uz114, k115, k116, k117⟩ := pr111
          refine X_st [.int (iI z114)] rfl ?_
          refine X_pop hK dL_law_265 rfl ?_
          refine X_goto hK 1465 dL_law_266 (by decide) ?_
          refine X_iinc hK (i := 4) (z := i9) (n := 6) 0 [(4, .int (iI (i9 + 6))), (3, .ref b89), (2, .ref b40), (1, .ref b1), (0, .ref b)] dL_law_1465 rfl (by decide) rfl ?_
          refine X_goto hK 23 dL_law_1468 (by decide) ?_
          exact ih9 S93 qS93 g112 (i9 + 6) (if k9 ≤ 400 then k9 + 20 else k9) t9 c9 b9 sh9 sp9 sm9 fa9 tn9 (by omega) (by first | omega | (split <;> omega)) (by omega) (by omega) (by omega) (by omega) (by omega) (by omega) (by omega) (by omega) (xLs_mod (xLs_mod al9 hg105 (by decide)) hg112 (by decide)) si9 (xPi_m (xPi_m pi9 hg105 xLe.rf (by decide)) hg112 xLe.rf (by decide)) (xMp_m (xMp_m mp9 hg105 xLe.rf (by decide)) hg112 xLe.rf (by decide)) (xTw_m (xTw_m tw9 hg105 xLe.rf (by decide)) hg112 xLe.rf (by decide)) ((hg112 b1 12 0 0 (qS93 _ _ (qb89 _ _ hk70)) (by decide)).trans ((hg105 b1 12 0 0 (qS93 _ _ (qb89 _ _ hk70)) (by decide)).trans el09)) ((hg112 b1 12 0 3 (qS93 _ _ (qb89 _ _ hk70)) (by decide)).trans ((hg105 b1 12 0 3 (qS93 _ _ (qb89 _ _ hk70)) (by decide)).trans el19)) ((hg112 b1 12 0 1 (qS93 _ _ (qb89 _ _ hk70)) (by decide)).trans ((hg105 b1 12 0 1 (qS93 _ _ (qb89 _ _ hk70)) (by decide)).trans el29)) ((hg112 b38 6 0 1 (qS93 _ _ (qb89 _ _ hk79)) (by decide)).trans ((hg105 b38 6 0 1 (qS93 _ _ (qb89 _ _ hk79)) (by decide)).trans el39)) ((hg112 b1 12 0 2 (qS93 _ _ (qb89 _ _ hk70)) (by decide)).trans ((hg105 b1 12 0 2 (qS93 _ _ (qb89 _ _ hk70)) (by decide)).trans el49)) ((hg112 b21 4 0 0 (qS93 _ _ (qb89 _ _ hk72)) (by decide)).trans ((hg105 b21 4 0 0 (qS93 _ _ (qb89 _ _ hk72)) (by decide)).trans el59)) ((hg112 b21 4 0 2 (qS93 _ _ (qb89 _ _ hk72)) (by decide)).trans ((hg105 b21 4 0 2 (qS93 _ _ (qb89 _ _ hk72)) (by decide)).trans el69)) ((hg112 b21 4 0 3 (qS93 _ _ (qb89 _ _ hk72)) (by decide)).trans ((hg105 b21 4 0 3 (qS93 _ _ (qb89 _ _ hk72)) (by decide)).trans el79)) ((hg112 b21 4 0 4 (qS93 _ _ (qb89 _ _ hk72)) (by decide)).trans ((hg105 b21 4 0 4 (qS93 _ _ (qb89 _ _ hk72)) (by decide)).trans el89)) ((hg112 b1 12 0 4 (qS93 _ _ (qb89 _ _ hk70)) (by decide)).trans ((hg105 b1 12 0 4 (qS93 _ _ (qb89 _ _ hk70)) (by decide)).trans el99)) ((hg112 b36 10 0 0 (qS93 _ _ (qb89 _ _ hk77)) (by decide)).trans ((hg105 b36 10 0 0 (qS93 _ _ (qb89 _ _ hk77)) (by decide)).trans el109)) ((hg112 b40 13 0 1 (qS93 _ _ (qb89 _ _ hs_y68)) (by decide)).trans ((hg105 b40 13 0 1 (qS93 _ _ (qb89 _ _ hs_y68)) (by decide)).trans el119)) ((hg112 b40 13 0 10 (qS93 _ _ (qb89 _ _ hs_y68)) (by decide)).trans ((hg105 b40 13 0 10 (qS93 _ _ (qb89 _ _ hs_y68)) (by decide)).trans el129)) ((hg112 b40 13 0 13 (qS93 _ _ (qb89 _ _ hs_y68)) (by decide)).trans ((hg105 b40 13 0 13 (qS93 _ _ (qb89 _ _ hs_y68)) (by decide)).trans el139)) ((hg112 b40 13 0 14 (qS93 _ _ (qb89 _ _ hs_y68)) (by decide)).trans ((hg105 b40 13 0 14 (qS93 _ _ (qb89 _ _ hs_y68)) (by decide)).trans el149)) ((hg112 b40 13 0 12 (qS93 _ _ (qb89 _ _ hs_y68)) (by decide)).trans ((hg105 b40 13 0 12 (qS93 _ _ (qb89 _ _ hs_y68)) (by decide)).trans el159)) ((hg112 b36 10 0 1 (qS93 _ _ (qb89 _ _ hk77)) (by decide)).trans k108) k115 ((hg112 b1 12 0 12 (qS93 _ _ (qb89 _ _ hk70)) (by decide)).trans ((hg105 b1 12 0 12 (qS93 _ _ (qb89 _ _ hk70)) (by decide)).trans ext9)) ((hg112 b40 13 0 3 (qS93 _ _ (qb89 _ _ hs_y68)) (by decide)).trans ((hg105 b40 13 0 3 (qS93 _ _ (qb89 _ _ hs_y68)) (by decide)).trans emt9)) ((hg112 b37 5 0 3 (qS93 _ _ (qb89 _ _ hk78)) (by decide)).trans ((hg105 b37 5 0 3 (qS93 _ _ (qb89 _ _ hk78)) (by decide)).trans exc9)) ((hg112 b40 13 0 69 (qS93 _ _ (qb89 _ _ hs_y68)) (by decide)).trans ((hg105 b40 13 0 69 (qS93 _ _ (qb89 _ _ hs_y68)) (by decide)).trans emc9)) ((hg112 b39 0 0 2 (qS93 _ _ (qb89 _ _ hk80)) (by decide)).trans ((hg105 b39 0 0 2 (qS93 _ _ (qb89 _ _ hk80)) (by decide)).trans exb9)) ((hg112 b40 13 0 16 (qS93 _ _ (qb89 _ _ hs_y68)) (by decide)).trans ((hg105 b40 13 0 16 (qS93 _ _ (qb89 _ _ hs_y68)) (by decide)).trans emb9)) ((hg112 b1 12 0 16 (qS93 _ _ (qb89 _ _ hk70)) (by decide)).trans ((hg105 b1 12 0 16 (qS93 _ _ (qb89 _ _ hk70)) (by decide)).trans exsh9)) ((hg112 b40 13 0 89 (qS93 _ _ (qb89 _ _ hs_y68)) (by decide)).trans ((hg105 b40 13 0 89 (qS93 _ _ (qb89 _ _ hs_y68)) (by decide)).trans emsh9)) ((hg112 b1 12 0 17 (qS93 _ _ (qb89 _ _ hk70)) (by decide)).trans ((hg105 b1 12 0 17 (qS93 _ _ (qb89 _ _ hk70)) (by decide)).trans exsp9)) ((hg112 b40 13 0 90 (qS93 _ _ (qb89 _ _ hs_y68)) (by decide)).trans ((hg105 b40 13 0 90 (qS93 _ _ (qb89 _ _ hs_y68)) (by decide)).trans emsp9)) ((hg112 b40 13 0 17 (qS93 _ _ (qb89 _ _ hs_y68)) (by decide)).trans ((hg105 b40 13 0 17 (qS93 _ _ (qb89 _ _ hs_y68)) (by decide)).trans emsm9)) ((hg112 b1 12 0 13 (qS93 _ _ (qb89 _ _ hk70)) (by decide)).trans ((hg105 b1 12 0 13 (qS93 _ _ (qb89 _ _ hk70)) (by decide)).trans exfa9)) ((hg112 b40 13 0 25 (qS93 _ _ (qb89 _ _ hs_y68)) (by decide)).trans ((hg105 b40 13 0 25 (qS93 _ _ (qb89 _ _ hs_y68)) (by decide)).trans emfa9)) ((hg112 b20 300 0 2 (qS93 _ _ (qb89 _ _ hk71)) (by decide)).trans ((hg105 b20 300 0 2 (qS93 _ _ (qb89 _ _ hk71)) (by decide)).trans extn9)) ((hg112 b40 13 0 39 (qS93 _ _ (qb89 _ _ hs_y68)) (by decide)).trans ((hg105 b40 13 0 39 (qS93 _ _ (qb89 _ _ hs_y68)) (by decide)).trans emtn9)) (xWn.m (xWn.m wn9 (qS93 _ _ (qb89 _ _ hk76)) (qS93 _ _ (qb89 _ _ hk83)) hg105 xLe.rf (by decide)) (qS93 _ _ (qb89 _ _ hk76)) (qS93 _ _ (qb89 _ _ hk83)) hg112 xLe.rf (by decide)) (by rw [(Eq.trans (xv_m hg112 (qS93 _ _ (qb89 _ _ hk74)) (by decide) (by decide)) (xv_m hg105 (qS93 _ _ (qb89 _ _ hk74)) (by decide) (by decide))), (Eq.trans (xv_m hg112 (qS93 _ _ (qb89 _ _ hk81)) (by decide) (by decide)) (xv_m hg105 (qS93 _ _ (qb89 _ _ hk81)) (by decide) (by decide)))]; exact wt9) (by rw [(Eq.trans (xv_m hg112 (qS93 _ _ (qb89 _ _ hk75)) (by decide) (by decide)) (xv_m hg105 (qS93 _ _ (qb89 _ _ hk75)) (by decide) (by decide))), (Eq.trans (xv_m hg112 (qS93 _ _ (qb89 _ _ hk82)) (by decide) (by decide)) (xv_m hg105 (qS93 _ _ (qb89 _ _ hk82)) (by decide) (by decide)))]; exact ld9) (by rw [(Eq.trans (xv_m hg112 (qS93 _ _ (qb89 _ _ hk73)) (by decide) (by decide)) (xv_m hg105 (qS93 _ _ (qb89 _ _ hk73)) (by decide) (by decide))), (Eq.trans (xv_m hg112 (qS93 _ _ (qb89 _ _ hs_b88)) (by decide) (by decide)) (xv_m hg105 (qS93 _ _ (qb89 _ _ hs_b88)) (by decide) (by decide)))]; exact sk9) (by rw [(xv_m hg112 (qS93 _ _ (qb89 _ _ hs_b86)) (by decide) (by decide))]; exact xTc.feed tc9 k110 (by rw [← (xv_m hg105 (qS93 _ _ (qb89 _ _ hs_b87)) (by decide) (by decide))]; exact k117)) dc9 ds9 (by omega) (by omega) (by omega)
        · refine X_tableIn hK 269 1 (by decide) c98 (by decide) (by decide) dL_law_40 rfl (by decide) ?_
          refine X_aloadn hK (i := 1) 3 dL_law_269 rfl rfl ?_
          refine X_aloadn hK (i := 0) 4 dL_law_270 rfl rfl ?_
          refine X_iload hK (i := 4) 0 dL_law_271 rfl ?_
          refine X_iconst hK dL_law_273 ?_
          refine X_iadd hK dL_law_274 ?_
          refine X_scr hK hX hbl hbA hL (by omega) (by omega) dL_law_275 (fun z118 ez118 lz118 uz118 => ?_)
          refine X_callV hK [.int (iI z118)] [] lk_L_28 (c_X11_end _ _ _ _ _ S93 g94 b1 z118 b36 k9 (qS93 _ _ (qb89 _ _ hk70)) (by omega) el09 (qS93 _ _ (qb89 _ _ hk77)) (by omega) exk9) (qS93 _ _ (qb89 _ _ hk70)) ⟨by decide, rfl⟩ dL_law_276 rfl rfl (by simp [Value.category]) (by decide) (by omega) (by omega) (by decide) (fun r119 S121 g120 pr119 qr119 hg120 => ?_)
          obtain ⟨rfl, z122, rfl, lz122, uz122, k123, k124⟩ := pr119
          refine X_st [.int (iI z122)] rfl ?_
          refine X_pop hK dL_law_279 rfl ?_
          refine X_aloadn hK (i := 2) 2 dL_law_280 rfl rfl ?_
          refine X_aloadn hK (i := 0) 4 dL_law_281 rfl rfl ?_
          refine X_iload hK (i := 4) 0 dL_law_282 rfl ?_
          refine X_iconst hK dL_law_284 ?_
          refine X_iadd hK dL_law_285 ?_
          refine X_scrK hK hX hbl hbA hL (by omega) (by omega) ez118 dL_law_286 ?_
          refine X_callV hK [.int (iI z118)] [] lk_L_32 (c_X12_end _ _ _ _ _ S93 g120 b40 z118 k9 (qS93 _ _ (qb89 _ _ hs_y68)) (by omega) (by omega) ((hg120 b40 13 0 2 (qS93 _ _ (qb89 _ _ hs_y68)) (by decide)).trans emk9)) (qS93 _ _ (qb89 _ _ hs_y68)) ⟨by decide, rfl⟩ dL_law_287 rfl rfl (by simp [Value.category]) (by decide) (by omega) (by omega) (by decide) (fun r125 S127 g126 pr125 qr125 hg126 => ?_)
          obtain ⟨rfl, z128, rfl, lz128, uz128, k129, k130⟩ := pr125
          refine X_st [.int (iI z128)] rfl ?_
          refine X_pop hK dL_law_290 rfl ?_
          refine X_goto hK 1465 dL_law_291 (by decide) ?_
          refine X_iinc hK (i := 4) (z := i9) (n := 6) 0 [(4, .int (iI (i9 + 6))), (3, .ref b89), (2, .ref b40), (1, .ref b1), (0, .ref b)] dL_law_1465 rfl (by decide) rfl ?_
          refine X_goto hK 23 dL_law_1468 (by decide) ?_
          exact ih9 S93 qS93 g126 (i9 + 6) (if 0 ≤ z118 ∧ z118 ≤ k9 then z118 else k9) t9 c9 b9 sh9 sp9 sm9 fa9 tn9 (by omega) (by first | omega | (split <;> omega)) (by omega) (by omega) (by omega) (by omega) (by omega) (by omega) (by omega) (by omega) (xLs_mod (xLs_mod al9 hg120 (by decide)) hg126 (by decide)) si9 (xPi_m (xPi_m pi9 hg120 xLe.rf (by decide)) hg126 xLe.rf (by decide)) (xMp_m (xMp_m mp9 hg120 xLe.rf (by decide)) hg126 xLe.rf (by decide)) (xTw_m (xTw_m tw9 hg120 xLe.rf (by decide)) hg126 xLe.rf (by decide)) ((hg126 b1 12 0 0 (qS93 _ _ (qb89 _ _ hk70)) (by decide)).trans ((hg120 b1 12 0 0 (qS93 _ _ (qb89 _ _ hk70)) (by decide)).trans el09)) ((hg126 b1 12 0 3 (qS93 _ _ (qb89 _ _ hk70)) (by decide)).trans ((hg120 b1 12 0 3 (qS93 _ _ (qb89 _ _ hk70)) (by decide)).trans el19)) ((hg126 b1 12 0 1 (qS93 _ _ (qb89 _ _ hk70)) (by decide)).trans ((hg120 b1 12 0 1 (qS93 _ _ (qb89 _ _ hk70)) (by decide)).trans el29)) ((hg126 b38 6 0 1 (qS93 _ _ (qb89 _ _ hk79)) (by decide)).trans ((hg120 b38 6 0 1 (qS93 _ _ (qb89 _ _ hk79)) (by decide)).trans el39)) ((hg126 b1 12 0 2 (qS93 _ _ (qb89 _ _ hk70)) (by decide)).trans ((hg120 b1 12 0 2 (qS93 _ _ (qb89 _ _ hk70)) (by decide)).trans el49)) ((hg126 b21 4 0 0 (qS93 _ _ (qb89 _ _ hk72)) (by decide)).trans ((hg120 b21 4 0 0 (qS93 _ _ (qb89 _ _ hk72)) (by decide)).trans el59)) ((hg126 b21 4 0 2 (qS93 _ _ (qb89 _ _ hk72)) (by decide)).trans ((hg120 b21 4 0 2 (qS93 _ _ (qb89 _ _ hk72)) (by decide)).trans el69)) ((hg126 b21 4 0 3 (qS93 _ _ (qb89 _ _ hk72)) (by decide)).trans ((hg120 b21 4 0 3 (qS93 _ _ (qb89 _ _ hk72)) (by decide)).trans el79)) ((hg126 b21 4 0 4 (qS93 _ _ (qb89 _ _ hk72)) (by decide)).trans ((hg120 b21 4 0 4 (qS93 _ _ (qb89 _ _ hk72)) (by decide)).trans el89)) ((hg126 b1 12 0 4 (qS93 _ _ (qb89 _ _ hk70)) (by decide)).trans ((hg120 b1 12 0 4 (qS93 _ _ (qb89 _ _ hk70)) (by decide)).trans el99)) ((hg126 b36 10 0 0 (qS93 _ _ (qb89 _ _ hk77)) (by decide)).trans ((hg120 b36 10 0 0 (qS93 _ _ (qb89 _ _ hk77)) (by decide)).trans el109)) ((hg126 b40 13 0 1 (qS93 _ _ (qb89 _ _ hs_y68)) (by decide)).trans ((hg120 b40 13 0 1 (qS93 _ _ (qb89 _ _ hs_y68)) (by decide)).trans el119)) ((hg126 b40 13 0 10 (qS93 _ _ (qb89 _ _ hs_y68)) (by decide)).trans ((hg120 b40 13 0 10 (qS93 _ _ (qb89 _ _ hs_y68)) (by decide)).trans el129)) ((hg126 b40 13 0 13 (qS93 _ _ (qb89 _ _ hs_y68)) (by decide)).trans ((hg120 b40 13 0 13 (qS93 _ _ (qb89 _ _ hs_y68)) (by decide)).trans el139)) ((hg126 b40 13 0 14 (qS93 _ _ (qb89 _ _ hs_y68)) (by decide)).trans ((hg120 b40 13 0 14 (qS93 _ _ (qb89 _ _ hs_y68)) (by decide)).trans el149)) ((hg126 b40 13 0 12 (qS93 _ _ (qb89 _ _ hs_y68)) (by decide)).trans ((hg120 b40 13 0 12 (qS93 _ _ (qb89 _ _ hs_y68)) (by decide)).trans el159)) ((hg126 b36 10 0 1 (qS93 _ _ (qb89 _ _ hk77)) (by decide)).trans k123) k129 ((hg126 b1 12 0 12 (qS93 _ _ (qb89 _ _ hk70)) (by decide)).trans ((hg120 b1 12 0 12 (qS93 _ _ (qb89 _ _ hk70)) (by decide)).trans ext9)) ((hg126 b40 13 0 3 (qS93 _ _ (qb89 _ _ hs_y68)) (by decide)).trans ((hg120 b40 13 0 3 (qS93 _ _ (qb89 _ _ hs_y68)) (by decide)).trans emt9)) ((hg126 b37 5 0 3 (qS93 _ _ (qb89 _ _ hk78)) (by decide)).trans ((hg120 b37 5 0 3 (qS93 _ _ (qb89 _ _ hk78)) (by decide)).trans exc9)) ((hg126 b40 13 0 69 (qS93 _ _ (qb89 _ _ hs_y68)) (by decide)).trans ((hg120 b40 13 0 69 (qS93 _ _ (qb89 _ _ hs_y68)) (by decide)).trans emc9)) ((hg126 b39 0 0 2 (qS93 _ _ (qb89 _ _ hk80)) (by decide)).trans ((hg120 b39 0 0 2 (qS93 _ _ (qb89 _ _ hk80)) (by decide)).trans exb9)) ((hg126 b40 13 0 16 (qS93 _ _ (qb89 _ _ hs_y68)) (by decide)).trans ((hg120 b40 13 0 16 (qS93 _ _ (qb89 _ _ hs_y68)) (by decide)).trans emb9)) ((hg126 b1 12 0 16 (qS93 _ _ (qb89 _ _ hk70)) (by decide)).trans ((hg120 b1 12 0 16 (qS93 _ _ (qb89 _ _ hk70)) (by decide)).trans exsh9)) ((hg126 b40 13 0 89 (qS93 _ _ (qb89 _ _ hs_y68)) (by decide)).trans ((hg120 b40 13 0 89 (qS93 _ _ (qb89 _ _ hs_y68)) (by decide)).trans emsh9)) ((hg126 b1 12 0 17 (qS93 _ _ (qb89 _ _ hk70)) (by decide)).trans ((hg120 b1 12 0 17 (qS93 _ _ (qb89 _ _ hk70)) (by decide)).trans exsp9)) ((hg126 b40 13 0 90 (qS93 _ _ (qb89 _ _ hs_y68)) (by decide)).trans ((hg120 b40 13 0 90 (qS93 _ _ (qb89 _ _ hs_y68)) (by decide)).trans emsp9)) ((hg126 b40 13 0 17 (qS93 _ _ (qb89 _ _ hs_y68)) (by decide)).trans ((hg120 b40 13 0 17 (qS93 _ _ (qb89 _ _ hs_y68)) (by decide)).trans emsm9)) ((hg126 b1 12 0 13 (qS93 _ _ (qb89 _ _ hk70)) (by decide)).trans ((hg120 b1 12 0 13 (qS93 _ _ (qb89 _ _ hk70)) (by decide)).trans exfa9)) ((hg126 b40 13 0 25 (qS93 _ _ (qb89 _ _ hs_y68)) (by decide)).trans ((hg120 b40 13 0 25 (qS93 _ _ (qb89 _ _ hs_y68)) (by decide)).trans emfa9)) ((hg126 b20 300 0 2 (qS93 _ _ (qb89 _ _ hk71)) (by decide)).trans ((hg120 b20 300 0 2 (qS93 _ _ (qb89 _ _ hk71)) (by decide)).trans extn9)) ((hg126 b40 13 0 39 (qS93 _ _ (qb89 _ _ hs_y68)) (by decide)).trans ((hg120 b40 13 0 39 (qS93 _ _ (qb89 _ _ hs_y68)) (by decide)).trans emtn9)) (xWn.m (xWn.m wn9 (qS93 _ _ (qb89 _ _ hk76)) (qS93 _ _ (qb89 _ _ hk83)) hg120 xLe.rf (by decide)) (qS93 _ _ (qb89 _ _ hk76)) (qS93 _ _ (qb89 _ _ hk83)) hg126 xLe.rf (by decide)) (by rw [(Eq.trans (xv_m hg126 (qS93 _ _ (qb89 _ _ hk74)) (by decide) (by decide)) (xv_m hg120 (qS93 _ _ (qb89 _ _ hk74)) (by decide) (by decide))), (Eq.trans (xv_m hg126 (qS93 _ _ (qb89 _ _ hk81)) (by decide) (by decide)) (xv_m hg120 (qS93 _ _ (qb89 _ _ hk81)) (by decide) (by decide)))]; exact wt9) (by rw [(Eq.trans (xv_m hg126 (qS93 _ _ (qb89 _ _ hk75)) (by decide) (by decide)) (xv_m hg120 (qS93 _ _ (qb89 _ _ hk75)) (by decide) (by decide))), (Eq.trans (xv_m hg126 (qS93 _ _ (qb89 _ _ hk82)) (by decide) (by decide)) (xv_m hg120 (qS93 _ _ (qb89 _ _ hk82)) (by decide) (by decide)))]; exact ld9) (by rw [(Eq.trans (xv_m hg126 (qS93 _ _ (qb89 _ _ hk73)) (by decide) (by decide)) (xv_m hg120 (qS93 _ _ (qb89 _ _ hk73)) (by decide) (by decide))), (Eq.trans (xv_m hg126 (qS93 _ _ (qb89 _ _ hs_b88)) (by decide) (by decide)) (xv_m hg120 (qS93 _ _ (qb89 _ _ hs_b88)) (by decide) (by decide)))]; exact sk9) (by rw [(Eq.trans (xv_m hg126 (qS93 _ _ (qb89 _ _ hs_b86)) (by decide) (by decide)) (xv_m hg120 (qS93 _ _ (qb89 _ _ hs_b86)) (by decide) (by decide))), (Eq.trans (xv_m hg126 (qS93 _ _ (qb89 _ _ hs_b87)) (by decide) (by decide)) (xv_m hg120 (qS93 _ _ (qb89 _ _ hs_b87)) (by decide) (by decide)))]; exact xTc.mono tc9 (by omega)) dc9 ds9 (by omega) (by omega) (by omega)
        · refine X_tableIn hK 294 2 (by decide) c98 (by decide) (by decide) dL_law_40 rfl (by decide) ?_
          refine X_aloadn hK (i := 1) 3 dL_law_294 rfl rfl ?_
          refine X_aloadn hK (i := 0) 4 dL_law_295 rfl rfl ?_
          refine X_iload hK (i := 4) 0 dL_law_296 rfl ?_
          refine X_iconst hK dL_law_298 ?_
          refine X_iadd hK dL_law_299 ?_
          refine X_scr hK hX hbl hbA hL (by omega) (by omega) dL_law_300 (fun z131 ez131 lz131 uz131 => ?_)
          refine X_aloadn hK (i := 0) 4 dL_law_301 rfl rfl ?_
          refine X_iload hK (i := 4) 0 dL_law_302 rfl ?_
          refine X_iconst hK dL_law_304 ?_
          refine X_iadd hK dL_law_305 ?_
          refine X_scr hK hX hbl hbA hL (by omega) (by omega) dL_law_306 (fun z132 ez132 lz132 uz132 => ?_)
          refine X_if_eq hK 314 (by omega) dL_law_307 (by decide) (fun c133 => ?_) (fun c133 => ?_)
          · refine X_iconst hK dL_law_314 ?_
            refine X_aloadn hK (i := 0) 4 dL_law_315 rfl rfl ?_
            refine X_iload hK (i := 4) 0 dL_law_316 rfl ?_
            refine X_iconst hK dL_law_318 ?_
            refine X_iadd hK dL_law_319 ?_
            refine X_scr hK hX hbl hbA hL (by omega) (by omega) dL_law_320 (fun z134 ez134 lz134 uz134 => ?_)
            refine X_aloadn hK (i := 0) 4 dL_law_321 rfl rfl ?_
            refine X_iload hK (i := 4) 0 dL_law_322 rfl ?_
            refine X_iconst hK dL_law_324 ?_
            refine X_iadd hK dL_law_325 ?_
            refine X_scr hK hX hbl hbA hL (by omega) (by omega) dL_law_326 (fun z135 ez135 lz135 uz135 => ?_)
            refine X_callVU hK [.int (iI z131), .int (iI 0), .int (iI z134), .int (iI z135)] [] lk_L_33 (c_X11_boy _ _ _ _ _ S93 g94 b1 z131 0 z134 z135 b38 b39 b9 (qS93 _ _ (qb89 _ _ hk70)) (by omega) (by omega) (by omega) (by omega) el29 (qS93 _ _ (qb89 _ _ hk79)) el39 (qS93 _ _ (qb89 _ _ hk80)) (by omega) exb9 al9 si9) (qS93 _ _ (qb89 _ _ hk70)) ⟨by decide, rfl⟩ dL_law_327 rfl rfl (by simp [Value.category]) (by decide) (by omega) (by omega) (by decide) (fun r136 S138 g137 dcr136 dsr136 pr136 qr136 hg137 => ?_)
            obtain ⟨wr136, z139, rfl, lz139, uz139, k140, k141, k142, k143, k144⟩ := pr136
            refine X_st [.int (iI z139)] rfl ?_
            refine X_pop hK dL_law_330 rfl ?_
            refine X_aloadn hK (i := 2) 2 dL_law_331 rfl rfl ?_
            refine X_aloadn hK (i := 0) 4 dL_law_332 rfl rfl ?_
            refine X_iload hK (i := 4) 0 dL_law_333 rfl ?_
            refine X_iconst hK dL_law_335 ?_
            refine X_iadd hK dL_law_336 ?_
            refine X_scrK hK hX hbl hbA hL (by omega) (by omega) ez131 dL_law_337 ?_
            refine X_aloadn hK (i := 0) 4 dL_law_338 rfl rfl ?_
            refine X_iload hK (i := 4) 0 dL_law_339 rfl ?_
            refine X_iconst hK dL_law_341 ?_
            refine X_iadd hK dL_law_342 ?_
            refine X_scrK hK hX hbl hbA hL (by omega) (by omega) ez132 dL_law_343 ?_
            refine X_if_eq hK 351 (by omega) dL_law_344 (by decide) (fun c145 => ?_) (fun c145 => False.elim (by omega))
            refine X_iconst hK dL_law_351 ?_
            refine X_aloadn hK (i := 0) 4 dL_law_352 rfl rfl ?_
            refine X_iload hK (i := 4) 0 dL_law_353 rfl ?_
            refine X_iconst hK dL_law_355 ?_
            refine X_iadd hK dL_law_356 ?_
            refine X_scrK hK hX hbl hbA hL (by omega) (by omega) ez134 dL_law_357 ?_
            refine X_aloadn hK (i := 0) 4 dL_law_358 rfl rfl ?_
            refine X_iload hK (i := 4) 0 dL_law_359 rfl ?_
            refine X_iconst hK dL_law_361 ?_
            refine X_iadd hK dL_law_362 ?_
            refine X_scrK hK hX hbl hbA hL (by omega) (by omega) ez135 dL_law_363 ?_
            refine X_callV hK [.int (iI z131), .int (iI 0), .int (iI z134), .int (iI z135)] [] lk_L_37 (c_X12_boy _ _ _ _ _ S138 g137 b40 z131 0 z134 z135 b9 (qr136 _ _ (qS93 _ _ (qb89 _ _ hs_y68))) (by omega) (by omega) (by omega) (by omega) (by omega) ((hg137 b40 13 0 16 (qS93 _ _ (qb89 _ _ hs_y68)) (by decide)).trans emb9)) (qr136 _ _ (qS93 _ _ (qb89 _ _ hs_y68))) ⟨by decide, rfl⟩ dL_law_364 rfl rfl (by simp [Value.category]) (by decide) (by omega) (by omega) (by decide) (fun r146 S148 g147 pr146 qr146 hg147 => ?_)
            obtain ⟨rfl, z149, rfl, lz149, uz149, k150, k151⟩ := pr146
            refine X_st [.int (iI z149)] rfl ?_
            refine X_pop hK dL_law_367 rfl ?_
            refine X_goto hK 1465 dL_law_368 (by decide) ?_
            refine X_iinc hK (i := 4) (z := i9) (n := 6) 0 [(4, .int (iI (i9 + 6))), (3, .ref b89), (2, .ref b40), (1, .ref b1), (0, .ref b)] dL_law_1465 rfl (by decide) rfl ?_
            refine X_goto hK 23 dL_law_1468 (by decide) ?_
            exact ih9 S138 (xLe.tr qS93 qr136) g147 (i9 + 6) k9 t9 c9 (if b9 < 40 ∧ 6 ≤ z131 ∧ z131 ≤ 18 ∧ -1 ≤ z134 ∧ z134 ≤ 399 ∧ 0 ≤ z135 ∧ z135 ≤ 99 then b9 + 1 else b9) sh9 sp9 sm9 fa9 tn9 (by omega) (by omega) (by omega) (by omega) (by first | omega | (split <;> omega)) (by omega) (by omega) (by omega) (by omega) (by omega) (xLs_mod k140 hg147 (by decide)) k141 (xPi_m (xPi_m pi9 hg137 qr136 (by decide)) hg147 xLe.rf (by decide)) (xMp_m (xMp_m mp9 hg137 qr136 (by decide)) hg147 xLe.rf (by decide)) (xTw_m (xTw_m tw9 hg137 qr136 (by decide)) hg147 xLe.rf (by decide)) ((hg147 b1 12 0 0 (qr136 _ _ (qS93 _ _ (qb89 _ _ hk70))) (by decide)).trans ((hg137 b1 12 0 0 (qS93 _ _ (qb89 _ _ hk70)) (by decide)).trans el09)) ((hg147 b1 12 0 3 (qr136 _ _ (qS93 _ _ (qb89 _ _ hk70))) (by decide)).trans ((hg137 b1 12 0 3 (qS93 _ _ (qb89 _ _ hk70)) (by decide)).trans el19)) ((hg147 b1 12 0 1 (qr136 _ _ (qS93 _ _ (qb89 _ _ hk70))) (by decide)).trans ((hg137 b1 12 0 1 (qS93 _ _ (qb89 _ _ hk70)) (by decide)).trans el29)) ((hg147 b38 6 0 1 (qr136 _ _ (qS93 _ _ (qb89 _ _ hk79))) (by decide)).trans ((hg137 b38 6 0 1 (qS93 _ _ (qb89 _ _ hk79)) (by decide)).trans el39)) ((hg147 b1 12 0 2 (qr136 _ _ (qS93 _ _ (qb89 _ _ hk70))) (by decide)).trans ((hg137 b1 12 0 2 (qS93 _ _ (qb89 _ _ hk70)) (by decide)).trans el49)) ((hg147 b21 4 0 0 (qr136 _ _ (qS93 _ _ (qb89 _ _ hk72))) (by decide)).trans ((hg137 b21 4 0 0 (qS93 _ _ (qb89 _ _ hk72)) (by decide)).trans el59)) ((hg147 b21 4 0 2 (qr136 _ _ (qS93 _ _ (qb89 _ _ hk72))) (by decide)).trans ((hg137 b21 4 0 2 (qS93 _ _ (qb89 _ _ hk72)) (by decide)).trans el69)) ((hg147 b21 4 0 3 (qr136 _ _ (qS93 _ _ (qb89 _ _ hk72))) (by decide)).trans ((hg137 b21 4 0 3 (qS93 _ _ (qb89 _ _ hk72)) (by decide)).trans el79)) ((hg147 b21 4 0 4 (qr136 _ _ (qS93 _ _ (qb89 _ _ hk72))) (by decide)).trans ((hg137 b21 4 0 4 (qS93 _ _ (qb89 _ _ hk72)) (by decide)).trans el89)) ((hg147 b1 12 0 4 (qr136 _ _ (qS93 _ _ (qb89 _ _ hk70))) (by decide)).trans ((hg137 b1 12 0 4 (qS93 _ _ (qb89 _ _ hk70)) (by decide)).trans el99)) ((hg147 b36 10 0 0 (qr136 _ _ (qS93 _ _ (qb89 _ _ hk77))) (by decide)).trans ((hg137 b36 10 0 0 (qS93 _ _ (qb89 _ _ hk77)) (by decide)).trans el109)) ((hg147 b40 13 0 1 (qr136 _ _ (qS93 _ _ (qb89 _ _ hs_y68))) (by decide)).trans ((hg137 b40 13 0 1 (qS93 _ _ (qb89 _ _ hs_y68)) (by decide)).trans el119)) ((hg147 b40 13 0 10 (qr136 _ _ (qS93 _ _ (qb89 _ _ hs_y68))) (by decide)).trans ((hg137 b40 13 0 10 (qS93 _ _ (qb89 _ _ hs_y68)) (by decide)).trans el129)) ((hg147 b40 13 0 13 (qr136 _ _ (qS93 _ _ (qb89 _ _ hs_y68))) (by decide)).trans ((hg137 b40 13 0 13 (qS93 _ _ (qb89 _ _ hs_y68)) (by decide)).trans el139)) ((hg147 b40 13 0 14 (qr136 _ _ (qS93 _ _ (qb89 _ _ hs_y68))) (by decide)).trans ((hg137 b40 13 0 14 (qS93 _ _ (qb89 _ _ hs_y68)) (by decide)).trans el149)) ((hg147 b40 13 0 12 (qr136 _ _ (qS93 _ _ (qb89 _ _ hs_y68))) (by decide)).trans ((hg137 b40 13 0 12 (qS93 _ _ (qb89 _ _ hs_y68)) (by decide)).trans el159)) ((hg147 b36 10 0 1 (qr136 _ _ (qS93 _ _ (qb89 _ _ hk77))) (by decide)).trans ((hg137 b36 10 0 1 (qS93 _ _ (qb89 _ _ hk77)) (by decide)).trans exk9)) ((hg147 b40 13 0 2 (qr136 _ _ (qS93 _ _ (qb89 _ _ hs_y68))) (by decide)).trans ((hg137 b40 13 0 2 (qS93 _ _ (qb89 _ _ hs_y68)) (by decide)).trans emk9)) ((hg147 b1 12 0 12 (qr136 _ _ (qS93 _ _ (qb89 _ _ hk70))) (by decide)).trans ((hg137 b1 12 0 12 (qS93 _ _ (qb89 _ _ hk70)) (by decide)).trans ext9)) ((hg147 b40 13 0 3 (qr136 _ _ (qS93 _ _ (qb89 _ _ hs_y68))) (by decide)).trans ((hg137 b40 13 0 3 (qS93 _ _ (qb89 _ _ hs_y68)) (by decide)).trans emt9)) ((hg147 b37 5 0 3 (qr136 _ _ (qS93 _ _ (qb89 _ _ hk78))) (by decide)).trans ((hg137 b37 5 0 3 (qS93 _ _ (qb89 _ _ hk78)) (by decide)).trans exc9)) ((hg147 b40 13 0 69 (qr136 _ _ (qS93 _ _ (qb89 _ _ hs_y68))) (by decide)).trans ((hg137 b40 13 0 69 (qS93 _ _ (qb89 _ _ hs_y68)) (by decide)).trans emc9)) ((hg147 b39 0 0 2 (qr136 _ _ (qS93 _ _ (qb89 _ _ hk80))) (by decide)).trans k144) k151 ((hg147 b1 12 0 16 (qr136 _ _ (qS93 _ _ (qb89 _ _ hk70))) (by decide)).trans ((hg137 b1 12 0 16 (qS93 _ _ (qb89 _ _ hk70)) (by decide)).trans exsh9)) ((hg147 b40 13 0 89 (qr136 _ _ (qS93 _ _ (qb89 _ _ hs_y68))) (by decide)).trans ((hg137 b40 13 0 89 (qS93 _ _ (qb89 _ _ hs_y68)) (by decide)).trans emsh9)) ((hg147 b1 12 0 17 (qr136 _ _ (qS93 _ _ (qb89 _ _ hk70))) (by decide)).trans ((hg137 b1 12 0 17 (qS93 _ _ (qb89 _ _ hk70)) (by decide)).trans exsp9)) ((hg147 b40 13 0 90 (qr136 _ _ (qS93 _ _ (qb89 _ _ hs_y68))) (by decide)).trans ((hg137 b40 13 0 90 (qS93 _ _ (qb89 _ _ hs_y68)) (by decide)).trans emsp9)) ((hg147 b40 13 0 17 (qr136 _ _ (qS93 _ _ (qb89 _ _ hs_y68))) (by decide)).trans ((hg137 b40 13 0 17 (qS93 _ _ (qb89 _ _ hs_y68)) (by decide)).trans emsm9)) ((hg147 b1 12 0 13 (qr136 _ _ (qS93 _ _ (qb89 _ _ hk70))) (by decide)).trans ((hg137 b1 12 0 13 (qS93 _ _ (qb89 _ _ hk70)) (by decide)).trans exfa9)) ((hg147 b40 13 0 25 (qr136 _ _ (qS93 _ _ (qb89 _ _ hs_y68))) (by decide)).trans ((hg137 b40 13 0 25 (qS93 _ _ (qb89 _ _ hs_y68)) (by decide)).trans emfa9)) ((hg147 b20 300 0 2 (qr136 _ _ (qS93 _ _ (qb89 _ _ hk71))) (by decide)).trans ((hg137 b20 300 0 2 (qS93 _ _ (qb89 _ _ hk71)) (by decide)).trans extn9)) ((hg147 b40 13 0 39 (qr136 _ _ (qS93 _ _ (qb89 _ _ hs_y68))) (by decide)).trans ((hg137 b40 13 0 39 (qS93 _ _ (qb89 _ _ hs_y68)) (by decide)).trans emtn9)) (xWn.m (xWn.m wn9 (qS93 _ _ (qb89 _ _ hk76)) (qS93 _ _ (qb89 _ _ hk83)) hg137 qr136 (by decide)) (qr136 _ _ (qS93 _ _ (qb89 _ _ hk76))) (qr136 _ _ (qS93 _ _ (qb89 _ _ hk83))) hg147 xLe.rf (by decide)) (by rw [(Eq.trans (xv_m hg147 (qr136 _ _ (qS93 _ _ (qb89 _ _ hk74))) (by decide) (by decide)) (xv_m hg137 (qS93 _ _ (qb89 _ _ hk74)) (by decide) (by decide))), (Eq.trans (xv_m hg147 (qr136 _ _ (qS93 _ _ (qb89 _ _ hk81))) (by decide) (by decide)) (xv_m hg137 (qS93 _ _ (qb89 _ _ hk81)) (by decide) (by decide)))]; exact wt9) (by rw [(Eq.trans (xv_m hg147 (qr136 _ _ (qS93 _ _ (qb89 _ _ hk75))) (by decide) (by decide)) (xv_m hg137 (qS93 _ _ (qb89 _ _ hk75)) (by decide) (by decide))), (Eq.trans (xv_m hg147 (qr136 _ _ (qS93 _ _ (qb89 _ _ hk82))) (by decide) (by decide)) (xv_m hg137 (qS93 _ _ (qb89 _ _ hk82)) (by decide) (by decide)))]; exact ld9) (by rw [(Eq.trans (xv_m hg147 (qr136 _ _ (qS93 _ _ (qb89 _ _ hk73))) (by decide) (by decide)) (xv_m hg137 (qS93 _ _ (qb89 _ _ hk73)) (by decide) (by decide))), (Eq.trans (xv_m hg147 (qr136 _ _ (qS93 _ _ (qb89 _ _ hs_b88))) (by decide) (by decide)) (xv_m hg137 (qS93 _ _ (qb89 _ _ hs_b88)) (by decide) (by decide)))]; exact sk9) (by rw [(Eq.trans (xv_m hg147 (qr136 _ _ (qS93 _ _ (qb89 _ _ hs_b86))) (by decide) (by decide)) (xv_m hg137 (qS93 _ _ (qb89 _ _ hs_b86)) (by decide) (by decide))), (Eq.trans (xv_m hg147 (qr136 _ _ (qS93 _ _ (qb89 _ _ hs_b87))) (by decide) (by decide)) (xv_m hg137 (qS93 _ _ (qb89 _ _ hs_b87)) (by decide) (by decide)))]; exact xTc.mono tc9 (by omega)) (dc9 + dcr136) (ds9 + dsr136) (by omega) (by omega) (by omega)
          · refine X_iconst hK dL_law_310 ?_
            refine X_goto hK 315 dL_law_311 (by decide) ?_
            refine X_aloadn hK (i := 0) 4 dL_law_315 rfl rfl ?_
            refine X_iload hK (i := 4) 0 dL_law_316 rfl ?_
            refine X_iconst hK dL_law_318 ?_
            refine X_iadd hK dL_law_319 ?_
            refine X_scr hK hX hbl hbA hL (by omega) (by omega) dL_law_320 (fun z152 ez152 lz152 uz152 => ?_)
            refine X_aloadn hK (i := 0) 4 dL_law_321 rfl rfl ?_
            refine X_iload hK (i := 4) 0 dL_law_322 rfl ?_
            refine X_iconst hK dL_law_324 ?_
            refine X_iadd hK dL_law_325 ?_
            refine X_scr hK hX hbl hbA hL (by omega) (by omega) dL_law_326 (fun z153 ez153 lz153 uz153 => ?_)
            refine X_callVU hK [.int (iI z131), .int (iI 1), .int (iI z152), .int (iI z153)] [] lk_L_33 (c_X11_boy _ _ _ _ _ S93 g94 b1 z131 1 z152 z153 b38 b39 b9 (qS93 _ _ (qb89 _ _ hk70)) (by omega) (by omega) (by omega) (by omega) el29 (qS93 _ _ (qb89 _ _ hk79)) el39 (qS93 _ _ (qb89 _ _ hk80)) (by omega) exb9 al9 si9) (qS93 _ _ (qb89 _ _ hk70)) ⟨by decide, rfl⟩ dL_law_327 rfl rfl (by simp [Value.category]) (by decide) (by omega) (by omega) (by decide) (fun r154 S156 g155 dcr154 dsr154 pr154 qr154 hg155 => ?_)
            obtain ⟨wr154, z157, rfl, lz157, uz157, k158, k159, k160, k161, k162⟩ := pr154
            refine X_st [.int (iI z157)] rfl ?_
            refine X_pop hK dL_law_330 rfl ?_
            refine X_aloadn hK (i := 2) 2 dL_law_331 rfl rfl ?_
            refine X_aloadn hK (i := 0) 4 dL_law_332 rfl rfl ?_
            refine X_iload hK (i := 4) 0 dL_law_333 rfl ?_
            refine X_iconst hK dL_law_335 ?_
            refine X_iadd hK dL_law_336 ?_
            refine X_scrK hK hX hbl hbA hL (by omega) (by omega) ez131 dL_law_337 ?_
            refine X_aloadn hK (i := 0) 4 dL_law_338 rfl rfl ?_
            refine X_iload hK (i := 4) 0 dL_law_339 rfl ?_
            refine X_iconst hK dL_law_341 ?_
            refine X_iadd hK dL_law_342 ?_
            refine X_scrK hK hX hbl hbA hL (by omega) (by omega) ez132 dL_law_343 ?_
            refine X_if_eq hK 351 (by omega) dL_law_344 (by decide) (fun c163 => ?_) (fun c163 => ?_)
            · refine X_iconst hK dL_law_351 ?_
              refine X_aloadn hK (i := 0) 4 dL_law_352 rfl rfl ?_
              refine X_iload hK (i := 4) 0 dL_law_353 rfl ?_
              refine X_iconst hK dL_law_355 ?_
              refine X_iadd hK dL_law_356 ?_
              refine X_scrK hK hX hbl hbA hL (by omega) (by omega) ez152 dL_law_357 ?_
              refine X_aloadn hK (i := 0) 4 dL_law_358 rfl rfl ?_
              refine X_iload hK (i := 4) 0 dL_law_359 rfl ?_
              refine X_iconst hK dL_law_361 ?_
              refine X_iadd hK dL_law_362 ?_
              refine X_scrK hK hX hbl hbA hL (by omega) (by omega) ez153 dL_law_363 ?_
              refine X_callV hK [.int (iI z131), .int (iI 0), .int (iI z152), .int (iI z153)] [] lk_L_37 (c_X12_boy _ _ _ _ _ S156 g155 b40 z131 0 z152 z153 b9 (qr154 _ _ (qS93 _ _ (qb89 _ _ hs_y68))) (by omega) (by omega) (by omega) (by omega) (by omega) ((hg155 b40 13 0 16 (qS93 _ _ (qb89 _ _ hs_y68)) (by decide)).trans emb9)) (qr154 _ _ (qS93 _ _ (qb89 _ _ hs_y68))) ⟨by decide, rfl⟩ dL_law_364 rfl rfl (by simp [Value.category]) (by decide) (by omega) (by omega) (by decide) (fun r164 S166 g165 pr164 qr164 hg165 => ?_)
              obtain ⟨rfl, z167, rfl, lz167, uz167, k168, k169⟩ := pr164
              refine X_st [.int (iI z167)] rfl ?_
              refine X_pop hK dL_law_367 rfl ?_
              refine X_goto hK 1465 dL_law_368 (by decide) ?_
              refine X_iinc hK (i := 4) (z := i9) (n := 6) 0 [(4, .int (iI (i9 + 6))), (3, .ref b89), (2, .ref b40), (1, .ref b1), (0, .ref b)] dL_law_1465 rfl (by decide) rfl ?_
              refine X_goto hK 23 dL_law_1468 (by decide) ?_
              exact ih9 S156 (xLe.tr qS93 qr154) g165 (i9 + 6) k9 t9 c9 (if b9 < 40 ∧ 6 ≤ z131 ∧ z131 ≤ 18 ∧ -1 ≤ z152 ∧ z152 ≤ 399 ∧ 0 ≤ z153 ∧ z153 ≤ 99 then b9 + 1 else b9) sh9 sp9 sm9 fa9 tn9 (by omega) (by omega) (by omega) (by omega) (by first | omega | (split <;> omega)) (by omega) (by omega) (by omega) (by omega) (by omega) (xLs_mod k158 hg165 (by decide)) k159 (xPi_m (xPi_m pi9 hg155 qr154 (by decide)) hg165 xLe.rf (by decide)) (xMp_m (xMp_m mp9 hg155 qr154 (by decide)) hg165 xLe.rf (by decide)) (xTw_m (xTw_m tw9 hg155 qr154 (by decide)) hg165 xLe.rf (by decide)) ((hg165 b1 12 0 0 (qr154 _ _ (qS93 _ _ (qb89 _ _ hk70))) (by decide)).trans ((hg155 b1 12 0 0 (qS93 _ _ (qb89 _ _ hk70)) (by decide)).trans el09)) ((hg165 b1 12 0 3 (qr154 _ _ (qS93 _ _ (qb89 _ _ hk70))) (by decide)).trans ((hg155 b1 12 0 3 (qS93 _ _ (qb89 _ _ hk70)) (by decide)).trans el19)) ((hg165 b1 12 0 1 (qr154 _ _ (qS93 _ _ (qb89 _ _ hk70))) (by decide)).trans ((hg155 b1 12 0 1 (qS93 _ _ (qb89 _ _ hk70)) (by decide)).trans el29)) ((hg165 b38 6 0 1 (qr154 _ _ (qS93 _ _ (qb89 _ _ hk79))) (by decide)).trans ((hg155 b38 6 0 1 (qS93 _ _ (qb89 _ _ hk79)) (by decide)).trans el39)) ((hg165 b1 12 0 2 (qr154 _ _ (qS93 _ _ (qb89 _ _ hk70))) (by decide)).trans ((hg155 b1 12 0 2 (qS93 _ _ (qb89 _ _ hk70)) (by decide)).trans el49)) ((hg165 b21 4 0 0 (qr154 _ _ (qS93 _ _ (qb89 _ _ hk72))) (by decide)).trans ((hg155 b21 4 0 0 (qS93 _ _ (qb89 _ _ hk72)) (by decide)).trans el59)) ((hg165 b21 4 0 2 (qr154 _ _ (qS93 _ _ (qb89 _ _ hk72))) (by decide)).trans ((hg155 b21 4 0 2 (qS93 _ _ (qb89 _ _ hk72)) (by decide)).trans el69)) ((hg165 b21 4 0 3 (qr154 _ _ (qS93 _ _ (qb89 _ _ hk72))) (by decide)).trans ((hg155 b21 4 0 3 (qS93 _ _ (qb89 _ _ hk72)) (by decide)).trans el79)) ((hg165 b21 4 0 4 (qr154 _ _ (qS93 _ _ (qb89 _ _ hk72))) (by decide)).trans ((hg155 b21 4 0 4 (qS93 _ _ (qb89 _ _ hk72)) (by decide)).trans el89)) ((hg165 b1 12 0 4 (qr154 _ _ (qS93 _ _ (qb89 _ _ hk70))) (by decide)).trans ((hg155 b1 12 0 4 (qS93 _ _ (qb89 _ _ hk70)) (by decide)).trans el99)) ((hg165 b36 10 0 0 (qr154 _ _ (qS93 _ _ (qb89 _ _ hk77))) (by decide)).trans ((hg155 b36 10 0 0 (qS93 _ _ (qb89 _ _ hk77)) (by decide)).trans el109)) ((hg165 b40 13 0 1 (qr154 _ _ (qS93 _ _ (qb89 _ _ hs_y68))) (by decide)).trans ((hg155 b40 13 0 1 (qS93 _ _ (qb89 _ _ hs_y68)) (by decide)).trans el119)) ((hg165 b40 13 0 10 (qr154 _ _ (qS93 _ _ (qb89 _ _ hs_y68))) (by decide)).trans ((hg155 b40 13 0 10 (qS93 _ _ (qb89 _ _ hs_y68)) (by decide)).trans el129)) ((hg165 b40 13 0 13 (qr154 _ _ (qS93 _ _ (qb89 _ _ hs_y68))) (by decide)).trans ((hg155 b40 13 0 13 (qS93 _ _ (qb89 _ _ hs_y68)) (by decide)).trans el139)) ((hg165 b40 13 0 14 (qr154 _ _ (qS93 _ _ (qb89 _ _ hs_y68))) (by decide)).trans ((hg155 b40 13 0 14 (qS93 _ _ (qb89 _ _ hs_y68)) (by decide)).trans el149)) ((hg165 b40 13 0 12 (qr154 _ _ (qS93 _ _ (qb89 _ _ hs_y68))) (by decide)).trans ((hg155 b40 13 0 12 (qS93 _ _ (qb89 _ _ hs_y68)) (by decide)).trans el159)) ((hg165 b36 10 0 1 (qr154 _ _ (qS93 _ _ (qb89 _ _ hk77))) (by decide)).trans ((hg155 b36 10 0 1 (qS93 _ _ (qb89 _ _ hk77)) (by decide)).trans exk9)) ((hg165 b40 13 0 2 (qr154 _ _ (qS93 _ _ (qb89 _ _ hs_y68))) (by decide)).trans ((hg155 b40 13 0 2 (qS93 _ _ (qb89 _ _ hs_y68)) (by decide)).trans emk9)) ((hg165 b1 12 0 12 (qr154 _ _ (qS93 _ _ (qb89 _ _ hk70))) (by decide)).trans ((hg155 b1 12 0 12 (qS93 _ _ (qb89 _ _ hk70)) (by decide)).trans ext9)) ((hg165 b40 13 0 3 (qr154 _ _ (qS93 _ _ (qb89 _ _ hs_y68))) (by decide)).trans ((hg155 b40 13 0 3 (qS93 _ _ (qb89 _ _ hs_y68)) (by decide)).trans emt9)) ((hg165 b37 5 0 3 (qr154 _ _ (qS93 _ _ (qb89 _ _ hk78))) (by decide)).trans ((hg155 b37 5 0 3 (qS93 _ _ (qb89 _ _ hk78)) (by decide)).trans exc9)) ((hg165 b40 13 0 69 (qr154 _ _ (qS93 _ _ (qb89 _ _ hs_y68))) (by decide)).trans ((hg155 b40 13 0 69 (qS93 _ _ (qb89 _ _ hs_y68)) (by decide)).trans emc9)) ((hg165 b39 0 0 2 (qr154 _ _ (qS93 _ _ (qb89 _ _ hk80))) (by decide)).trans k162) k169 ((hg165 b1 12 0 16 (qr154 _ _ (qS93 _ _ (qb89 _ _ hk70))) (by decide)).trans ((hg155 b1 12 0 16 (qS93 _ _ (qb89 _ _ hk70)) (by decide)).trans exsh9)) ((hg165 b40 13 0 89 (qr154 _ _ (qS93 _ _ (qb89 _ _ hs_y68))) (by decide)).trans ((hg155 b40 13 0 89 (qS93 _ _ (qb89 _ _ hs_y68)) (by decide)).trans emsh9)) ((hg165 b1 12 0 17 (qr154 _ _ (qS93 _ _ (qb89 _ _ hk70))) (by decide)).trans ((hg155 b1 12 0 17 (qS93 _ _ (qb89 _ _ hk70)) (by decide)).trans exsp9)) ((hg165 b40 13 0 90 (qr154 _ _ (qS93 _ _ (qb89 _ _ hs_y68))) (by decide)).trans ((hg155 b40 13 0 90 (qS93 _ _ (qb89 _ _ hs_y68)) (by decide)).trans emsp9)) ((hg165 b40 13 0 17 (qr154 _ _ (qS93 _ _ (qb89 _ _ hs_y68))) (by decide)).trans ((hg155 b40 13 0 17 (qS93 _ _ (qb89 _ _ hs_y68)) (by decide)).trans emsm9)) ((hg165 b1 12 0 13 (qr154 _ _ (qS93 _ _ (qb89 _ _ hk70))) (by decide)).trans ((hg155 b1 12 0 13 (qS93 _ _ (qb89 _ _ hk70)) (by decide)).trans exfa9)) ((hg165 b40 13 0 25 (qr154 _ _ (qS93 _ _ (qb89 _ _ hs_y68))) (by decide)).trans ((hg155 b40 13 0 25 (qS93 _ _ (qb89 _ _ hs_y68)) (by decide)).trans emfa9)) ((hg165 b20 300 0 2 (qr154 _ _ (qS93 _ _ (qb89 _ _ hk71))) (by decide)).trans ((hg155 b20 300 0 2 (qS93 _ _ (qb89 _ _ hk71)) (by decide)).trans extn9)) ((hg165 b40 13 0 39 (qr154 _ _ (qS93 _ _ (qb89 _ _ hs_y68))) (by decide)).trans ((hg155 b40 13 0 39 (qS93 _ _ (qb89 _ _ hs_y68)) (by decide)).trans emtn9)) (xWn.m (xWn.m wn9 (qS93 _ _ (qb89 _ _ hk76)) (qS93 _ _ (qb89 _ _ hk83)) hg155 qr154 (by decide)) (qr154 _ _ (qS93 _ _ (qb89 _ _ hk76))) (qr154 _ _ (qS93 _ _ (qb89 _ _ hk83))) hg165 xLe.rf (by decide)) (by rw [(Eq.trans (xv_m hg165 (qr154 _ _ (qS93 _ _ (qb89 _ _ hk74))) (by decide) (by decide)) (xv_m hg155 (qS93 _ _ (qb89 _ _ hk74)) (by decide) (by decide))), (Eq.trans (xv_m hg165 (qr154 _ _ (qS93 _ _ (qb89 _ _ hk81))) (by decide) (by decide)) (xv_m hg155 (qS93 _ _ (qb89 _ _ hk81)) (by decide) (by decide)))]; exact wt9) (by rw [(Eq.trans (xv_m hg165 (qr154 _ _ (qS93 _ _ (qb89 _ _ hk75))) (by decide) (by decide)) (xv_m hg155 (qS93 _ _ (qb89 _ _ hk75)) (by decide) (by decide))), (Eq.trans (xv_m hg165 (qr154 _ _ (qS93 _ _ (qb89 _ _ hk82))) (by decide) (by decide)) (xv_m hg155 (qS93 _ _ (qb89 _ _ hk82)) (by decide) (by decide)))]; exact ld9) (by rw [(Eq.trans (xv_m hg165 (qr154 _ _ (qS93 _ _ (qb89 _ _ hk73))) (by decide) (by decide)) (xv_m hg155 (qS93 _ _ (qb89 _ _ hk73)) (by decide) (by decide))), (Eq.trans (xv_m hg165 (qr154 _ _ (qS93 _ _ (qb89 _ _ hs_b88))) (by decide) (by decide)) (xv_m hg155 (qS93 _ _ (qb89 _ _ hs_b88)) (by decide) (by decide)))]; exact sk9) (by rw [(Eq.trans (xv_m hg165 (qr154 _ _ (qS93 _ _ (qb89 _ _ hs_b86))) (by decide) (by decide)) (xv_m hg155 (qS93 _ _ (qb89 _ _ hs_b86)) (by decide) (by decide))), (Eq.trans (xv_m hg165 (qr154 _ _ (qS93 _ _ (qb89 _ _ hs_b87))) (by decide) (by decide)) (xv_m hg155 (qS93 _ _ (qb89 _ _ hs_b87)) (by decide) (by decide)))]; exact xTc.mono tc9 (by omega)) (dc9 + dcr154) (ds9 + dsr154) (by omega) (by omega) (by omega)
            · refine X_iconst hK dL_law_347 ?_
              refine X_goto hK 352 dL_law_348 (by decide) ?_
              refine X_aloadn hK (i := 0) 4 dL_law_352 rfl rfl ?_
              refine X_iload hK (i := 4) 0 dL_law_353 rfl ?_
              refine X_iconst hK dL_law_355 ?_
              refine X_iadd hK dL_law_356 ?_
              refine X_scrK hK hX hbl hbA hL (by omega) (by omega) ez152 dL_law_357 ?_
              refine X_aloadn hK (i := 0) 4 dL_law_358 rfl rfl ?_
              refine X_iload hK (i := 4) 0 dL_law_359 rfl ?_
              refine X_iconst hK dL_law_361 ?_
              refine X_iadd hK dL_law_362 ?_
              refine X_scrK hK hX hbl hbA hL (by omega) (by omega) ez153 dL_law_363 ?_
              refine X_callV hK [.int (iI z131), .int (iI 1), .int (iI z152), .int (iI z153)] [] lk_L_37 (c_X12_boy _ _ _ _ _ S156 g155 b40 z131 1 z152 z153 b9 (qr154 _ _ (qS93 _ _ (qb89 _ _ hs_y68))) (by omega) (by omega) (by omega) (by omega) (by omega) ((hg155 b40 13 0 16 (qS93 _ _ (qb89 _ _ hs_y68)) (by decide)).trans emb9)) (qr154 _ _ (qS93 _ _ (qb89 _ _ hs_y68))) ⟨by decide, rfl⟩ dL_law_364 rfl rfl (by simp [Value.category]) (by decide) (by omega) (by omega) (by decide) (fun r170 S172 g171 pr170 qr170 hg171 => ?_)
              obtain ⟨rfl, z173, rfl, lz173, uz173, k174, k175⟩ := pr170
              refine X_st [.int (iI z173)] rfl ?_
              refine X_pop hK dL_law_367 rfl ?_
              refine X_goto hK 1465 dL_law_368 (by decide) ?_
              refine X_iinc hK (i := 4) (z := i9) (n := 6) 0 [(4, .int (iI (i9 + 6))), (3, .ref b89), (2, .ref b40), (1, .ref b1), (0, .ref b)] dL_law_1465 rfl (by decide) rfl ?_
              refine X_goto hK 23 dL_law_1468 (by decide) ?_
              exact ih9 S156 (xLe.tr qS93 qr154) g171 (i9 + 6) k9 t9 c9 (if b9 < 40 ∧ 6 ≤ z131 ∧ z131 ≤ 18 ∧ -1 ≤ z152 ∧ z152 ≤ 399 ∧ 0 ≤ z153 ∧ z153 ≤ 99 then b9 + 1 else b9) sh9 sp9 sm9 fa9 tn9 (by omega) (by omega) (by omega) (by omega) (by first | omega | (split <;> omega)) (by omega) (by omega) (by omega) (by omega) (by omega) (xLs_mod k158 hg171 (by decide)) k159 (xPi_m (xPi_m pi9 hg155 qr154 (by decide)) hg171 xLe.rf (by decide)) (xMp_m (xMp_m mp9 hg155 qr154 (by decide)) hg171 xLe.rf (by decide)) (xTw_m (xTw_m tw9 hg155 qr154 (by decide)) hg171 xLe.rf (by decide)) ((hg171 b1 12 0 0 (qr154 _ _ (qS93 _ _ (qb89 _ _ hk70))) (by decide)).trans ((hg155 b1 12 0 0 (qS93 _ _ (qb89 _ _ hk70)) (by decide)).trans el09)) ((hg171 b1 12 0 3 (qr154 _ _ (qS93 _ _ (qb89 _ _ hk70))) (by decide)).trans ((hg155 b1 12 0 3 (qS93 _ _ (qb89 _ _ hk70)) (by decide)).trans el19)) ((hg171 b1 12 0 1 (qr154 _ _ (qS93 _ _ (qb89 _ _ hk70))) (by decide)).trans ((hg155 b1 12 0 1 (qS93 _ _ (qb89 _ _ hk70)) (by decide)).trans el29)) ((hg171 b38 6 0 1 (qr154 _ _ (qS93 _ _ (qb89 _ _ hk79))) (by decide)).trans ((hg155 b38 6 0 1 (qS93 _ _ (qb89 _ _ hk79)) (by decide)).trans el39)) ((hg171 b1 12 0 2 (qr154 _ _ (qS93 _ _ (qb89 _ _ hk70))) (by decide)).trans ((hg155 b1 12 0 2 (qS93 _ _ (qb89 _ _ hk70)) (by decide)).trans el49)) ((hg171 b21 4 0 0 (qr154 _ _ (qS93 _ _ (qb89 _ _ hk72))) (by decide)).trans ((hg155 b21 4 0 0 (qS93 _ _ (qb89 _ _ hk72)) (by decide)).trans el59)) ((hg171 b21 4 0 2 (qr154 _ _ (qS93 _ _ (qb89 _ _ hk72))) (by decide)).trans ((hg155 b21 4 0 2 (qS93 _ _ (qb89 _ _ hk72)) (by decide)).trans el69)) ((hg171 b21 4 0 3 (qr154 _ _ (qS93 _ _ (qb89 _ _ hk72))) (by decide)).trans ((hg155 b21 4 0 3 (qS93 _ _ (qb89 _ _ hk72)) (by decide)).trans el79)) ((hg171 b21 4 0 4 (qr154 _ _ (qS93 _ _ (qb89 _ _ hk72))) (by decide)).trans ((hg155 b21 4 0 4 (qS93 _ _ (qb89 _ _ hk72)) (by decide)).trans el89)) ((hg171 b1 12 0 4 (qr154 _ _ (qS93 _ _ (qb89 _ _ hk70))) (by decide)).trans ((hg155 b1 12 0 4 (qS93 _ _ (qb89 _ _ hk70)) (by decide)).trans el99)) ((hg171 b36 10 0 0 (qr154 _ _ (qS93 _ _ (qb89 _ _ hk77))) (by decide)).trans ((hg155 b36 10 0 0 (qS93 _ _ (qb89 _ _ hk77)) (by decide)).trans el109)) ((hg171 b40 13 0 1 (qr154 _ _ (qS93 _ _ (qb89 _ _ hs_y68))) (by decide)).trans ((hg155 b40 13 0 1 (qS93 _ _ (qb89 _ _ hs_y68)) (by decide)).trans el119)) ((hg171 b40 13 0 10 (qr154 _ _ (qS93 _ _ (qb89 _ _ hs_y68))) (by decide)).trans ((hg155 b40 13 0 10 (qS93 _ _ (qb89 _ _ hs_y68)) (by decide)).trans el129)) ((hg171 b40 13 0 13 (qr154 _ _ (qS93 _ _ (qb89 _ _ hs_y68))) (by decide)).trans ((hg155 b40 13 0 13 (qS93 _ _ (qb89 _ _ hs_y68)) (by decide)).trans el139)) ((hg171 b40 13 0 14 (qr154 _ _ (qS93 _ _ (qb89 _ _ hs_y68))) (by decide)).trans ((hg155 b40 13 0 14 (qS93 _ _ (qb89 _ _ hs_y68)) (by decide)).trans el149)) ((hg171 b40 13 0 12 (qr154 _ _ (qS93 _ _ (qb89 _ _ hs_y68))) (by decide)).trans ((hg155 b40 13 0 12 (qS93 _ _ (qb89 _ _ hs_y68)) (by decide)).trans el159)) ((hg171 b36 10 0 1 (qr154 _ _ (qS93 _ _ (qb89 _ _ hk77))) (by decide)).trans ((hg155 b36 10 0 1 (qS93 _ _ (qb89 _ _ hk77)) (by decide)).trans exk9)) ((hg171 b40 13 0 2 (qr154 _ _ (qS93 _ _ (qb89 _ _ hs_y68))) (by decide)).trans ((hg155 b40 13 0 2 (qS93 _ _ (qb89 _ _ hs_y68)) (by decide)).trans emk9)) ((hg171 b1 12 0 12 (qr154 _ _ (qS93 _ _ (qb89 _ _ hk70))) (by decide)).trans ((hg155 b1 12 0 12 (qS93 _ _ (qb89 _ _ hk70)) (by decide)).trans ext9)) ((hg171 b40 13 0 3 (qr154 _ _ (qS93 _ _ (qb89 _ _ hs_y68))) (by decide)).trans ((hg155 b40 13 0 3 (qS93 _ _ (qb89 _ _ hs_y68)) (by decide)).trans emt9)) ((hg171 b37 5 0 3 (qr154 _ _ (qS93 _ _ (qb89 _ _ hk78))) (by decide)).trans ((hg155 b37 5 0 3 (qS93 _ _ (qb89 _ _ hk78)) (by decide)).trans exc9)) ((hg171 b40 13 0 69 (qr154 _ _ (qS93 _ _ (qb89 _ _ hs_y68))) (by decide)).trans ((hg155 b40 13 0 69 (qS93 _ _ (qb89 _ _ hs_y68)) (by decide)).trans emc9)) ((hg171 b39 0 0 2 (qr154 _ _ (qS93 _ _ (qb89 _ _ hk80))) (by decide)).trans k162) k175 ((hg171 b1 12 0 16 (qr154 _ _ (qS93 _ _ (qb89 _ _ hk70))) (by decide)).trans ((hg155 b1 12 0 16 (qS93 _ _ (qb89 _ _ hk70)) (by decide)).trans exsh9)) ((hg171 b40 13 0 89 (qr154 _ _ (qS93 _ _ (qb89 _ _ hs_y68))) (by decide)).trans ((hg155 b40 13 0 89 (qS93 _ _ (qb89 _ _ hs_y68)) (by decide)).trans emsh9)) ((hg171 b1 12 0 17 (qr154 _ _ (qS93 _ _ (qb89 _ _ hk70))) (by decide)).trans ((hg155 b1 12 0 17 (qS93 _ _ (qb89 _ _ hk70)) (by decide)).trans exsp9)) ((hg171 b40 13 0 90 (qr154 _ _ (qS93 _ _ (qb89 _ _ hs_y68))) (by decide)).trans ((hg155 b40 13 0 90 (qS93 _ _ (qb89 _ _ hs_y68)) (by decide)).trans emsp9)) ((hg171 b40 13 0 17 (qr154 _ _ (qS93 _ _ (qb89 _ _ hs_y68))) (by decide)).trans ((hg155 b40 13 0 17 (qS93 _ _ (qb89 _ _ hs_y68)) (by decide)).trans emsm9)) ((hg171 b1 12 0 13 (qr154 _ _ (qS93 _ _ (qb89 _ _ hk70))) (by decide)).trans ((hg155 b1 12 0 13 (qS93 _ _ (qb89 _ _ hk70)) (by decide)).trans exfa9)) ((hg171 b40 13 0 25 (qr154 _ _ (qS93 _ _ (qb89 _ _ hs_y68))) (by decide)).trans ((hg155 b40 13 0 25 (qS93 _ _ (qb89 _ _ hs_y68)) (by decide)).trans emfa9)) ((hg171 b20 300 0 2 (qr154 _ _ (qS93 _ _ (qb89 _ _ hk71))) (by decide)).trans ((hg155 b20 300 0 2 (qS93 _ _ (qb89 _ _ hk71)) (by decide)).trans extn9)) ((hg171 b40 13 0 39 (qr154 _ _ (qS93 _ _ (qb89 _ _ hs_y68))) (by decide)).trans ((hg155 b40 13 0 39 (qS93 _ _ (qb89 _ _ hs_y68)) (by decide)).trans emtn9)) (xWn.m (xWn.m wn9 (qS93 _ _ (qb89 _ _ hk76)) (qS93 _ _ (qb89 _ _ hk83)) hg155 qr154 (by decide)) (qr154 _ _ (qS93 _ _ (qb89 _ _ hk76))) (qr154 _ _ (qS93 _ _ (qb89 _ _ hk83))) hg171 xLe.rf (by decide)) (by rw [(Eq.trans (xv_m hg171 (qr154 _ _ (qS93 _ _ (qb89 _ _ hk74))) (by decide) (by decide)) (xv_m hg155 (qS93 _ _ (qb89 _ _ hk74)) (by decide) (by decide))), (Eq.trans (xv_m hg171 (qr154 _ _ (qS93 _ _ (qb89 _ _ hk81))) (by decide) (by decide)) (xv_m hg155 (qS93 _ _ (qb89 _ _ hk81)) (by decide) (by decide)))]; exact wt9) (by rw [(Eq.trans (xv_m hg171 (qr154 _ _ (qS93 _ _ (qb89 _ _ hk75))) (by decide) (by decide)) (xv_m hg155 (qS93 _ _ (qb89 _ _ hk75)) (by decide) (by decide))), (Eq.trans (xv_m hg171 (qr154 _ _ (qS93 _ _ (qb89 _ _ hk82))) (by decide) (by decide)) (xv_m hg155 (qS93 _ _ (qb89 _ _ hk82)) (by decide) (by decide)))]; exact ld9) (by rw [(Eq.trans (xv_m hg171 (qr154 _ _ (qS93 _ _ (qb89 _ _ hk73))) (by decide) (by decide)) (xv_m hg155 (qS93 _ _ (qb89 _ _ hk73)) (by decide) (by decide))), (Eq.trans (xv_m hg171 (qr154 _ _ (qS93 _ _ (qb89 _ _ hs_b88))) (by decide) (by decide)) (xv_m hg155 (qS93 _ _ (qb89 _ _ hs_b88)) (by decide) (by decide)))]; exact sk9) (by rw [(Eq.trans (xv_m hg171 (qr154 _ _ (qS93 _ _ (qb89 _ _ hs_b86))) (by decide) (by decide)) (xv_m hg155 (qS93 _ _ (qb89 _ _ hs_b86)) (by decide) (by decide))), (Eq.trans (xv_m hg171 (qr154 _ _ (qS93 _ _ (qb89 _ _ hs_b87))) (by decide) (by decide)) (xv_m hg155 (qS93 _ _ (qb89 _ _ hs_b87)) (by decide) (by decide)))]; exact xTc.mono tc9 (by omega)) (dc9 + dcr154) (ds9 + dsr154) (by omega) (by omega) (by omega)
        · refine X_tableIn hK 371 3 (by decide) c98 (by decide) (by decide) dL_law_40 rfl (by decide) ?_
          refine X_aloadn hK (i := 1) 3 dL_law_371 rfl rfl ?_
          refine X_aloadn hK (i := 0) 4 dL_law_372 rfl rfl ?_
          refine X_iload hK (i := 4) 0 dL_law_373 rfl ?_
          refine X_iconst hK dL_law_375 ?_
          refine X_iadd hK dL_law_376 ?_
          refine X_scr hK hX hbl hbA hL (by omega) (by omega) dL_law_377 (fun z176 ez176 lz176 uz176 => ?_)
          refine X_aloadn hK (i := 0) 4 dL_law_378 rfl rfl ?_
          refine X_iload hK (i := 4) 0 dL_law_379 rfl ?_
          refine X_iconst hK dL_law_381 ?_
          refine X_iadd hK dL_law_382 ?_
          refine X_scr hK hX hbl hbA hL (by omega) (by omega) dL_law_383 (fun z177 ez177 lz177 uz177 => ?_)
          refine X_callV hK [.int (iI z176), .int (iI z177)] [] lk_L_38 (c_X11_badge _ _ _ _ _ S93 g94 b1 z176 z177 b38 b39 b9 (qS93 _ _ (qb89 _ _ hk70)) (by omega) (by omega) el29 (qS93 _ _ (qb89 _ _ hk79)) el39 (qS93 _ _ (qb89 _ _ hk80)) (by omega) exb9 al9) (qS93 _ _ (qb89 _ _ hk70)) ⟨by decide, rfl⟩ dL_law_384 rfl rfl (by simp [Value.category]) (by decide) (by omega) (by omega) (by decide) (fun r178 S180 g179 pr178 qr178 hg179 => ?_)
          obtain ⟨rfl, z181, rfl, lz181, uz181, k182⟩ := pr178
          refine X_st [.int (iI z181)] rfl ?_
          refine X_pop hK dL_law_387 rfl ?_
          refine X_aloadn hK (i := 2) 2 dL_law_388 rfl rfl ?_
          refine X_aloadn hK (i := 0) 4 dL_law_389 rfl rfl ?_
          refine X_iload hK (i := 4) 0 dL_law_390 rfl ?_
          refine X_iconst hK dL_law_392 ?_
          refine X_iadd hK dL_law_393 ?_
          refine X_scrK hK hX hbl hbA hL (by omega) (by omega) ez176 dL_law_394 ?_
          refine X_aloadn hK (i := 0) 4 dL_law_395 rfl rfl ?_
          refine X_iload hK (i := 4) 0 dL_law_396 rfl ?_
          refine X_iconst hK dL_law_398 ?_
          refine X_iadd hK dL_law_399 ?_
          refine X_scrK hK hX hbl hbA hL (by omega) (by omega) ez177 dL_law_400 ?_
          refine X_callV hK [.int (iI z176), .int (iI z177)] [] lk_L_42 (c_X12_badge _ _ _ _ _ S93 g179 b40 z176 z177 b9 (qS93 _ _ (qb89 _ _ hs_y68)) (by omega) (by omega) (by omega) ((hg179 b40 13 0 16 (qS93 _ _ (qb89 _ _ hs_y68)) (by decide)).trans emb9)) (qS93 _ _ (qb89 _ _ hs_y68)) ⟨by decide, rfl⟩ dL_law_401 rfl rfl (by simp [Value.category]) (by decide) (by omega) (by omega) (by decide) (fun r183 S185 g184 pr183 qr183 hg184 => ?_)
          obtain ⟨rfl, z186, rfl, lz186, uz186, k187⟩ := pr183
          refine X_st [.int (iI z186)] rfl ?_
          refine X_pop hK dL_law_404 rfl ?_
          refine X_goto hK 1465 dL_law_405 (by decide) ?_
          refine X_iinc hK (i := 4) (z := i9) (n := 6) 0 [(4, .int (iI (i9 + 6))), (3, .ref b89), (2, .ref b40), (1, .ref b1), (0, .ref b)] dL_law_1465 rfl (by decide) rfl ?_
          refine X_goto hK 23 dL_law_1468 (by decide) ?_
          exact ih9 S93 qS93 g184 (i9 + 6) k9 t9 c9 b9 sh9 sp9 sm9 fa9 tn9 (by omega) (by omega) (by omega) (by omega) (by omega) (by omega) (by omega) (by omega) (by omega) (by omega) (xLs_mod (xLs_mod al9 hg179 (by decide)) hg184 (by decide)) si9 (xPi_m (xPi_m pi9 hg179 xLe.rf (by decide)) hg184 xLe.rf (by decide)) (xMp_m (xMp_m mp9 hg179 xLe.rf (by decide)) hg184 xLe.rf (by decide)) (xTw_m (xTw_m tw9 hg179 xLe.rf (by decide)) hg184 xLe.rf (by decide)) ((hg184 b1 12 0 0 (qS93 _ _ (qb89 _ _ hk70)) (by decide)).trans ((hg179 b1 12 0 0 (qS93 _ _ (qb89 _ _ hk70)) (by decide)).trans el09)) ((hg184 b1 12 0 3 (qS93 _ _ (qb89 _ _ hk70)) (by decide)).trans ((hg179 b1 12 0 3 (qS93 _ _ (qb89 _ _ hk70)) (by decide)).trans el19)) ((hg184 b1 12 0 1 (qS93 _ _ (qb89 _ _ hk70)) (by decide)).trans ((hg179 b1 12 0 1 (qS93 _ _ (qb89 _ _ hk70)) (by decide)).trans el29)) ((hg184 b38 6 0 1 (qS93 _ _ (qb89 _ _ hk79)) (by decide)).trans ((hg179 b38 6 0 1 (qS93 _ _ (qb89 _ _ hk79)) (by decide)).trans el39)) ((hg184 b1 12 0 2 (qS93 _ _ (qb89 _ _ hk70)) (by decide)).trans ((hg179 b1 12 0 2 (qS93 _ _ (qb89 _ _ hk70)) (by decide)).trans el49)) ((hg184 b21 4 0 0 (qS93 _ _ (qb89 _ _ hk72)) (by decide)).trans ((hg179 b21 4 0 0 (qS93 _ _ (qb89 _ _ hk72)) (by decide)).trans el59)) ((hg184 b21 4 0 2 (qS93 _ _ (qb89 _ _ hk72)) (by decide)).trans ((hg179 b21 4 0 2 (qS93 _ _ (qb89 _ _ hk72)) (by decide)).trans el69)) ((hg184 b21 4 0 3 (qS93 _ _ (qb89 _ _ hk72)) (by decide)).trans ((hg179 b21 4 0 3 (qS93 _ _ (qb89 _ _ hk72)) (by decide)).trans el79)) ((hg184 b21 4 0 4 (qS93 _ _ (qb89 _ _ hk72)) (by decide)).trans ((hg179 b21 4 0 4 (qS93 _ _ (qb89 _ _ hk72)) (by decide)).trans el89)) ((hg184 b1 12 0 4 (qS93 _ _ (qb89 _ _ hk70)) (by decide)).trans ((hg179 b1 12 0 4 (qS93 _ _ (qb89 _ _ hk70)) (by decide)).trans el99)) ((hg184 b36 10 0 0 (qS93 _ _ (qb89 _ _ hk77)) (by decide)).trans ((hg179 b36 10 0 0 (qS93 _ _ (qb89 _ _ hk77)) (by decide)).trans el109)) ((hg184 b40 13 0 1 (qS93 _ _ (qb89 _ _ hs_y68)) (by decide)).trans ((hg179 b40 13 0 1 (qS93 _ _ (qb89 _ _ hs_y68)) (by decide)).trans el119)) ((hg184 b40 13 0 10 (qS93 _ _ (qb89 _ _ hs_y68)) (by decide)).trans ((hg179 b40 13 0 10 (qS93 _ _ (qb89 _ _ hs_y68)) (by decide)).trans el129)) ((hg184 b40 13 0 13 (qS93 _ _ (qb89 _ _ hs_y68)) (by decide)).trans ((hg179 b40 13 0 13 (qS93 _ _ (qb89 _ _ hs_y68)) (by decide)).trans el139)) ((hg184 b40 13 0 14 (qS93 _ _ (qb89 _ _ hs_y68)) (by decide)).trans ((hg179 b40 13 0 14 (qS93 _ _ (qb89 _ _ hs_y68)) (by decide)).trans el149)) ((hg184 b40 13 0 12 (qS93 _ _ (qb89 _ _ hs_y68)) (by decide)).trans ((hg179 b40 13 0 12 (qS93 _ _ (qb89 _ _ hs_y68)) (by decide)).trans el159)) ((hg184 b36 10 0 1 (qS93 _ _ (qb89 _ _ hk77)) (by decide)).trans ((hg179 b36 10 0 1 (qS93 _ _ (qb89 _ _ hk77)) (by decide)).trans exk9)) ((hg184 b40 13 0 2 (qS93 _ _ (qb89 _ _ hs_y68)) (by decide)).trans ((hg179 b40 13 0 2 (qS93 _ _ (qb89 _ _ hs_y68)) (by decide)).trans emk9)) ((hg184 b1 12 0 12 (qS93 _ _ (qb89 _ _ hk70)) (by decide)).trans ((hg179 b1 12 0 12 (qS93 _ _ (qb89 _ _ hk70)) (by decide)).trans ext9)) ((hg184 b40 13 0 3 (qS93 _ _ (qb89 _ _ hs_y68)) (by decide)).trans ((hg179 b40 13 0 3 (qS93 _ _ (qb89 _ _ hs_y68)) (by decide)).trans emt9)) ((hg184 b37 5 0 3 (qS93 _ _ (qb89 _ _ hk78)) (by decide)).trans ((hg179 b37 5 0 3 (qS93 _ _ (qb89 _ _ hk78)) (by decide)).trans exc9)) ((hg184 b40 13 0 69 (qS93 _ _ (qb89 _ _ hs_y68)) (by decide)).trans ((hg179 b40 13 0 69 (qS93 _ _ (qb89 _ _ hs_y68)) (by decide)).trans emc9)) ((hg184 b39 0 0 2 (qS93 _ _ (qb89 _ _ hk80)) (by decide)).trans ((hg179 b39 0 0 2 (qS93 _ _ (qb89 _ _ hk80)) (by decide)).trans exb9)) ((hg184 b40 13 0 16 (qS93 _ _ (qb89 _ _ hs_y68)) (by decide)).trans ((hg179 b40 13 0 16 (qS93 _ _ (qb89 _ _ hs_y68)) (by decide)).trans emb9)) ((hg184 b1 12 0 16 (qS93 _ _ (qb89 _ _ hk70)) (by decide)).trans ((hg179 b1 12 0 16 (qS93 _ _ (qb89 _ _ hk70)) (by decide)).trans exsh9)) ((hg184 b40 13 0 89 (qS93 _ _ (qb89 _ _ hs_y68)) (by decide)).trans ((hg179 b40 13 0 89 (qS93 _ _ (qb89 _ _ hs_y68)) (by decide)).trans emsh9)) ((hg184 b1 12 0 17 (qS93 _ _ (qb89 _ _ hk70)) (by decide)).trans ((hg179 b1 12 0 17 (qS93 _ _ (qb89 _ _ hk70)) (by decide)).trans exsp9)) ((hg184 b40 13 0 90 (qS93 _ _ (qb89 _ _ hs_y68)) (by decide)).trans ((hg179 b40 13 0 90 (qS93 _ _ (qb89 _ _ hs_y68)) (by decide)).trans emsp9)) ((hg184 b40 13 0 17 (qS93 _ _ (qb89 _ _ hs_y68)) (by decide)).trans ((hg179 b40 13 0 17 (qS93 _ _ (qb89 _ _ hs_y68)) (by decide)).trans emsm9)) ((hg184 b1 12 0 13 (qS93 _ _ (qb89 _ _ hk70)) (by decide)).trans ((hg179 b1 12 0 13 (qS93 _ _ (qb89 _ _ hk70)) (by decide)).trans exfa9)) ((hg184 b40 13 0 25 (qS93 _ _ (qb89 _ _ hs_y68)) (by decide)).trans ((hg179 b40 13 0 25 (qS93 _ _ (qb89 _ _ hs_y68)) (by decide)).trans emfa9)) ((hg184 b20 300 0 2 (qS93 _ _ (qb89 _ _ hk71)) (by decide)).trans ((hg179 b20 300 0 2 (qS93 _ _ (qb89 _ _ hk71)) (by decide)).trans extn9)) ((hg184 b40 13 0 39 (qS93 _ _ (qb89 _ _ hs_y68)) (by decide)).trans ((hg179 b40 13 0 39 (qS93 _ _ (qb89 _ _ hs_y68)) (by decide)).trans emtn9)) (xWn.m (xWn.m wn9 (qS93 _ _ (qb89 _ _ hk76)) (qS93 _ _ (qb89 _ _ hk83)) hg179 xLe.rf (by decide)) (qS93 _ _ (qb89 _ _ hk76)) (qS93 _ _ (qb89 _ _ hk83)) hg184 xLe.rf (by decide)) (by rw [(Eq.trans (xv_m hg184 (qS93 _ _ (qb89 _ _ hk74)) (by decide) (by decide)) (xv_m hg179 (qS93 _ _ (qb89 _ _ hk74)) (by decide) (by decide))), (Eq.trans (xv_m hg184 (qS93 _ _ (qb89 _ _ hk81)) (by decide) (by decide)) (xv_m hg179 (qS93 _ _ (qb89 _ _ hk81)) (by decide) (by decide)))]; exact wt9) (by rw [(Eq.trans (xv_m hg184 (qS93 _ _ (qb89 _ _ hk75)) (by decide) (by decide)) (xv_m hg179 (qS93 _ _ (qb89 _ _ hk75)) (by decide) (by decide))), (Eq.trans (xv_m hg184 (qS93 _ _ (qb89 _ _ hk82)) (by decide) (by decide)) (xv_m hg179 (qS93 _ _ (qb89 _ _ hk82)) (by decide) (by decide)))]; exact ld9) (by rw [(Eq.trans (xv_m hg184 (qS93 _ _ (qb89 _ _ hk73)) (by decide) (by decide)) (xv_m hg179 (qS93 _ _ (qb89 _ _ hk73)) (by decide) (by decide))), (Eq.trans (xv_m hg184 (qS93 _ _ (qb89 _ _ hs_b88)) (by decide) (by decide)) (xv_m hg179 (qS93 _ _ (qb89 _ _ hs_b88)) (by decide) (by decide)))]; exact sk9) (by rw [(Eq.trans (xv_m hg184 (qS93 _ _ (qb89 _ _ hs_b86)) (by decide) (by decide)) (xv_m hg179 (qS93 _ _ (qb89 _ _ hs_b86)) (by decide) (by decide))), (Eq.trans (xv_m hg184 (qS93 _ _ (qb89 _ _ hs_b87)) (by decide) (by decide)) (xv_m hg179 (qS93 _ _ (qb89 _ _ hs_b87)) (by decide) (by decide)))]; exact xTc.mono tc9 (by omega)) dc9 ds9 (by omega) (by omega) (by omega)
        · refine X_tableIn hK 408 4 (by decide) c98 (by decide) (by decide) dL_law_40 rfl (by decide) ?_
          refine X_aloadn hK (i := 1) 3 dL_law_408 rfl rfl ?_
          refine X_aloadn hK (i := 0) 4 dL_law_409 rfl rfl ?_
          refine X_iload hK (i := 4) 0 dL_law_410 rfl ?_
          refine X_iconst hK dL_law_412 ?_
          refine X_iadd hK dL_law_413 ?_
          refine X_scr hK hX hbl hbA hL (by omega) (by omega) dL_law_414 (fun z188 ez188 lz188 uz188 => ?_)
          refine X_aloadn hK (i := 0) 4 dL_law_415 rfl rfl ?_
          refine X_iload hK (i := 4) 0 dL_law_416 rfl ?_
          refine X_iconst hK dL_law_418 ?_
          refine X_iadd hK dL_law_419 ?_
          refine X_scr hK hX hbl hbA hL (by omega) (by omega) dL_law_420 (fun z189 ez189 lz189 uz189 => ?_)
          refine X_callV hK [.int (iI z188), .int (iI z189)] [] lk_L_43 (c_X11_owner _ _ _ _ _ S93 g94 b1 z188 z189 b38 b39 b9 (qS93 _ _ (qb89 _ _ hk70)) (by omega) (by omega) el29 (qS93 _ _ (qb89 _ _ hk79)) el39 (qS93 _ _ (qb89 _ _ hk80)) (by omega) exb9 al9) (qS93 _ _ (qb89 _ _ hk70)) ⟨by decide, rfl⟩ dL_law_421 rfl rfl (by simp [Value.category]) (by decide) (by omega) (by omega) (by decide) (fun r190 S192 g191 pr190 qr190 hg191 => ?_)
          obtain ⟨rfl, z193, rfl, lz193, uz193, k194⟩ := pr190
          refine X_st [.int (iI z193)] rfl ?_
          refine X_pop hK dL_law_424 rfl ?_
          refine X_aloadn hK (i := 2) 2 dL_law_425 rfl rfl ?_
          refine X_aloadn hK (i := 0) 4 dL_law_426 rfl rfl ?_
          refine X_iload hK (i := 4) 0 dL_law_427 rfl ?_
          refine X_iconst hK dL_law_429 ?_
          refine X_iadd hK dL_law_430 ?_
          refine X_scrK hK hX hbl hbA hL (by omega) (by omega) ez188 dL_law_431 ?_
          refine X_aloadn hK (i := 0) 4 dL_law_432 rfl rfl ?_
          refine X_iload hK (i := 4) 0 dL_law_433 rfl ?_
          refine X_iconst hK dL_law_435 ?_
          refine X_iadd hK dL_law_436 ?_
          refine X_scrK hK hX hbl hbA hL (by omega) (by omega) ez189 dL_law_437 ?_
          refine X_callV hK [.int (iI z188), .int (iI z189)] [] lk_L_46 (c_X12_owner _ _ _ _ _ S93 g191 b40 z188 z189 b9 (qS93 _ _ (qb89 _ _ hs_y68)) (by omega) (by omega) (by omega) ((hg191 b40 13 0 16 (qS93 _ _ (qb89 _ _ hs_y68)) (by decide)).trans emb9)) (qS93 _ _ (qb89 _ _ hs_y68)) ⟨by decide, rfl⟩ dL_law_438 rfl rfl (by simp [Value.category]) (by decide) (by omega) (by omega) (by decide) (fun r195 S197 g196 pr195 qr195 hg196 => ?_)
          obtain ⟨rfl, z198, rfl, lz198, uz198, k199⟩ := pr195
          refine X_st [.int (iI z198)] rfl ?_
          refine X_pop hK dL_law_441 rfl ?_
          refine X_goto hK 1465 dL_law_442 (by decide) ?_
          refine X_iinc hK (i := 4) (z := i9) (n := 6) 0 [(4, .int (iI (i9 + 6))), (3, .ref b89), (2, .ref b40), (1, .ref b1), (0, .ref b)] dL_law_1465 rfl (by decide) rfl ?_
          refine X_goto hK 23 dL_law_1468 (by decide) ?_
          exact ih9 S93 qS93 g196 (i9 + 6) k9 t9 c9 b9 sh9 sp9 sm9 fa9 tn9 (by omega) (by omega) (by omega) (by omega) (by omega) (by omega) (by omega) (by omega) (by omega) (by omega) (xLs_mod (xLs_mod al9 hg191 (by decide)) hg196 (by decide)) si9 (xPi_m (xPi_m pi9 hg191 xLe.rf (by decide)) hg196 xLe.rf (by decide)) (xMp_m (xMp_m mp9 hg191 xLe.rf (by decide)) hg196 xLe.rf (by decide)) (xTw_m (xTw_m tw9 hg191 xLe.rf (by decide)) hg196 xLe.rf (by decide)) ((hg196 b1 12 0 0 (qS93 _ _ (qb89 _ _ hk70)) (by decide)).trans ((hg191 b1 12 0 0 (qS93 _ _ (qb89 _ _ hk70)) (by decide)).trans el09)) ((hg196 b1 12 0 3 (qS93 _ _ (qb89 _ _ hk70)) (by decide)).trans ((hg191 b1 12 0 3 (qS93 _ _ (qb89 _ _ hk70)) (by decide)).trans el19)) ((hg196 b1 12 0 1 (qS93 _ _ (qb89 _ _ hk70)) (by decide)).trans ((hg191 b1 12 0 1 (qS93 _ _ (qb89 _ _ hk70)) (by decide)).trans el29)) ((hg196 b38 6 0 1 (qS93 _ _ (qb89 _ _ hk79)) (by decide)).trans ((hg191 b38 6 0 1 (qS93 _ _ (qb89 _ _ hk79)) (by decide)).trans el39)) ((hg196 b1 12 0 2 (qS93 _ _ (qb89 _ _ hk70)) (by decide)).trans ((hg191 b1 12 0 2 (qS93 _ _ (qb89 _ _ hk70)) (by decide)).trans el49)) ((hg196 b21 4 0 0 (qS93 _ _ (qb89 _ _ hk72)) (by decide)).trans ((hg191 b21 4 0 0 (qS93 _ _ (qb89 _ _ hk72)) (by decide)).trans el59)) ((hg196 b21 4 0 2 (qS93 _ _ (qb89 _ _ hk72)) (by decide)).trans ((hg191 b21 4 0 2 (qS93 _ _ (qb89 _ _ hk72)) (by decide)).trans el69)) ((hg196 b21 4 0 3 (qS93 _ _ (qb89 _ _ hk72)) (by decide)).trans ((hg191 b21 4 0 3 (qS93 _ _ (qb89 _ _ hk72)) (by decide)).trans el79)) ((hg196 b21 4 0 4 (qS93 _ _ (qb89 _ _ hk72)) (by decide)).trans ((hg191 b21 4 0 4 (qS93 _ _ (qb89 _ _ hk72)) (by decide)).trans el89)) ((hg196 b1 12 0 4 (qS93 _ _ (qb89 _ _ hk70)) (by decide)).trans ((hg191 b1 12 0 4 (qS93 _ _ (qb89 _ _ hk70)) (by decide)).trans el99)) ((hg196 b36 10 0 0 (qS93 _ _ (qb89 _ _ hk77)) (by decide)).trans ((hg191 b36 10 0 0 (qS93 _ _ (qb89 _ _ hk77)) (by decide)).trans el109)) ((hg196 b40 13 0 1 (qS93 _ _ (qb89 _ _ hs_y68)) (by decide)).trans ((hg191 b40 13 0 1 (qS93 _ _ (qb89 _ _ hs_y68)) (by decide)).trans el119)) ((hg196 b40 13 0 10 (qS93 _ _ (qb89 _ _ hs_y68)) (by decide)).trans ((hg191 b40 13 0 10 (qS93 _ _ (qb89 _ _ hs_y68)) (by decide)).trans el129)) ((hg196 b40 13 0 13 (qS93 _ _ (qb89 _ _ hs_y68)) (by decide)).trans ((hg191 b40 13 0 13 (qS93 _ _ (qb89 _ _ hs_y68)) (by decide)).trans el139)) ((hg196 b40 13 0 14 (qS93 _ _ (qb89 _ _ hs_y68)) (by decide)).trans ((hg191 b40 13 0 14 (qS93 _ _ (qb89 _ _ hs_y68)) (by decide)).trans el149)) ((hg196 b40 13 0 12 (qS93 _ _ (qb89 _ _ hs_y68)) (by decide)).trans ((hg191 b40 13 0 12 (qS93 _ _ (qb89 _ _ hs_y68)) (by decide)).trans el159)) ((hg196 b36 10 0 1 (qS93 _ _ (qb89 _ _ hk77)) (by decide)).trans ((hg191 b36 10 0 1 (qS93 _ _ (qb89 _ _ hk77)) (by decide)).trans exk9)) ((hg196 b40 13 0 2 (qS93 _ _ (qb89 _ _ hs_y68)) (by decide)).trans ((hg191 b40 13 0 2 (qS93 _ _ (qb89 _ _ hs_y68)) (by decide)).trans emk9)) ((hg196 b1 12 0 12 (qS93 _ _ (qb89 _ _ hk70)) (by decide)).trans ((hg191 b1 12 0 12 (qS93 _ _ (qb89 _ _ hk70)) (by decide)).trans ext9)) ((hg196 b40 13 0 3 (qS93 _ _ (qb89 _ _ hs_y68)) (by decide)).trans ((hg191 b40 13 0 3 (qS93 _ _ (qb89 _ _ hs_y68)) (by decide)).trans emt9)) ((hg196 b37 5 0 3 (qS93 _ _ (qb89 _ _ hk78)) (by decide)).trans ((hg191 b37 5 0 3 (qS93 _ _ (qb89 _ _ hk78)) (by decide)).trans exc9)) ((hg196 b40 13 0 69 (qS93 _ _ (qb89 _ _ hs_y68)) (by decide)).trans ((hg191 b40 13 0 69 (qS93 _ _ (qb89 _ _ hs_y68)) (by decide)).trans emc9)) ((hg196 b39 0 0 2 (qS93 _ _ (qb89 _ _ hk80)) (by decide)).trans ((hg191 b39 0 0 2 (qS93 _ _ (qb89 _ _ hk80)) (by decide)).trans exb9)) ((hg196 b40 13 0 16 (qS93 _ _ (qb89 _ _ hs_y68)) (by decide)).trans ((hg191 b40 13 0 16 (qS93 _ _ (qb89 _ _ hs_y68)) (by decide)).trans emb9)) ((hg196 b1 12 0 16 (qS93 _ _ (qb89 _ _ hk70)) (by decide)).trans ((hg191 b1 12 0 16 (qS93 _ _ (qb89 _ _ hk70)) (by decide)).trans exsh9)) ((hg196 b40 13 0 89 (qS93 _ _ (qb89 _ _ hs_y68)) (by decide)).trans ((hg191 b40 13 0 89 (qS93 _ _ (qb89 _ _ hs_y68)) (by decide)).trans emsh9)) ((hg196 b1 12 0 17 (qS93 _ _ (qb89 _ _ hk70)) (by decide)).trans ((hg191 b1 12 0 17 (qS93 _ _ (qb89 _ _ hk70)) (by decide)).trans exsp9)) ((hg196 b40 13 0 90 (qS93 _ _ (qb89 _ _ hs_y68)) (by decide)).trans ((hg191 b40 13 0 90 (qS93 _ _ (qb89 _ _ hs_y68)) (by decide)).trans emsp9)) ((hg196 b40 13 0 17 (qS93 _ _ (qb89 _ _ hs_y68)) (by decide)).trans ((hg191 b40 13 0 17 (qS93 _ _ (qb89 _ _ hs_y68)) (by decide)).trans emsm9)) ((hg196 b1 12 0 13 (qS93 _ _ (qb89 _ _ hk70)) (by decide)).trans ((hg191 b1 12 0 13 (qS93 _ _ (qb89 _ _ hk70)) (by decide)).trans exfa9)) ((hg196 b40 13 0 25 (qS93 _ _ (qb89 _ _ hs_y68)) (by decide)).trans ((hg191 b40 13 0 25 (qS93 _ _ (qb89 _ _ hs_y68)) (by decide)).trans emfa9)) ((hg196 b20 300 0 2 (qS93 _ _ (qb89 _ _ hk71)) (by decide)).trans ((hg191 b20 300 0 2 (qS93 _ _ (qb89 _ _ hk71)) (by decide)).trans extn9)) ((hg196 b40 13 0 39 (qS93 _ _ (qb89 _ _ hs_y68)) (by decide)).trans ((hg191 b40 13 0 39 (qS93 _ _ (qb89 _ _ hs_y68)) (by decide)).trans emtn9)) (xWn.m (xWn.m wn9 (qS93 _ _ (qb89 _ _ hk76)) (qS93 _ _ (qb89 _ _ hk83)) hg191 xLe.rf (by decide)) (qS93 _ _ (qb89 _ _ hk76)) (qS93 _ _ (qb89 _ _ hk83)) hg196 xLe.rf (by decide)) (by rw [(Eq.trans (xv_m hg196 (qS93 _ _ (qb89 _ _ hk74)) (by decide) (by decide)) (xv_m hg191 (qS93 _ _ (qb89 _ _ hk74)) (by decide) (by decide))), (Eq.trans (xv_m hg196 (qS93 _ _ (qb89 _ _ hk81)) (by decide) (by decide)) (xv_m hg191 (qS93 _ _ (qb89 _ _ hk81)) (by decide) (by decide)))]; exact wt9) (by rw [(Eq.trans (xv_m hg196 (qS93 _ _ (qb89 _ _ hk75)) (by decide) (by decide)) (xv_m hg191 (qS93 _ _ (qb89 _ _ hk75)) (by decide) (by decide))), (Eq.trans (xv_m hg196 (qS93 _ _ (qb89 _ _ hk82)) (by decide) (by decide)) (xv_m hg191 (qS93 _ _ (qb89 _ _ hk82)) (by decide) (by decide)))]; exact ld9) (by rw [(Eq.trans (xv_m hg196 (qS93 _ _ (qb89 _ _ hk73)) (by decide) (by decide)) (xv_m hg191 (qS93 _ _ (qb89 _ _ hk73)) (by decide) (by decide))), (Eq.trans (xv_m hg196 (qS93 _ _ (qb89 _ _ hs_b88)) (by decide) (by decide)) (xv_m hg191 (qS93 _ _ (qb89 _ _ hs_b88)) (by decide) (by decide)))]; exact sk9) (by rw [(Eq.trans (xv_m hg196 (qS93 _ _ (qb89 _ _ hs_b86)) (by decide) (by decide)) (xv_m hg191 (qS93 _ _ (qb89 _ _ hs_b86)) (by decide) (by decide))), (Eq.trans (xv_m hg196 (qS93 _ _ (qb89 _ _ hs_b87)) (by decide) (by decide)) (xv_m hg191 (qS93 _ _ (qb89 _ _ hs_b87)) (by decide) (by decide)))]; exact xTc.mono tc9 (by omega)) dc9 ds9 (by omega) (by omega) (by omega)
        · refine X_tableIn hK 445 5 (by decide) c98 (by decide) (by decide) dL_law_40 rfl (by decide) ?_
          refine X_aloadn hK (i := 1) 3 dL_law_445 rfl rfl ?_
          refine X_callV hK [] [] lk_L_47 (c_X11_weather _ _ _ _ _ S93 g94 b1 b36 k9 b86 b21 b22 (qS93 _ _ (qb89 _ _ hk70)) el09 (qS93 _ _ (qb89 _ _ hk77)) (by omega) exk9 el109 (qS93 _ _ (qb89 _ _ hs_b86)) el49 (qS93 _ _ (qb89 _ _ hk72)) el59 (qS93 _ _ (qb89 _ _ hk73))) (qS93 _ _ (qb89 _ _ hk70)) ⟨by decide, rfl⟩ dL_law_446 rfl rfl (by simp [Value.category]) (by decide) (by omega) (by omega) (by decide) (fun r200 S202 g201 pr200 qr200 hg201 => ?_)
          obtain ⟨rfl, z203, rfl, lz203, uz203, k204, k205, k206⟩ := pr200
          refine X_st [.int (iI z203)] rfl ?_
          refine X_pop hK dL_law_449 rfl ?_
          refine X_aloadn hK (i := 2) 2 dL_law_450 rfl rfl ?_
          refine X_callV hK [] [] lk_L_51 (c3_weather _ _ _ _ _ S93 g201 b40 k9 b87 sm9 b88 (qS93 _ _ (qb89 _ _ hs_y68)) (by omega) ((hg201 b40 13 0 2 (qS93 _ _ (qb89 _ _ hs_y68)) (by decide)).trans emk9) ((hg201 b40 13 0 1 (qS93 _ _ (qb89 _ _ hs_y68)) (by decide)).trans el119) (qS93 _ _ (qb89 _ _ hs_b87)) (by omega) ((hg201 b40 13 0 17 (qS93 _ _ (qb89 _ _ hs_y68)) (by decide)).trans emsm9) ((hg201 b40 13 0 10 (qS93 _ _ (qb89 _ _ hs_y68)) (by decide)).trans el129) (qS93 _ _ (qb89 _ _ hs_b88))) (qS93 _ _ (qb89 _ _ hs_y68)) ⟨by decide, rfl⟩ dL_law_451 rfl rfl (by simp [Value.category]) (by decide) (by omega) (by omega) (by decide) (fun r207 S209 g208 pr207 qr207 hg208 => ?_)
          obtain ⟨rfl, z210, rfl, lz210, uz210, k211, k212, k213⟩ := pr207
          refine X_st [.int (iI z210)] rfl ?_
          have hq9 : z203 = z210 := xbeq k205 k212 (by rw [(xv_m hg201 (qS93 _ _ (qb89 _ _ hs_b87)) (by decide) (by decide)), tc9.wk]) (by omega) (by omega)
          obtain ⟨z214, lz214, uz214, ez214, iz214⟩ : ∃ s8 : Int, 0 ≤ s8 ∧ s8 ≤ 400 ∧ g208 b40 17 = .int (iI s8) ∧ xSm (xv g208 b22) (xv g208 b88) s8 := by
            by_cases h9 : z203 = 1
            · have hb9 := k205.mp h9
              obtain ⟨a1, a2⟩ := k213.1 (by omega)
              exact ⟨_, by omega, by omega, a1, xSm.of (by omega) (by rw [(xv_m hg208 (qS93 _ _ (qb89 _ _ hk73)) (by decide) (by decide))]; exact k206.1 h9) a2 (by rw [(xv_m hg201 (qS93 _ _ (qb89 _ _ hs_b87)) (by decide) (by decide))]; exact tc9)⟩
            · obtain ⟨a1, a2⟩ := k213.2 (by omega)
              exact ⟨_, by omega, by omega, a1, by rw [(xv_m hg208 (qS93 _ _ (qb89 _ _ hk73)) (by decide) (by decide)), k206.2 h9, a2, (xv_m hg201 (qS93 _ _ (qb89 _ _ hs_b88)) (by decide) (by decide))]; exact sk9⟩
          refine X_pop hK dL_law_454 rfl ?_
          refine X_goto hK 1465 dL_law_455 (by decide) ?_
          refine X_iinc hK (i := 4) (z := i9) (n := 6) 0 [(4, .int (iI (i9 + 6))), (3, .ref b89), (2, .ref b40), (1, .ref b1), (0, .ref b)] dL_law_1465 rfl (by decide) rfl ?_
          refine X_goto hK 23 dL_law_1468 (by decide) ?_
          exact ih9 S93 qS93 g208 (i9 + 6) (0) t9 c9 b9 sh9 sp9 z214 fa9 tn9 (by omega) (by omega) (by omega) (by omega) (by omega) (by omega) (by omega) (by omega) (by omega) (by omega) (xLs_mod (xLs_mod al9 hg201 (by decide)) hg208 (by decide)) si9 (xPi_m (xPi_m pi9 hg201 xLe.rf (by decide)) hg208 xLe.rf (by decide)) (xMp_m (xMp_m mp9 hg201 xLe.rf (by decide)) hg208 xLe.rf (by decide)) (xTw_m (xTw_m tw9 hg201 xLe.rf (by decide)) hg208 xLe.rf (by decide)) ((hg208 b1 12 0 0 (qS93 _ _ (qb89 _ _ hk70)) (by decide)).trans ((hg201 b1 12 0 0 (qS93 _ _ (qb89 _ _ hk70)) (by decide)).trans el09)) ((hg208 b1 12 0 3 (qS93 _ _ (qb89 _ _ hk70)) (by decide)).trans ((hg201 b1 12 0 3 (qS93 _ _ (qb89 _ _ hk70)) (by decide)).trans el19)) ((hg208 b1 12 0 1 (qS93 _ _ (qb89 _ _ hk70)) (by decide)).trans ((hg201 b1 12 0 1 (qS93 _ _ (qb89 _ _ hk70)) (by decide)).trans el29)) ((hg208 b38 6 0 1 (qS93 _ _ (qb89 _ _ hk79)) (by decide)).trans ((hg201 b38 6 0 1 (qS93 _ _ (qb89 _ _ hk79)) (by decide)).trans el39)) ((hg208 b1 12 0 2 (qS93 _ _ (qb89 _ _ hk70)) (by decide)).trans ((hg201 b1 12 0 2 (qS93 _ _ (qb89 _ _ hk70)) (by decide)).trans el49)) ((hg208 b21 4 0 0 (qS93 _ _ (qb89 _ _ hk72)) (by decide)).trans ((hg201 b21 4 0 0 (qS93 _ _ (qb89 _ _ hk72)) (by decide)).trans el59)) ((hg208 b21 4 0 2 (qS93 _ _ (qb89 _ _ hk72)) (by decide)).trans ((hg201 b21 4 0 2 (qS93 _ _ (qb89 _ _ hk72)) (by decide)).trans el69)) ((hg208 b21 4 0 3 (qS93 _ _ (qb89 _ _ hk72)) (by decide)).trans ((hg201 b21 4 0 3 (qS93 _ _ (qb89 _ _ hk72)) (by decide)).trans el79)) ((hg208 b21 4 0 4 (qS93 _ _ (qb89 _ _ hk72)) (by decide)).trans ((hg201 b21 4 0 4 (qS93 _ _ (qb89 _ _ hk72)) (by decide)).trans el89)) ((hg208 b1 12 0 4 (qS93 _ _ (qb89 _ _ hk70)) (by decide)).trans ((hg201 b1 12 0 4 (qS93 _ _ (qb89 _ _ hk70)) (by decide)).trans el99)) ((hg208 b36 10 0 0 (qS93 _ _ (qb89 _ _ hk77)) (by decide)).trans ((hg201 b36 10 0 0 (qS93 _ _ (qb89 _ _ hk77)) (by decide)).trans el109)) ((hg208 b40 13 0 1 (qS93 _ _ (qb89 _ _ hs_y68)) (by decide)).trans ((hg201 b40 13 0 1 (qS93 _ _ (qb89 _ _ hs_y68)) (by decide)).trans el119)) ((hg208 b40 13 0 10 (qS93 _ _ (qb89 _ _ hs_y68)) (by decide)).trans ((hg201 b40 13 0 10 (qS93 _ _ (qb89 _ _ hs_y68)) (by decide)).trans el129)) ((hg208 b40 13 0 13 (qS93 _ _ (qb89 _ _ hs_y68)) (by decide)).trans ((hg201 b40 13 0 13 (qS93 _ _ (qb89 _ _ hs_y68)) (by decide)).trans el139)) ((hg208 b40 13 0 14 (qS93 _ _ (qb89 _ _ hs_y68)) (by decide)).trans ((hg201 b40 13 0 14 (qS93 _ _ (qb89 _ _ hs_y68)) (by decide)).trans el149)) ((hg208 b40 13 0 12 (qS93 _ _ (qb89 _ _ hs_y68)) (by decide)).trans ((hg201 b40 13 0 12 (qS93 _ _ (qb89 _ _ hs_y68)) (by decide)).trans el159)) ((hg208 b36 10 0 1 (qS93 _ _ (qb89 _ _ hk77)) (by decide)).trans k204) k211 ((hg208 b1 12 0 12 (qS93 _ _ (qb89 _ _ hk70)) (by decide)).trans ((hg201 b1 12 0 12 (qS93 _ _ (qb89 _ _ hk70)) (by decide)).trans ext9)) ((hg208 b40 13 0 3 (qS93 _ _ (qb89 _ _ hs_y68)) (by decide)).trans ((hg201 b40 13 0 3 (qS93 _ _ (qb89 _ _ hs_y68)) (by decide)).trans emt9)) ((hg208 b37 5 0 3 (qS93 _ _ (qb89 _ _ hk78)) (by decide)).trans ((hg201 b37 5 0 3 (qS93 _ _ (qb89 _ _ hk78)) (by decide)).trans exc9)) ((hg208 b40 13 0 69 (qS93 _ _ (qb89 _ _ hs_y68)) (by decide)).trans ((hg201 b40 13 0 69 (qS93 _ _ (qb89 _ _ hs_y68)) (by decide)).trans emc9)) ((hg208 b39 0 0 2 (qS93 _ _ (qb89 _ _ hk80)) (by decide)).trans ((hg201 b39 0 0 2 (qS93 _ _ (qb89 _ _ hk80)) (by decide)).trans exb9)) ((hg208 b40 13 0 16 (qS93 _ _ (qb89 _ _ hs_y68)) (by decide)).trans ((hg201 b40 13 0 16 (qS93 _ _ (qb89 _ _ hs_y68)) (by decide)).trans emb9)) ((hg208 b1 12 0 16 (qS93 _ _ (qb89 _ _ hk70)) (by decide)).trans ((hg201 b1 12 0 16 (qS93 _ _ (qb89 _ _ hk70)) (by decide)).trans exsh9)) ((hg208 b40 13 0 89 (qS93 _ _ (qb89 _ _ hs_y68)) (by decide)).trans ((hg201 b40 13 0 89 (qS93 _ _ (qb89 _ _ hs_y68)) (by decide)).trans emsh9)) ((hg208 b1 12 0 17 (qS93 _ _ (qb89 _ _ hk70)) (by decide)).trans ((hg201 b1 12 0 17 (qS93 _ _ (qb89 _ _ hk70)) (by decide)).trans exsp9)) ((hg208 b40 13 0 90 (qS93 _ _ (qb89 _ _ hs_y68)) (by decide)).trans ((hg201 b40 13 0 90 (qS93 _ _ (qb89 _ _ hs_y68)) (by decide)).trans emsp9)) ez214 ((hg208 b1 12 0 13 (qS93 _ _ (qb89 _ _ hk70)) (by decide)).trans ((hg201 b1 12 0 13 (qS93 _ _ (qb89 _ _ hk70)) (by decide)).trans exfa9)) ((hg208 b40 13 0 25 (qS93 _ _ (qb89 _ _ hs_y68)) (by decide)).trans ((hg201 b40 13 0 25 (qS93 _ _ (qb89 _ _ hs_y68)) (by decide)).trans emfa9)) ((hg208 b20 300 0 2 (qS93 _ _ (qb89 _ _ hk71)) (by decide)).trans ((hg201 b20 300 0 2 (qS93 _ _ (qb89 _ _ hk71)) (by decide)).trans extn9)) ((hg208 b40 13 0 39 (qS93 _ _ (qb89 _ _ hs_y68)) (by decide)).trans ((hg201 b40 13 0 39 (qS93 _ _ (qb89 _ _ hs_y68)) (by decide)).trans emtn9)) (xWn.m (xWn.m wn9 (qS93 _ _ (qb89 _ _ hk76)) (qS93 _ _ (qb89 _ _ hk83)) hg201 xLe.rf (by decide)) (qS93 _ _ (qb89 _ _ hk76)) (qS93 _ _ (qb89 _ _ hk83)) hg208 xLe.rf (by decide)) (by rw [(Eq.trans (xv_m hg208 (qS93 _ _ (qb89 _ _ hk74)) (by decide) (by decide)) (xv_m hg201 (qS93 _ _ (qb89 _ _ hk74)) (by decide) (by decide))), (Eq.trans (xv_m hg208 (qS93 _ _ (qb89 _ _ hk81)) (by decide) (by decide)) (xv_m hg201 (qS93 _ _ (qb89 _ _ hk81)) (by decide) (by decide)))]; exact wt9) (by rw [(Eq.trans (xv_m hg208 (qS93 _ _ (qb89 _ _ hk75)) (by decide) (by decide)) (xv_m hg201 (qS93 _ _ (qb89 _ _ hk75)) (by decide) (by decide))), (Eq.trans (xv_m hg208 (qS93 _ _ (qb89 _ _ hk82)) (by decide) (by decide)) (xv_m hg201 (qS93 _ _ (qb89 _ _ hk82)) (by decide) (by decide)))]; exact ld9) iz214 (by rw [(Eq.trans (xv_m hg208 (qS93 _ _ (qb89 _ _ hs_b86)) (by decide) (by decide)) (xv_m hg201 (qS93 _ _ (qb89 _ _ hs_b86)) (by decide) (by decide))), (Eq.trans (xv_m hg208 (qS93 _ _ (qb89 _ _ hs_b87)) (by decide) (by decide)) (xv_m hg201 (qS93 _ _ (qb89 _ _ hs_b87)) (by decide) (by decide)))]; exact xTc.mono tc9 (by omega)) dc9 ds9 (by omega) (by omega) (by omega)
        · refine X_tableIn hK 458 6 (by decide) c98 (by decide) (by decide) dL_law_40 rfl (by decide) ?_
          refine X_aloadn hK (i := 1) 3 dL_law_458 rfl rfl ?_
          refine X_aloadn hK (i := 0) 4 dL_law_459 rfl rfl ?_
          refine X_iload hK (i := 4) 0 dL_law_460 rfl ?_
          refine X_iconst hK dL_law_462 ?_
          refine X_iadd hK dL_law_463 ?_
          refine X_scr hK hX hbl hbA hL (by omega) (by omega) dL_law_464 (fun z215 ez215 lz215 uz215 => ?_)
          refine X_callV hK [.int (iI z215)] [] lk_L_52 (c_X11_sky _ _ _ _ _ S93 g94 b1 z215 b21 b22 (qS93 _ _ (qb89 _ _ hk70)) (by omega) el49 (qS93 _ _ (qb89 _ _ hk72)) el59 (qS93 _ _ (qb89 _ _ hk73))) (qS93 _ _ (qb89 _ _ hk70)) ⟨by decide, rfl⟩ dL_law_465 rfl rfl (by simp [Value.category]) (by decide) (by omega) (by omega) (by decide) (fun r216 S218 g217 pr216 qr216 hg217 => ?_)
          obtain ⟨rfl, rfl, z219, rfl, lz219, uz219, k220⟩ := pr216
          refine X_st [.int (iI z219)] rfl ?_
          refine X_pop hK dL_law_468 rfl ?_
          refine X_aloadn hK (i := 2) 2 dL_law_469 rfl rfl ?_
          refine X_aloadn hK (i := 0) 4 dL_law_470 rfl rfl ?_
          refine X_iload hK (i := 4) 0 dL_law_471 rfl ?_
          refine X_iconst hK dL_law_473 ?_
          refine X_iadd hK dL_law_474 ?_
          refine X_scrK hK hX hbl hbA hL (by omega) (by omega) ez215 dL_law_475 ?_
          refine X_callV hK [.int (iI z215)] [] lk_L_55 (c_X12_sky _ _ _ _ _ S93 g94 b40 z215 sm9 b88 (qS93 _ _ (qb89 _ _ hs_y68)) (by omega) (by omega) emsm9 el129 (qS93 _ _ (qb89 _ _ hs_b88))) (qS93 _ _ (qb89 _ _ hs_y68)) ⟨by decide, rfl⟩ dL_law_476 rfl rfl (by simp [Value.category]) (by decide) (by omega) (by omega) (by decide) (fun r221 S223 g222 pr221 qr221 hg222 => ?_)
          obtain ⟨rfl, z224, rfl, lz224, uz224, k225⟩ := pr221
          refine X_st [.int (iI z224)] rfl ?_
          refine X_pop hK dL_law_479 rfl ?_
          refine X_goto hK 1465 dL_law_480 (by decide) ?_
          refine X_iinc hK (i := 4) (z := i9) (n := 6) 0 [(4, .int (iI (i9 + 6))), (3, .ref b89), (2, .ref b40), (1, .ref b1), (0, .ref b)] dL_law_1465 rfl (by decide) rfl ?_
          refine X_goto hK 23 dL_law_1468 (by decide) ?_
          exact ih9 S93 qS93 g222 (i9 + 6) k9 t9 c9 b9 sh9 sp9 sm9 fa9 tn9 (by omega) (by omega) (by omega) (by omega) (by omega) (by omega) (by omega) (by omega) (by omega) (by omega) (xLs_mod al9 hg222 (by decide)) si9 (xPi_m pi9 hg222 xLe.rf (by decide)) (xMp_m mp9 hg222 xLe.rf (by decide)) (xTw_m tw9 hg222 xLe.rf (by decide)) ((hg222 b1 12 0 0 (qS93 _ _ (qb89 _ _ hk70)) (by decide)).trans el09) ((hg222 b1 12 0 3 (qS93 _ _ (qb89 _ _ hk70)) (by decide)).trans el19) ((hg222 b1 12 0 1 (qS93 _ _ (qb89 _ _ hk70)) (by decide)).trans el29) ((hg222 b38 6 0 1 (qS93 _ _ (qb89 _ _ hk79)) (by decide)).trans el39) ((hg222 b1 12 0 2 (qS93 _ _ (qb89 _ _ hk70)) (by decide)).trans el49) ((hg222 b21 4 0 0 (qS93 _ _ (qb89 _ _ hk72)) (by decide)).trans el59) ((hg222 b21 4 0 2 (qS93 _ _ (qb89 _ _ hk72)) (by decide)).trans el69) ((hg222 b21 4 0 3 (qS93 _ _ (qb89 _ _ hk72)) (by decide)).trans el79) ((hg222 b21 4 0 4 (qS93 _ _ (qb89 _ _ hk72)) (by decide)).trans el89) ((hg222 b1 12 0 4 (qS93 _ _ (qb89 _ _ hk70)) (by decide)).trans el99) ((hg222 b36 10 0 0 (qS93 _ _ (qb89 _ _ hk77)) (by decide)).trans el109) ((hg222 b40 13 0 1 (qS93 _ _ (qb89 _ _ hs_y68)) (by decide)).trans el119) ((hg222 b40 13 0 10 (qS93 _ _ (qb89 _ _ hs_y68)) (by decide)).trans el129) ((hg222 b40 13 0 13 (qS93 _ _ (qb89 _ _ hs_y68)) (by decide)).trans el139) ((hg222 b40 13 0 14 (qS93 _ _ (qb89 _ _ hs_y68)) (by decide)).trans el149) ((hg222 b40 13 0 12 (qS93 _ _ (qb89 _ _ hs_y68)) (by decide)).trans el159) ((hg222 b36 10 0 1 (qS93 _ _ (qb89 _ _ hk77)) (by decide)).trans exk9) ((hg222 b40 13 0 2 (qS93 _ _ (qb89 _ _ hs_y68)) (by decide)).trans emk9) ((hg222 b1 12 0 12 (qS93 _ _ (qb89 _ _ hk70)) (by decide)).trans ext9) ((hg222 b40 13 0 3 (qS93 _ _ (qb89 _ _ hs_y68)) (by decide)).trans emt9) ((hg222 b37 5 0 3 (qS93 _ _ (qb89 _ _ hk78)) (by decide)).trans exc9) ((hg222 b40 13 0 69 (qS93 _ _ (qb89 _ _ hs_y68)) (by decide)).trans emc9) ((hg222 b39 0 0 2 (qS93 _ _ (qb89 _ _ hk80)) (by decide)).trans exb9) ((hg222 b40 13 0 16 (qS93 _ _ (qb89 _ _ hs_y68)) (by decide)).trans emb9) ((hg222 b1 12 0 16 (qS93 _ _ (qb89 _ _ hk70)) (by decide)).trans exsh9) ((hg222 b40 13 0 89 (qS93 _ _ (qb89 _ _ hs_y68)) (by decide)).trans emsh9) ((hg222 b1 12 0 17 (qS93 _ _ (qb89 _ _ hk70)) (by decide)).trans exsp9) ((hg222 b40 13 0 90 (qS93 _ _ (qb89 _ _ hs_y68)) (by decide)).trans emsp9) ((hg222 b40 13 0 17 (qS93 _ _ (qb89 _ _ hs_y68)) (by decide)).trans emsm9) ((hg222 b1 12 0 13 (qS93 _ _ (qb89 _ _ hk70)) (by decide)).trans exfa9) ((hg222 b40 13 0 25 (qS93 _ _ (qb89 _ _ hs_y68)) (by decide)).trans emfa9) ((hg222 b20 300 0 2 (qS93 _ _ (qb89 _ _ hk71)) (by decide)).trans extn9) ((hg222 b40 13 0 39 (qS93 _ _ (qb89 _ _ hs_y68)) (by decide)).trans emtn9) (xWn.m wn9 (qS93 _ _ (qb89 _ _ hk76)) (qS93 _ _ (qb89 _ _ hk83)) hg222 xLe.rf (by decide)) (by rw [(xv_m hg222 (qS93 _ _ (qb89 _ _ hk74)) (by decide) (by decide)), (xv_m hg222 (qS93 _ _ (qb89 _ _ hk81)) (by decide) (by decide))]; exact wt9) (by rw [(xv_m hg222 (qS93 _ _ (qb89 _ _ hk75)) (by decide) (by decide)), (xv_m hg222 (qS93 _ _ (qb89 _ _ hk82)) (by decide) (by decide))]; exact ld9) (by rw [(xv_m hg222 (qS93 _ _ (qb89 _ _ hk73)) (by decide) (by decide)), (xv_m hg222 (qS93 _ _ (qb89 _ _ hs_b88)) (by decide) (by decide))]; exact sk9) (by rw [(xv_m hg222 (qS93 _ _ (qb89 _ _ hs_b86)) (by decide) (by decide)), (xv_m hg222 (qS93 _ _ (qb89 _ _ hs_b87)) (by decide) (by decide))]; exact xTc.mono tc9 (by omega)) dc9 ds9 (by omega) (by omega) (by omega)
        · refine X_tableIn hK 483 7 (by decide) c98 (by decide) (by decide) dL_law_40 rfl (by decide) ?_
          refine X_aloadn hK (i := 1) 3 dL_law_483 rfl rfl ?_
          refine X_aloadn hK (i := 0) 4 dL_law_484 rfl rfl ?_
          refine X_iload hK (i := 4) 0 dL_law_485 rfl ?_
          refine X_iconst hK dL_law_487 ?_
          refine X_iadd hK dL_law_488 ?_
          refine X_scr hK hX hbl hbA hL (by omega) (by omega) dL_law_489 (fun z226 ez226 lz226 uz226 => ?_)
          refine X_aloadn hK (i := 0) 4 dL_law_490 rfl rfl ?_
          refine X_iload hK (i := 4) 0 dL_law_491 rfl ?_
          refine X_iconst hK dL_law_493 ?_
          refine X_iadd hK dL_law_494 ?_
          refine X_scr hK hX hbl hbA hL (by omega) (by omega) dL_law_495 (fun z227 ez227 lz227 uz227 => ?_)
          refine X_aloadn hK (i := 0) 4 dL_law_496 rfl rfl ?_
          refine X_iload hK (i := 4) 0 dL_law_497 rfl ?_
          refine X_iconst hK dL_law_499 ?_
          refine X_iadd hK dL_law_500 ?_
          refine X_scr hK hX hbl hbA hL (by omega) (by omega) dL_law_501 (fun z228 ez228 lz228 uz228 => ?_)
          refine X_callV hK [.int (iI z226), .int (iI z227), .int (iI z228)] [] lk_L_56 (c_X11_headline _ _ _ _ _ S93 g94 b1 z226 z227 z228 t9 (qS93 _ _ (qb89 _ _ hk70)) (by omega) (by omega) (by omega) (by omega) ext9) (qS93 _ _ (qb89 _ _ hk70)) ⟨by decide, rfl⟩ dL_law_502 rfl rfl (by simp [Value.category]) (by decide) (by omega) (by omega) (by decide) (fun r229 S231 g230 pr229 qr229 hg230 => ?_)
          obtain ⟨rfl, z232, rfl, lz232, uz232, k233⟩ := pr229
          refine X_st [.int (iI z232)] rfl ?_
          refine X_pop hK dL_law_505 rfl ?_
          refine X_aloadn hK (i := 2) 2 dL_law_506 rfl rfl ?_
          refine X_aloadn hK (i := 0) 4 dL_law_507 rfl rfl ?_
          refine X_iload hK (i := 4) 0 dL_law_508 rfl ?_
          refine X_iconst hK dL_law_510 ?_
          refine X_iadd hK dL_law_511 ?_
          refine X_scrK hK hX hbl hbA hL (by omega) (by omega) ez226 dL_law_512 ?_
          refine X_aloadn hK (i := 0) 4 dL_law_513 rfl rfl ?_
          refine X_iload hK (i := 4) 0 dL_law_514 rfl ?_
          refine X_iconst hK dL_law_516 ?_
          refine X_iadd hK dL_law_517 ?_
          refine X_scrK hK hX hbl hbA hL (by omega) (by omega) ez227 dL_law_518 ?_
          refine X_aloadn hK (i := 0) 4 dL_law_519 rfl rfl ?_
          refine X_iload hK (i := 4) 0 dL_law_520 rfl ?_
          refine X_iconst hK dL_law_522 ?_
          refine X_iadd hK dL_law_523 ?_
          refine X_scrK hK hX hbl hbA hL (by omega) (by omega) ez228 dL_law_524 ?_
          refine X_callV hK [.int (iI z226), .int (iI z227), .int (iI z228)] [] lk_L_60 (c_X12_headline _ _ _ _ _ S93 g230 b40 z226 z227 z228 t9 (qS93 _ _ (qb89 _ _ hs_y68)) (by omega) (by omega) (by omega) (by omega) ((hg230 b40 13 0 3 (qS93 _ _ (qb89 _ _ hs_y68)) (by decide)).trans emt9)) (qS93 _ _ (qb89 _ _ hs_y68)) ⟨by decide, rfl⟩ dL_law_525 rfl rfl (by simp [Value.category]) (by decide) (by omega) (by omega) (by decide) (fun r234 S236 g235 pr234 qr234 hg235 => ?_)
          obtain ⟨rfl, z237, rfl, lz237, uz237, k238⟩ := pr234
          refine X_st [.int (iI z237)] rfl ?_
          refine X_pop hK dL_law_528 rfl ?_
          refine X_goto hK 1465 dL_law_529 (by decide) ?_
          refine X_iinc hK (i := 4) (z := i9) (n := 6) 0 [(4, .int (iI (i9 + 6))), (3, .ref b89), (2, .ref b40), (1, .ref b1), (0, .ref b)] dL_law_1465 rfl (by decide) rfl ?_
          refine X_goto hK 23 dL_law_1468 (by decide) ?_
          exact ih9 S93 qS93 g235 (i9 + 6) k9 t9 c9 b9 sh9 sp9 sm9 fa9 tn9 (by omega) (by omega) (by omega) (by omega) (by omega) (by omega) (by omega) (by omega) (by omega) (by omega) (xLs_mod (xLs_mod al9 hg230 (by decide)) hg235 (by decide)) si9 (xPi_m (xPi_m pi9 hg230 xLe.rf (by decide)) hg235 xLe.rf (by decide)) (xMp_m (xMp_m mp9 hg230 xLe.rf (by decide)) hg235 xLe.rf (by decide)) (xTw_m (xTw_m tw9 hg230 xLe.rf (by decide)) hg235 xLe.rf (by decide)) ((hg235 b1 12 0 0 (qS93 _ _ (qb89 _ _ hk70)) (by decide)).trans ((hg230 b1 12 0 0 (qS93 _ _ (qb89 _ _ hk70)) (by decide)).trans el09)) ((hg235 b1 12 0 3 (qS93 _ _ (qb89 _ _ hk70)) (by decide)).trans ((hg230 b1 12 0 3 (qS93 _ _ (qb89 _ _ hk70)) (by decide)).trans el19)) ((hg235 b1 12 0 1 (qS93 _ _ (qb89 _ _ hk70)) (by decide)).trans ((hg230 b1 12 0 1 (qS93 _ _ (qb89 _ _ hk70)) (by decide)).trans el29)) ((hg235 b38 6 0 1 (qS93 _ _ (qb89 _ _ hk79)) (by decide)).trans ((hg230 b38 6 0 1 (qS93 _ _ (qb89 _ _ hk79)) (by decide)).trans el39)) ((hg235 b1 12 0 2 (qS93 _ _ (qb89 _ _ hk70)) (by decide)).trans ((hg230 b1 12 0 2 (qS93 _ _ (qb89 _ _ hk70)) (by decide)).trans el49)) ((hg235 b21 4 0 0 (qS93 _ _ (qb89 _ _ hk72)) (by decide)).trans ((hg230 b21 4 0 0 (qS93 _ _ (qb89 _ _ hk72)) (by decide)).trans el59)) ((hg235 b21 4 0 2 (qS93 _ _ (qb89 _ _ hk72)) (by decide)).trans ((hg230 b21 4 0 2 (qS93 _ _ (qb89 _ _ hk72)) (by decide)).trans el69)) ((hg235 b21 4 0 3 (qS93 _ _ (qb89 _ _ hk72)) (by decide)).trans ((hg230 b21 4 0 3 (qS93 _ _ (qb89 _ _ hk72)) (by decide)).trans el79)) ((hg235 b21 4 0 4 (qS93 _ _ (qb89 _ _ hk72)) (by decide)).trans ((hg230 b21 4 0 4 (qS93 _ _ (qb89 _ _ hk72)) (by decide)).trans el89)) ((hg235 b1 12 0 4 (qS93 _ _ (qb89 _ _ hk70)) (by decide)).trans ((hg230 b1 12 0 4 (qS93 _ _ (qb89 _ _ hk70)) (by decide)).trans el99)) ((hg235 b36 10 0 0 (qS93 _ _ (qb89 _ _ hk77)) (by decide)).trans ((hg230 b36 10 0 0 (qS93 _ _ (qb89 _ _ hk77)) (by decide)).trans el109)) ((hg235 b40 13 0 1 (qS93 _ _ (qb89 _ _ hs_y68)) (by decide)).trans ((hg230 b40 13 0 1 (qS93 _ _ (qb89 _ _ hs_y68)) (by decide)).trans el119)) ((hg235 b40 13 0 10 (qS93 _ _ (qb89 _ _ hs_y68)) (by decide)).trans ((hg230 b40 13 0 10 (qS93 _ _ (qb89 _ _ hs_y68)) (by decide)).trans el129)) ((hg235 b40 13 0 13 (qS93 _ _ (qb89 _ _ hs_y68)) (by decide)).trans ((hg230 b40 13 0 13 (qS93 _ _ (qb89 _ _ hs_y68)) (by decide)).trans el139)) ((hg235 b40 13 0 14 (qS93 _ _ (qb89 _ _ hs_y68)) (by decide)).trans ((hg230 b40 13 0 14 (qS93 _ _ (qb89 _ _ hs_y68)) (by decide)).trans el149)) ((hg235 b40 13 0 12 (qS93 _ _ (qb89 _ _ hs_y68)) (by decide)).trans ((hg230 b40 13 0 12 (qS93 _ _ (qb89 _ _ hs_y68)) (by decide)).trans el159)) ((hg235 b36 10 0 1 (qS93 _ _ (qb89 _ _ hk77)) (by decide)).trans ((hg230 b36 10 0 1 (qS93 _ _ (qb89 _ _ hk77)) (by decide)).trans exk9)) ((hg235 b40 13 0 2 (qS93 _ _ (qb89 _ _ hs_y68)) (by decide)).trans ((hg230 b40 13 0 2 (qS93 _ _ (qb89 _ _ hs_y68)) (by decide)).trans emk9)) ((hg235 b1 12 0 12 (qS93 _ _ (qb89 _ _ hk70)) (by decide)).trans ((hg230 b1 12 0 12 (qS93 _ _ (qb89 _ _ hk70)) (by decide)).trans ext9)) ((hg235 b40 13 0 3 (qS93 _ _ (qb89 _ _ hs_y68)) (by decide)).trans ((hg230 b40 13 0 3 (qS93 _ _ (qb89 _ _ hs_y68)) (by decide)).trans emt9)) ((hg235 b37 5 0 3 (qS93 _ _ (qb89 _ _ hk78)) (by decide)).trans ((hg230 b37 5 0 3 (qS93 _ _ (qb89 _ _ hk78)) (by decide)).trans exc9)) ((hg235 b40 13 0 69 (qS93 _ _ (qb89 _ _ hs_y68)) (by decide)).trans ((hg230 b40 13 0 69 (qS93 _ _ (qb89 _ _ hs_y68)) (by decide)).trans emc9)) ((hg235 b39 0 0 2 (qS93 _ _ (qb89 _ _ hk80)) (by decide)).trans ((hg230 b39 0 0 2 (qS93 _ _ (qb89 _ _ hk80)) (by decide)).trans exb9)) ((hg235 b40 13 0 16 (qS93 _ _ (qb89 _ _ hs_y68)) (by decide)).trans ((hg230 b40 13 0 16 (qS93 _ _ (qb89 _ _ hs_y68)) (by decide)).trans emb9)) ((hg235 b1 12 0 16 (qS93 _ _ (qb89 _ _ hk70)) (by decide)).trans ((hg230 b1 12 0 16 (qS93 _ _ (qb89 _ _ hk70)) (by decide)).trans exsh9)) ((hg235 b40 13 0 89 (qS93 _ _ (qb89 _ _ hs_y68)) (by decide)).trans ((hg230 b40 13 0 89 (qS93 _ _ (qb89 _ _ hs_y68)) (by decide)).trans emsh9)) ((hg235 b1 12 0 17 (qS93 _ _ (qb89 _ _ hk70)) (by decide)).trans ((hg230 b1 12 0 17 (qS93 _ _ (qb89 _ _ hk70)) (by decide)).trans exsp9)) ((hg235 b40 13 0 90 (qS93 _ _ (qb89 _ _ hs_y68)) (by decide)).trans ((hg230 b40 13 0 90 (qS93 _ _ (qb89 _ _ hs_y68)) (by decide)).trans emsp9)) ((hg235 b40 13 0 17 (qS93 _ _ (qb89 _ _ hs_y68)) (by decide)).trans ((hg230 b40 13 0 17 (qS93 _ _ (qb89 _ _ hs_y68)) (by decide)).trans emsm9)) ((hg235 b1 12 0 13 (qS93 _ _ (qb89 _ _ hk70)) (by decide)).trans ((hg230 b1 12 0 13 (qS93 _ _ (qb89 _ _ hk70)) (by decide)).trans exfa9)) ((hg235 b40 13 0 25 (qS93 _ _ (qb89 _ _ hs_y68)) (by decide)).trans ((hg230 b40 13 0 25 (qS93 _ _ (qb89 _ _ hs_y68)) (by decide)).trans emfa9)) ((hg235 b20 300 0 2 (qS93 _ _ (qb89 _ _ hk71)) (by decide)).trans ((hg230 b20 300 0 2 (qS93 _ _ (qb89 _ _ hk71)) (by decide)).trans extn9)) ((hg235 b40 13 0 39 (qS93 _ _ (qb89 _ _ hs_y68)) (by decide)).trans ((hg230 b40 13 0 39 (qS93 _ _ (qb89 _ _ hs_y68)) (by decide)).trans emtn9)) (xWn.m (xWn.m wn9 (qS93 _ _ (qb89 _ _ hk76)) (qS93 _ _ (qb89 _ _ hk83)) hg230 xLe.rf (by decide)) (qS93 _ _ (qb89 _ _ hk76)) (qS93 _ _ (qb89 _ _ hk83)) hg235 xLe.rf (by decide)) (by rw [(Eq.trans (xv_m hg235 (qS93 _ _ (qb89 _ _ hk74)) (by decide) (by decide)) (xv_m hg230 (qS93 _ _ (qb89 _ _ hk74)) (by decide) (by decide))), (Eq.trans (xv_m hg235 (qS93 _ _ (qb89 _ _ hk81)) (by decide) (by decide)) (xv_m hg230 (qS93 _ _ (qb89 _ _ hk81)) (by decide) (by decide)))]; exact wt9) (by rw [(Eq.trans (xv_m hg235 (qS93 _ _ (qb89 _ _ hk75)) (by decide) (by decide)) (xv_m hg230 (qS93 _ _ (qb89 _ _ hk75)) (by decide) (by decide))), (Eq.trans (xv_m hg235 (qS93 _ _ (qb89 _ _ hk82)) (by decide) (by decide)) (xv_m hg230 (qS93 _ _ (qb89 _ _ hk82)) (by decide) (by decide)))]; exact ld9) (by rw [(Eq.trans (xv_m hg235 (qS93 _ _ (qb89 _ _ hk73)) (by decide) (by decide)) (xv_m hg230 (qS93 _ _ (qb89 _ _ hk73)) (by decide) (by decide))), (Eq.trans (xv_m hg235 (qS93 _ _ (qb89 _ _ hs_b88)) (by decide) (by decide)) (xv_m hg230 (qS93 _ _ (qb89 _ _ hs_b88)) (by decide) (by decide)))]; exact sk9) (by rw [(Eq.trans (xv_m hg235 (qS93 _ _ (qb89 _ _ hs_b86)) (by decide) (by decide)) (xv_m hg230 (qS93 _ _ (qb89 _ _ hs_b86)) (by decide) (by decide))), (Eq.trans (xv_m hg235 (qS93 _ _ (qb89 _ _ hs_b87)) (by decide) (by decide)) (xv_m hg230 (qS93 _ _ (qb89 _ _ hs_b87)) (by decide) (by decide)))]; exact xTc.mono tc9 (by omega)) dc9 ds9 (by omega) (by omega) (by omega)
        · refine X_tableIn hK 532 8 (by decide) c98 (by decide) (by decide) dL_law_40 rfl (by decide) ?_
          refine X_aloadn hK (i := 1) 3 dL_law_532 rfl rfl ?_
          refine X_aloadn hK (i := 0) 4 dL_law_533 rfl rfl ?_
          refine X_iload hK (i := 4) 0 dL_law_534 rfl ?_
          refine X_iconst hK dL_law_536 ?_
          refine X_iadd hK dL_law_537 ?_
          refine X_scr hK hX hbl hbA hL (by omega) (by omega) dL_law_538 (fun z239 ez239 lz239 uz239 => ?_)
          refine X_aloadn hK (i := 0) 4 dL_law_539 rfl rfl ?_
          refine X_iload hK (i := 4) 0 dL_law_540 rfl ?_
          refine X_iconst hK dL_law_542 ?_
          refine X_iadd hK dL_law_543 ?_
          refine X_scr hK hX hbl hbA hL (by omega) (by omega) dL_law_544 (fun z240 ez240 lz240 uz240 => ?_)
          refine X_aloadn hK (i := 0) 4 dL_law_545 rfl rfl ?_
          refine X_iload hK (i := 4) 0 dL_law_546 rfl ?_
          refine X_iconst hK dL_law_548 ?_
          refine X_iadd hK dL_law_549 ?_
          refine X_scr hK hX hbl hbA hL (by omega) (by omega) dL_law_550 (fun z241 ez241 lz241 uz241 => ?_)
          refine X_callV hK [.int (iI z239), .int (iI z240), .int (iI z241)] [] lk_L_61 (c_X11_table _ _ _ _ _ S93 g94 b1 z239 z240 z241 b21 b23 b24 (qS93 _ _ (qb89 _ _ hk70)) (by omega) (by omega) (by omega) el49 (qS93 _ _ (qb89 _ _ hk72)) el69 (qS93 _ _ (qb89 _ _ hk74)) el79 (qS93 _ _ (qb89 _ _ hk75))) (qS93 _ _ (qb89 _ _ hk70)) ⟨by decide, rfl⟩ dL_law_551 rfl rfl (by simp [Value.category]) (by decide) (by omega) (by omega) (by decide) (fun r242 S244 g243 pr242 qr242 hg243 => ?_)
          obtain ⟨rfl, z245, rfl, lz245, uz245, k246, k247⟩ := pr242
          refine X_st [.int (iI z245)] rfl ?_
          refine X_pop hK dL_law_554 rfl ?_
          refine X_aloadn hK (i := 2) 2 dL_law_555 rfl rfl ?_
          refine X_aloadn hK (i := 0) 4 dL_law_556 rfl rfl ?_
          refine X_iload hK (i := 4) 0 dL_law_557 rfl ?_
          refine X_iconst hK dL_law_559 ?_
          refine X_iadd hK dL_law_560 ?_
          refine X_scrK hK hX hbl hbA hL (by omega) (by omega) ez239 dL_law_561 ?_
          refine X_aloadn hK (i := 0) 4 dL_law_562 rfl rfl ?_
          refine X_iload hK (i := 4) 0 dL_law_563 rfl ?_
          refine X_iconst hK dL_law_565 ?_
          refine X_iadd hK dL_law_566 ?_
          refine X_scrK hK hX hbl hbA hL (by omega) (by omega) ez240 dL_law_567 ?_
          refine X_aloadn hK (i := 0) 4 dL_law_568 rfl rfl ?_
          refine X_iload hK (i := 4) 0 dL_law_569 rfl ?_
          refine X_iconst hK dL_law_571 ?_
          refine X_iadd hK dL_law_572 ?_
          refine X_scrK hK hX hbl hbA hL (by omega) (by omega) ez241 dL_law_573 ?_
          refine X_callV hK [.int (iI z239), .int (iI z240), .int (iI z241)] [] lk_L_64 (c_X12_table _ _ _ _ _ S93 g243 b40 z239 z240 z241 b64 b65 (qS93 _ _ (qb89 _ _ hs_y68)) (by omega) (by omega) (by omega) ((hg243 b40 13 0 13 (qS93 _ _ (qb89 _ _ hs_y68)) (by decide)).trans el139) (qS93 _ _ (qb89 _ _ hk81)) ((hg243 b40 13 0 14 (qS93 _ _ (qb89 _ _ hs_y68)) (by decide)).trans el149) (qS93 _ _ (qb89 _ _ hk82))) (qS93 _ _ (qb89 _ _ hs_y68)) ⟨by decide, rfl⟩ dL_law_574 rfl rfl (by simp [Value.category]) (by decide) (by omega) (by omega) (by decide) (fun r248 S250 g249 pr248 qr248 hg249 => ?_)
          obtain ⟨rfl, z251, rfl, lz251, uz251, k252, k253⟩ := pr248
          refine X_st [.int (iI z251)] rfl ?_
          have tb254 := xTb.tc (by rw [(xv_m hg243 (qS93 _ _ (qb89 _ _ hk81)) (by decide) (by decide))]; exact wt9) (by rw [(xv_m hg243 (qS93 _ _ (qb89 _ _ hk82)) (by decide) (by decide))]; exact ld9) k247 k253 (by omega)
          refine X_pop hK dL_law_577 rfl ?_
          refine X_goto hK 1465 dL_law_578 (by decide) ?_
          refine X_iinc hK (i := 4) (z := i9) (n := 6) 0 [(4, .int (iI (i9 + 6))), (3, .ref b89), (2, .ref b40), (1, .ref b1), (0, .ref b)] dL_law_1465 rfl (by decide) rfl ?_
          refine X_goto hK 23 dL_law_1468 (by decide) ?_
          exact ih9 S93 qS93 g249 (i9 + 6) k9 t9 c9 b9 sh9 sp9 sm9 fa9 tn9 (by omega) (by omega) (by omega) (by omega) (by omega) (by omega) (by omega) (by omega) (by omega) (by omega) (xLs_mod (xLs_mod al9 hg243 (by decide)) hg249 (by decide)) si9 (xPi_m (xPi_m pi9 hg243 xLe.rf (by decide)) hg249 xLe.rf (by decide)) (xMp_m (xMp_m mp9 hg243 xLe.rf (by decide)) hg249 xLe.rf (by decide)) (xTw_m (xTw_m tw9 hg243 xLe.rf (by decide)) hg249 xLe.rf (by decide)) ((hg249 b1 12 0 0 (qS93 _ _ (qb89 _ _ hk70)) (by decide)).trans ((hg243 b1 12 0 0 (qS93 _ _ (qb89 _ _ hk70)) (by decide)).trans el09)) ((hg249 b1 12 0 3 (qS93 _ _ (qb89 _ _ hk70)) (by decide)).trans ((hg243 b1 12 0 3 (qS93 _ _ (qb89 _ _ hk70)) (by decide)).trans el19)) ((hg249 b1 12 0 1 (qS93 _ _ (qb89 _ _ hk70)) (by decide)).trans ((hg243 b1 12 0 1 (qS93 _ _ (qb89 _ _ hk70)) (by decide)).trans el29)) ((hg249 b38 6 0 1 (qS93 _ _ (qb89 _ _ hk79)) (by decide)).trans ((hg243 b38 6 0 1 (qS93 _ _ (qb89 _ _ hk79)) (by decide)).trans el39)) ((hg249 b1 12 0 2 (qS93 _ _ (qb89 _ _ hk70)) (by decide)).trans ((hg243 b1 12 0 2 (qS93 _ _ (qb89 _ _ hk70)) (by decide)).trans el49)) ((hg249 b21 4 0 0 (qS93 _ _ (qb89 _ _ hk72)) (by decide)).trans ((hg243 b21 4 0 0 (qS93 _ _ (qb89 _ _ hk72)) (by decide)).trans el59)) ((hg249 b21 4 0 2 (qS93 _ _ (qb89 _ _ hk72)) (by decide)).trans ((hg243 b21 4 0 2 (qS93 _ _ (qb89 _ _ hk72)) (by decide)).trans el69)) ((hg249 b21 4 0 3 (qS93 _ _ (qb89 _ _ hk72)) (by decide)).trans ((hg243 b21 4 0 3 (qS93 _ _ (qb89 _ _ hk72)) (by decide)).trans el79)) ((hg249 b21 4 0 4 (qS93 _ _ (qb89 _ _ hk72)) (by decide)).trans ((hg243 b21 4 0 4 (qS93 _ _ (qb89 _ _ hk72)) (by decide)).trans el89)) ((hg249 b1 12 0 4 (qS93 _ _ (qb89 _ _ hk70)) (by decide)).trans ((hg243 b1 12 0 4 (qS93 _ _ (qb89 _ _ hk70)) (by decide)).trans el99)) ((hg249 b36 10 0 0 (qS93 _ _ (qb89 _ _ hk77)) (by decide)).trans ((hg243 b36 10 0 0 (qS93 _ _ (qb89 _ _ hk77)) (by decide)).trans el109)) ((hg249 b40 13 0 1 (qS93 _ _ (qb89 _ _ hs_y68)) (by decide)).trans ((hg243 b40 13 0 1 (qS93 _ _ (qb89 _ _ hs_y68)) (by decide)).trans el119)) ((hg249 b40 13 0 10 (qS93 _ _ (qb89 _ _ hs_y68)) (by decide)).trans ((hg243 b40 13 0 10 (qS93 _ _ (qb89 _ _ hs_y68)) (by decide)).trans el129)) ((hg249 b40 13 0 13 (qS93 _ _ (qb89 _ _ hs_y68)) (by decide)).trans ((hg243 b40 13 0 13 (qS93 _ _ (qb89 _ _ hs_y68)) (by decide)).trans el139)) ((hg249 b40 13 0 14 (qS93 _ _ (qb89 _ _ hs_y68)) (by decide)).trans ((hg243 b40 13 0 14 (qS93 _ _ (qb89 _ _ hs_y68)) (by decide)).trans el149)) ((hg249 b40 13 0 12 (qS93 _ _ (qb89 _ _ hs_y68)) (by decide)).trans ((hg243 b40 13 0 12 (qS93 _ _ (qb89 _ _ hs_y68)) (by decide)).trans el159)) ((hg249 b36 10 0 1 (qS93 _ _ (qb89 _ _ hk77)) (by decide)).trans ((hg243 b36 10 0 1 (qS93 _ _ (qb89 _ _ hk77)) (by decide)).trans exk9)) ((hg249 b40 13 0 2 (qS93 _ _ (qb89 _ _ hs_y68)) (by decide)).trans ((hg243 b40 13 0 2 (qS93 _ _ (qb89 _ _ hs_y68)) (by decide)).trans emk9)) ((hg249 b1 12 0 12 (qS93 _ _ (qb89 _ _ hk70)) (by decide)).trans ((hg243 b1 12 0 12 (qS93 _ _ (qb89 _ _ hk70)) (by decide)).trans ext9)) ((hg249 b40 13 0 3 (qS93 _ _ (qb89 _ _ hs_y68)) (by decide)).trans ((hg243 b40 13 0 3 (qS93 _ _ (qb89 _ _ hs_y68)) (by decide)).trans emt9)) ((hg249 b37 5 0 3 (qS93 _ _ (qb89 _ _ hk78)) (by decide)).trans ((hg243 b37 5 0 3 (qS93 _ _ (qb89 _ _ hk78)) (by decide)).trans exc9)) ((hg249 b40 13 0 69 (qS93 _ _ (qb89 _ _ hs_y68)) (by decide)).trans ((hg243 b40 13 0 69 (qS93 _ _ (qb89 _ _ hs_y68)) (by decide)).trans emc9)) ((hg249 b39 0 0 2 (qS93 _ _ (qb89 _ _ hk80)) (by decide)).trans ((hg243 b39 0 0 2 (qS93 _ _ (qb89 _ _ hk80)) (by decide)).trans exb9)) ((hg249 b40 13 0 16 (qS93 _ _ (qb89 _ _ hs_y68)) (by decide)).trans ((hg243 b40 13 0 16 (qS93 _ _ (qb89 _ _ hs_y68)) (by decide)).trans emb9)) ((hg249 b1 12 0 16 (qS93 _ _ (qb89 _ _ hk70)) (by decide)).trans ((hg243 b1 12 0 16 (qS93 _ _ (qb89 _ _ hk70)) (by decide)).trans exsh9)) ((hg249 b40 13 0 89 (qS93 _ _ (qb89 _ _ hs_y68)) (by decide)).trans ((hg243 b40 13 0 89 (qS93 _ _ (qb89 _ _ hs_y68)) (by decide)).trans emsh9)) ((hg249 b1 12 0 17 (qS93 _ _ (qb89 _ _ hk70)) (by decide)).trans ((hg243 b1 12 0 17 (qS93 _ _ (qb89 _ _ hk70)) (by decide)).trans exsp9)) ((hg249 b40 13 0 90 (qS93 _ _ (qb89 _ _ hs_y68)) (by decide)).trans ((hg243 b40 13 0 90 (qS93 _ _ (qb89 _ _ hs_y68)) (by decide)).trans emsp9)) ((hg249 b40 13 0 17 (qS93 _ _ (qb89 _ _ hs_y68)) (by decide)).trans ((hg243 b40 13 0 17 (qS93 _ _ (qb89 _ _ hs_y68)) (by decide)).trans emsm9)) ((hg249 b1 12 0 13 (qS93 _ _ (qb89 _ _ hk70)) (by decide)).trans ((hg243 b1 12 0 13 (qS93 _ _ (qb89 _ _ hk70)) (by decide)).trans exfa9)) ((hg249 b40 13 0 25 (qS93 _ _ (qb89 _ _ hs_y68)) (by decide)).trans ((hg243 b40 13 0 25 (qS93 _ _ (qb89 _ _ hs_y68)) (by decide)).trans emfa9)) ((hg249 b20 300 0 2 (qS93 _ _ (qb89 _ _ hk71)) (by decide)).trans ((hg243 b20 300 0 2 (qS93 _ _ (qb89 _ _ hk71)) (by decide)).trans extn9)) ((hg249 b40 13 0 39 (qS93 _ _ (qb89 _ _ hs_y68)) (by decide)).trans ((hg243 b40 13 0 39 (qS93 _ _ (qb89 _ _ hs_y68)) (by decide)).trans emtn9)) (xWn.m (xWn.m wn9 (qS93 _ _ (qb89 _ _ hk76)) (qS93 _ _ (qb89 _ _ hk83)) hg243 xLe.rf (by decide)) (qS93 _ _ (qb89 _ _ hk76)) (qS93 _ _ (qb89 _ _ hk83)) hg249 xLe.rf (by decide)) (by rw [(xv_m hg249 (qS93 _ _ (qb89 _ _ hk74)) (by decide) (by decide))]; exact tb254.1) (by rw [(xv_m hg249 (qS93 _ _ (qb89 _ _ hk75)) (by decide) (by decide))]; exact tb254.2) (by rw [(Eq.trans (xv_m hg249 (qS93 _ _ (qb89 _ _ hk73)) (by decide) (by decide)) (xv_m hg243 (qS93 _ _ (qb89 _ _ hk73)) (by decide) (by decide))), (Eq.trans (xv_m hg249 (qS93 _ _ (qb89 _ _ hs_b88)) (by decide) (by decide)) (xv_m hg243 (qS93 _ _ (qb89 _ _ hs_b88)) (by decide) (by decide)))]; exact sk9) (by rw [(Eq.trans (xv_m hg249 (qS93 _ _ (qb89 _ _ hs_b86)) (by decide) (by decide)) (xv_m hg243 (qS93 _ _ (qb89 _ _ hs_b86)) (by decide) (by decide))), (Eq.trans (xv_m hg249 (qS93 _ _ (qb89 _ _ hs_b87)) (by decide) (by decide)) (xv_m hg243 (qS93 _ _ (qb89 _ _ hs_b87)) (by decide) (by decide)))]; exact xTc.mono tc9 (by omega)) dc9 ds9 (by omega) (by omega) (by omega)
        · refine X_tableIn hK 581 9 (by decide) c98 (by decide) (by decide) dL_law_40 rfl (by decide) ?_
          refine X_aloadn hK (i := 1) 3 dL_law_581 rfl rfl ?_
          refine X_aloadn hK (i := 0) 4 dL_law_582 rfl rfl ?_
          refine X_iload hK (i := 4) 0 dL_law_583 rfl ?_
          refine X_iconst hK dL_law_585 ?_
          refine X_iadd hK dL_law_586 ?_
          refine X_scr hK hX hbl hbA hL (by omega) (by omega) dL_law_587 (fun z255 ez255 lz255 uz255 => ?_)
          refine X_aloadn hK (i := 0) 4 dL_law_588 rfl rfl ?_
          refine X_iload hK (i := 4) 0 dL_law_589 rfl ?_
          refine X_iconst hK dL_law_591 ?_
          refine X_iadd hK dL_law_592 ?_
          refine X_scr hK hX hbl hbA hL (by omega) (by omega) dL_law_593 (fun z256 ez256 lz256 uz256 => ?_)
          refine X_aloadn hK (i := 0) 4 dL_law_594 rfl rfl ?_
          refine X_iload hK (i := 4) 0 dL_law_595 rfl ?_
          refine X_iconst hK dL_law_597 ?_
          refine X_iadd hK dL_law_598 ?_
          refine X_scr hK hX hbl hbA hL (by omega) (by omega) dL_law_599 (fun z257 ez257 lz257 uz257 => ?_)
          refine X_callV hK [.int (iI z255), .int (iI z256), .int (iI z257)] [] lk_L_65 (c_X11_want _ _ _ _ _ S93 g94 b1 z255 z256 z257 b21 b25 (qS93 _ _ (qb89 _ _ hk70)) (by omega) (by omega) (by omega) el49 (qS93 _ _ (qb89 _ _ hk72)) el89 (qS93 _ _ (qb89 _ _ hk76))) (qS93 _ _ (qb89 _ _ hk70)) ⟨by decide, rfl⟩ dL_law_600 rfl rfl (by simp [Value.category]) (by decide) (by omega) (by omega) (by decide) (fun r258 S260 g259 pr258 qr258 hg259 => ?_)
          obtain ⟨rfl, z261, rfl, lz261, uz261, k262, k263⟩ := pr258
          refine X_st [.int (iI z261)] rfl ?_
          refine X_pop hK dL_law_603 rfl ?_
          refine X_aloadn hK (i := 2) 2 dL_law_604 rfl rfl ?_
          refine X_aloadn hK (i := 0) 4 dL_law_605 rfl rfl ?_
          refine X_iload hK (i := 4) 0 dL_law_606 rfl ?_
          refine X_iconst hK dL_law_608 ?_
          refine X_iadd hK dL_law_609 ?_
          refine X_scrK hK hX hbl hbA hL (by omega) (by omega) ez255 dL_law_610 ?_
          refine X_aloadn hK (i := 0) 4 dL_law_611 rfl rfl ?_
          refine X_iload hK (i := 4) 0 dL_law_612 rfl ?_
          refine X_iconst hK dL_law_614 ?_
          refine X_iadd hK dL_law_615 ?_
          refine X_scrK hK hX hbl hbA hL (by omega) (by omega) ez256 dL_law_616 ?_
          refine X_aloadn hK (i := 0) 4 dL_law_617 rfl rfl ?_
          refine X_iload hK (i := 4) 0 dL_law_618 rfl ?_
          refine X_iconst hK dL_law_620 ?_
          refine X_iadd hK dL_law_621 ?_
          refine X_scrK hK hX hbl hbA hL (by omega) (by omega) ez257 dL_law_622 ?_
          refine X_callV hK [.int (iI z255), .int (iI z256), .int (iI z257)] [] lk_L_68 (c_X12_want _ _ _ _ _ S93 g259 b40 z255 z256 z257 b66 (qS93 _ _ (qb89 _ _ hs_y68)) (by omega) (by omega) (by omega) ((hg259 b40 13 0 12 (qS93 _ _ (qb89 _ _ hs_y68)) (by decide)).trans el159) (qS93 _ _ (qb89 _ _ hk83))) (qS93 _ _ (qb89 _ _ hs_y68)) ⟨by decide, rfl⟩ dL_law_623 rfl rfl (by simp [Value.category]) (by decide) (by omega) (by omega) (by decide) (fun r264 S266 g265 pr264 qr264 hg265 => ?_)
          obtain ⟨rfl, z267, rfl, lz267, uz267, k268, k269⟩ := pr264
          refine X_st [.int (iI z267)] rfl ?_
          have wn270 : xWn S93 g265 b25 b66 := by
            by_cases h9 : z261 = 1
            · obtain ⟨w9, a1, a2, a3⟩ := k263.1 h9
              have hb9 := k262.mp h9
              exact xWn.up wn9 (by omega) (by omega) a1 a2 a3 (fun k9 => ((hg265 _ _ _ _ (qS93 _ _ (qb89 _ _ hk76)) (by rw [xky_a (by decide)]; decide)).trans (hg259 _ _ _ _ (qS93 _ _ (qb89 _ _ hk76)) (by rw [xky_a (by decide)]; decide)))) (fun r9 n9 h9 => xv_m hg265 h9 (by decide) (by decide)) (by rw [← (xv_m hg259 (qS93 _ _ (qb89 _ _ hk83)) (by decide) (by decide))]; exact k269.1 (by omega))
            · exact xWn.same wn9 (fun k9 => ((hg265 _ _ _ _ (qS93 _ _ (qb89 _ _ hk76)) (by rw [xky_a (by decide)]; decide)).trans (hg259 _ _ _ _ (qS93 _ _ (qb89 _ _ hk76)) (by rw [xky_a (by decide)]; decide)))) (fun r9 n9 h8 => (xv_m hg265 h8 (by decide) (by decide)).trans (k263.2 h9 r9 n9 h8)) ((k269.2 (by omega)).trans (xv_m hg259 (qS93 _ _ (qb89 _ _ hk83)) (by decide) (by decide)))
          refine X_pop hK dL_law_626 rfl ?_
          refine X_goto hK 1465 dL_law_627 (by decide) ?_
          refine X_iinc hK (i := 4) (z := i9) (n := 6) 0 [(4, .int (iI (i9 + 6))), (3, .ref b89), (2, .ref b40), (1, .ref b1), (0, .ref b)] dL_law_1465 rfl (by decide) rfl ?_
          refine X_goto hK 23 dL_law_1468 (by decide) ?_
          exact ih9 S93 qS93 g265 (i9 + 6) k9 t9 c9 b9 sh9 sp9 sm9 fa9 tn9 (by omega) (by omega) (by omega) (by omega) (by omega) (by omega) (by omega) (by omega) (by omega) (by omega) (xLs_mod (xLs_mod al9 hg259 (by decide)) hg265 (by decide)) si9 (xPi_m (xPi_m pi9 hg259 xLe.rf (by decide)) hg265 xLe.rf (by decide)) (xMp_m (xMp_m mp9 hg259 xLe.rf (by decide)) hg265 xLe.rf (by decide)) (xTw_m (xTw_m tw9 hg259 xLe.rf (by decide)) hg265 xLe.rf (by decide)) ((hg265 b1 12 0 0 (qS93 _ _ (qb89 _ _ hk70)) (by decide)).trans ((hg259 b1 12 0 0 (qS93 _ _ (qb89 _ _ hk70)) (by decide)).trans el09)) ((hg265 b1 12 0 3 (qS93 _ _ (qb89 _ _ hk70)) (by decide)).trans ((hg259 b1 12 0 3 (qS93 _ _ (qb89 _ _ hk70)) (by decide)).trans el19)) ((hg265 b1 12 0 1 (qS93 _ _ (qb89 _ _ hk70)) (by decide)).trans ((hg259 b1 12 0 1 (qS93 _ _ (qb89 _ _ hk70)) (by decide)).trans el29)) ((hg265 b38 6 0 1 (qS93 _ _ (qb89 _ _ hk79)) (by decide)).trans ((hg259 b38 6 0 1 (qS93 _ _ (qb89 _ _ hk79)) (by decide)).trans el39)) ((hg265 b1 12 0 2 (qS93 _ _ (qb89 _ _ hk70)) (by decide)).trans ((hg259 b1 12 0 2 (qS93 _ _ (qb89 _ _ hk70)) (by decide)).trans el49)) ((hg265 b21 4 0 0 (qS93 _ _ (qb89 _ _ hk72)) (by decide)).trans ((hg259 b21 4 0 0 (qS93 _ _ (qb89 _ _ hk72)) (by decide)).trans el59)) ((hg265 b21 4 0 2 (qS93 _ _ (qb89 _ _ hk72)) (by decide)).trans ((hg259 b21 4 0 2 (qS93 _ _ (qb89 _ _ hk72)) (by decide)).trans el69)) ((hg265 b21 4 0 3 (qS93 _ _ (qb89 _ _ hk72)) (by decide)).trans ((hg259 b21 4 0 3 (qS93 _ _ (qb89 _ _ hk72)) (by decide)).trans el79)) ((hg265 b21 4 0 4 (qS93 _ _ (qb89 _ _ hk72)) (by decide)).trans ((hg259 b21 4 0 4 (qS93 _ _ (qb89 _ _ hk72)) (by decide)).trans el89)) ((hg265 b1 12 0 4 (qS93 _ _ (qb89 _ _ hk70)) (by decide)).trans ((hg259 b1 12 0 4 (qS93 _ _ (qb89 _ _ hk70)) (by decide)).trans el99)) ((hg265 b36 10 0 0 (qS93 _ _ (qb89 _ _ hk77)) (by decide)).trans ((hg259 b36 10 0 0 (qS93 _ _ (qb89 _ _ hk77)) (by decide)).trans el109)) ((hg265 b40 13 0 1 (qS93 _ _ (qb89 _ _ hs_y68)) (by decide)).trans ((hg259 b40 13 0 1 (qS93 _ _ (qb89 _ _ hs_y68)) (by decide)).trans el119)) ((hg265 b40 13 0 10 (qS93 _ _ (qb89 _ _ hs_y68)) (by decide)).trans ((hg259 b40 13 0 10 (qS93 _ _ (qb89 _ _ hs_y68)) (by decide)).trans el129)) ((hg265 b40 13 0 13 (qS93 _ _ (qb89 _ _ hs_y68)) (by decide)).trans ((hg259 b40 13 0 13 (qS93 _ _ (qb89 _ _ hs_y68)) (by decide)).trans el139)) ((hg265 b40 13 0 14 (qS93 _ _ (qb89 _ _ hs_y68)) (by decide)).trans ((hg259 b40 13 0 14 (qS93 _ _ (qb89 _ _ hs_y68)) (by decide)).trans el149)) ((hg265 b40 13 0 12 (qS93 _ _ (qb89 _ _ hs_y68)) (by decide)).trans ((hg259 b40 13 0 12 (qS93 _ _ (qb89 _ _ hs_y68)) (by decide)).trans el159)) ((hg265 b36 10 0 1 (qS93 _ _ (qb89 _ _ hk77)) (by decide)).trans ((hg259 b36 10 0 1 (qS93 _ _ (qb89 _ _ hk77)) (by decide)).trans exk9)) ((hg265 b40 13 0 2 (qS93 _ _ (qb89 _ _ hs_y68)) (by decide)).trans ((hg259 b40 13 0 2 (qS93 _ _ (qb89 _ _ hs_y68)) (by decide)).trans emk9)) ((hg265 b1 12 0 12 (qS93 _ _ (qb89 _ _ hk70)) (by decide)).trans ((hg259 b1 12 0 12 (qS93 _ _ (qb89 _ _ hk70)) (by decide)).trans ext9)) ((hg265 b40 13 0 3 (qS93 _ _ (qb89 _ _ hs_y68)) (by decide)).trans ((hg259 b40 13 0 3 (qS93 _ _ (qb89 _ _ hs_y68)) (by decide)).trans emt9)) ((hg265 b37 5 0 3 (qS93 _ _ (qb89 _ _ hk78)) (by decide)).trans ((hg259 b37 5 0 3 (qS93 _ _ (qb89 _ _ hk78)) (by decide)).trans exc9)) ((hg265 b40 13 0 69 (qS93 _ _ (qb89 _ _ hs_y68)) (by decide)).trans ((hg259 b40 13 0 69 (qS93 _ _ (qb89 _ _ hs_y68)) (by decide)).trans emc9)) ((hg265 b39 0 0 2 (qS93 _ _ (qb89 _ _ hk80)) (by decide)).trans ((hg259 b39 0 0 2 (qS93 _ _ (qb89 _ _ hk80)) (by decide)).trans exb9)) ((hg265 b40 13 0 16 (qS93 _ _ (qb89 _ _ hs_y68)) (by decide)).trans ((hg259 b40 13 0 16 (qS93 _ _ (qb89 _ _ hs_y68)) (by decide)).trans emb9)) ((hg265 b1 12 0 16 (qS93 _ _ (qb89 _ _ hk70)) (by decide)).trans ((hg259 b1 12 0 16 (qS93 _ _ (qb89 _ _ hk70)) (by decide)).trans exsh9)) ((hg265 b40 13 0 89 (qS93 _ _ (qb89 _ _ hs_y68)) (by decide)).trans ((hg259 b40 13 0 89 (qS93 _ _ (qb89 _ _ hs_y68)) (by decide)).trans emsh9)) ((hg265 b1 12 0 17 (qS93 _ _ (qb89 _ _ hk70)) (by decide)).trans ((hg259 b1 12 0 17 (qS93 _ _ (qb89 _ _ hk70)) (by decide)).trans exsp9)) ((hg265 b40 13 0 90 (qS93 _ _ (qb89 _ _ hs_y68)) (by decide)).trans ((hg259 b40 13 0 90 (qS93 _ _ (qb89 _ _ hs_y68)) (by decide)).trans emsp9)) ((hg265 b40 13 0 17 (qS93 _ _ (qb89 _ _ hs_y68)) (by decide)).trans ((hg259 b40 13 0 17 (qS93 _ _ (qb89 _ _ hs_y68)) (by decide)).trans emsm9)) ((hg265 b1 12 0 13 (qS93 _ _ (qb89 _ _ hk70)) (by decide)).trans ((hg259 b1 12 0 13 (qS93 _ _ (qb89 _ _ hk70)) (by decide)).trans exfa9)) ((hg265 b40 13 0 25 (qS93 _ _ (qb89 _ _ hs_y68)) (by decide)).trans ((hg259 b40 13 0 25 (qS93 _ _ (qb89 _ _ hs_y68)) (by decide)).trans emfa9)) ((hg265 b20 300 0 2 (qS93 _ _ (qb89 _ _ hk71)) (by decide)).trans ((hg259 b20 300 0 2 (qS93 _ _ (qb89 _ _ hk71)) (by decide)).trans extn9)) ((hg265 b40 13 0 39 (qS93 _ _ (qb89 _ _ hs_y68)) (by decide)).trans ((hg259 b40 13 0 39 (qS93 _ _ (qb89 _ _ hs_y68)) (by decide)).trans emtn9)) wn270 (by rw [(Eq.trans (xv_m hg265 (qS93 _ _ (qb89 _ _ hk74)) (by decide) (by decide)) (xv_m hg259 (qS93 _ _ (qb89 _ _ hk74)) (by decide) (by decide))), (Eq.trans (xv_m hg265 (qS93 _ _ (qb89 _ _ hk81)) (by decide) (by decide)) (xv_m hg259 (qS93 _ _ (qb89 _ _ hk81)) (by decide) (by decide)))]; exact wt9) (by rw [(Eq.trans (xv_m hg265 (qS93 _ _ (qb89 _ _ hk75)) (by decide) (by decide)) (xv_m hg259 (qS93 _ _ (qb89 _ _ hk75)) (by decide) (by decide))), (Eq.trans (xv_m hg265 (qS93 _ _ (qb89 _ _ hk82)) (by decide) (by decide)) (xv_m hg259 (qS93 _ _ (qb89 _ _ hk82)) (by decide) (by decide)))]; exact ld9) (by rw [(Eq.trans (xv_m hg265 (qS93 _ _ (qb89 _ _ hk73)) (by decide) (by decide)) (xv_m hg259 (qS93 _ _ (qb89 _ _ hk73)) (by decide) (by decide))), (Eq.trans (xv_m hg265 (qS93 _ _ (qb89 _ _ hs_b88)) (by decide) (by decide)) (xv_m hg259 (qS93 _ _ (qb89 _ _ hs_b88)) (by decide) (by decide)))]; exact sk9) (by rw [(Eq.trans (xv_m hg265 (qS93 _ _ (qb89 _ _ hs_b86)) (by decide) (by decide)) (xv_m hg259 (qS93 _ _ (qb89 _ _ hs_b86)) (by decide) (by decide))), (Eq.trans (xv_m hg265 (qS93 _ _ (qb89 _ _ hs_b87)) (by decide) (by decide)) (xv_m hg259 (qS93 _ _ (qb89 _ _ hs_b87)) (by decide) (by decide)))]; exact xTc.mono tc9 (by omega)) dc9 ds9 (by omega) (by omega) (by omega)
        · refine X_tableIn hK 630 10 (by decide) c98 (by decide) (by decide) dL_law_40 rfl (by decide) ?_
          refine X_aloadn hK (i := 1) 3 dL_law_630 rfl rfl ?_
          refine X_aloadn hK (i := 0) 4 dL_law_631 rfl rfl ?_
          refine X_iload hK (i := 4) 0 dL_law_632 rfl ?_
          refine X_iconst hK dL_law_634 ?_
          refine X_iadd hK dL_law_635 ?_
          refine X_scr hK hX hbl hbA hL (by omega) (by omega) dL_law_636 (fun z271 ez271 lz271 uz271 => ?_)
          refine X_aloadn hK (i := 0) 4 dL_law_637 rfl rfl ?_
          refine X_iload hK (i := 4) 0 dL_law_638 rfl ?_
          refine X_iconst hK dL_law_640 ?_
          refine X_iadd hK dL_law_641 ?_
          refine X_scr hK hX hbl hbA hL (by omega) (by omega) dL_law_642 (fun z272 ez272 lz272 uz272 => ?_)
          refine X_aloadn hK (i := 0) 4 dL_law_643 rfl rfl ?_
          refine X_iload hK (i := 4) 0 dL_law_644 rfl ?_
          refine X_iconst hK dL_law_646 ?_
          refine X_iadd hK dL_law_647 ?_
          refine X_scr hK hX hbl hbA hL (by omega) (by omega) dL_law_648 (fun z273 ez273 lz273 uz273 => ?_)
          refine X_aloadn hK (i := 0) 4 dL_law_649 rfl rfl ?_
          refine X_iload hK (i := 4) 0 dL_law_650 rfl ?_
          refine X_iconst hK dL_law_652 ?_
          refine X_iadd hK dL_law_653 ?_
          refine X_scr hK hX hbl hbA hL (by omega) (by omega) dL_law_654 (fun z274 ez274 lz274 uz274 => ?_)
          refine X_callV hK [.int (iI z271), .int (iI z272), .int (iI z273), .int (iI z274)] [] lk_L_69 (c_X11_asked _ _ _ _ _ S93 g94 b1 z271 z272 z273 z274 b21 b25 b23 b24 (qS93 _ _ (qb89 _ _ hk70)) (by omega) (by omega) (by omega) (by omega) el49 (qS93 _ _ (qb89 _ _ hk72)) el89 (qS93 _ _ (qb89 _ _ hk76)) el69 (qS93 _ _ (qb89 _ _ hk74)) el79 (qS93 _ _ (qb89 _ _ hk75))) (qS93 _ _ (qb89 _ _ hk70)) ⟨by decide, rfl⟩ dL_law_655 rfl rfl (by simp [Value.category]) (by decide) (by omega) (by omega) (by decide) (fun r275 S277 g276 pr275 qr275 hg276 => ?_)
          obtain ⟨rfl, rfl, z278, rfl, lz278, uz278, k279⟩ := pr275
          refine X_st [.int (iI z278)] rfl ?_
          refine X_pop hK dL_law_658 rfl ?_
          refine X_aloadn hK (i := 2) 2 dL_law_659 rfl rfl ?_
          refine X_aloadn hK (i := 0) 4 dL_law_660 rfl rfl ?_
          refine X_iload hK (i := 4) 0 dL_law_661 rfl ?_
          refine X_iconst hK dL_law_663 ?_
          refine X_iadd hK dL_law_664 ?_
          refine X_scrK hK hX hbl hbA hL (by omega) (by omega) ez271 dL_law_665 ?_
          refine X_aloadn hK (i := 0) 4 dL_law_666 rfl rfl ?_
          refine X_iload hK (i := 4) 0 dL_law_667 rfl ?_
          refine X_iconst hK dL_law_669 ?_
          refine X_iadd hK dL_law_670 ?_
          refine X_scrK hK hX hbl hbA hL (by omega) (by omega) ez272 dL_law_671 ?_
          refine X_aloadn hK (i := 0) 4 dL_law_672 rfl rfl ?_
          refine X_iload hK (i := 4) 0 dL_law_673 rfl ?_
          refine X_iconst hK dL_law_675 ?_
          refine X_iadd hK dL_law_676 ?_
          refine X_scrK hK hX hbl hbA hL (by omega) (by omega) ez273 dL_law_677 ?_
          refine X_aloadn hK (i := 0) 4 dL_law_678 rfl rfl ?_
          refine X_iload hK (i := 4) 0 dL_law_679 rfl ?_
          refine X_iconst hK dL_law_681 ?_
          refine X_iadd hK dL_law_682 ?_
          refine X_scrK hK hX hbl hbA hL (by omega) (by omega) ez274 dL_law_683 ?_
          refine X_callV hK [.int (iI z271), .int (iI z272), .int (iI z273), .int (iI z274)] [] lk_L_73 (c_X12_asked _ _ _ _ _ S93 g94 b40 z271 z272 z273 z274 b66 b64 b65 (qS93 _ _ (qb89 _ _ hs_y68)) (by omega) (by omega) (by omega) (by omega) el159 (qS93 _ _ (qb89 _ _ hk83)) el139 (qS93 _ _ (qb89 _ _ hk81)) el149 (qS93 _ _ (qb89 _ _ hk82))) (qS93 _ _ (qb89 _ _ hs_y68)) ⟨by decide, rfl⟩ dL_law_684 rfl rfl (by simp [Value.category]) (by decide) (by omega) (by omega) (by decide) (fun r280 S282 g281 pr280 qr280 hg281 => ?_)
          obtain ⟨rfl, z283, rfl, lz283, uz283, k284⟩ := pr280
          refine X_st [.int (iI z283)] rfl ?_
          refine X_pop hK dL_law_687 rfl ?_
          refine X_goto hK 1465 dL_law_688 (by decide) ?_
          refine X_iinc hK (i := 4) (z := i9) (n := 6) 0 [(4, .int (iI (i9 + 6))), (3, .ref b89), (2, .ref b40), (1, .ref b1), (0, .ref b)] dL_law_1465 rfl (by decide) rfl ?_
          refine X_goto hK 23 dL_law_1468 (by decide) ?_
          exact ih9 S93 qS93 g281 (i9 + 6) k9 t9 c9 b9 sh9 sp9 sm9 fa9 tn9 (by omega) (by omega) (by omega) (by omega) (by omega) (by omega) (by omega) (by omega) (by omega) (by omega) (xLs_mod al9 hg281 (by decide)) si9 (xPi_m pi9 hg281 xLe.rf (by decide)) (xMp_m mp9 hg281 xLe.rf (by decide)) (xTw_m tw9 hg281 xLe.rf (by decide)) ((hg281 b1 12 0 0 (qS93 _ _ (qb89 _ _ hk70)) (by decide)).trans el09) ((hg281 b1 12 0 3 (qS93 _ _ (qb89 _ _ hk70)) (by decide)).trans el19) ((hg281 b1 12 0 1 (qS93 _ _ (qb89 _ _ hk70)) (by decide)).trans el29) ((hg281 b38 6 0 1 (qS93 _ _ (qb89 _ _ hk79)) (by decide)).trans el39) ((hg281 b1 12 0 2 (qS93 _ _ (qb89 _ _ hk70)) (by decide)).trans el49) ((hg281 b21 4 0 0 (qS93 _ _ (qb89 _ _ hk72)) (by decide)).trans el59) ((hg281 b21 4 0 2 (qS93 _ _ (qb89 _ _ hk72)) (by decide)).trans el69) ((hg281 b21 4 0 3 (qS93 _ _ (qb89 _ _ hk72)) (by decide)).trans el79) ((hg281 b21 4 0 4 (qS93 _ _ (qb89 _ _ hk72)) (by decide)).trans el89) ((hg281 b1 12 0 4 (qS93 _ _ (qb89 _ _ hk70)) (by decide)).trans el99) ((hg281 b36 10 0 0 (qS93 _ _ (qb89 _ _ hk77)) (by decide)).trans el109) ((hg281 b40 13 0 1 (qS93 _ _ (qb89 _ _ hs_y68)) (by decide)).trans el119) ((hg281 b40 13 0 10 (qS93 _ _ (qb89 _ _ hs_y68)) (by decide)).trans el129) ((hg281 b40 13 0 13 (qS93 _ _ (qb89 _ _ hs_y68)) (by decide)).trans el139) ((hg281 b40 13 0 14 (qS93 _ _ (qb89 _ _ hs_y68)) (by decide)).trans el149) ((hg281 b40 13 0 12 (qS93 _ _ (qb89 _ _ hs_y68)) (by decide)).trans el159) ((hg281 b36 10 0 1 (qS93 _ _ (qb89 _ _ hk77)) (by decide)).trans exk9) ((hg281 b40 13 0 2 (qS93 _ _ (qb89 _ _ hs_y68)) (by decide)).trans emk9) ((hg281 b1 12 0 12 (qS93 _ _ (qb89 _ _ hk70)) (by decide)).trans ext9) ((hg281 b40 13 0 3 (qS93 _ _ (qb89 _ _ hs_y68)) (by decide)).trans emt9) ((hg281 b37 5 0 3 (qS93 _ _ (qb89 _ _ hk78)) (by decide)).trans exc9) ((hg281 b40 13 0 69 (qS93 _ _ (qb89 _ _ hs_y68)) (by decide)).trans emc9) ((hg281 b39 0 0 2 (qS93 _ _ (qb89 _ _ hk80)) (by decide)).trans exb9) ((hg281 b40 13 0 16 (qS93 _ _ (qb89 _ _ hs_y68)) (by decide)).trans emb9) ((hg281 b1 12 0 16 (qS93 _ _ (qb89 _ _ hk70)) (by decide)).trans exsh9) ((hg281 b40 13 0 89 (qS93 _ _ (qb89 _ _ hs_y68)) (by decide)).trans emsh9) ((hg281 b1 12 0 17 (qS93 _ _ (qb89 _ _ hk70)) (by decide)).trans exsp9) ((hg281 b40 13 0 90 (qS93 _ _ (qb89 _ _ hs_y68)) (by decide)).trans emsp9) ((hg281 b40 13 0 17 (qS93 _ _ (qb89 _ _ hs_y68)) (by decide)).trans emsm9) ((hg281 b1 12 0 13 (qS93 _ _ (qb89 _ _ hk70)) (by decide)).trans exfa9) ((hg281 b40 13 0 25 (qS93 _ _ (qb89 _ _ hs_y68)) (by decide)).trans emfa9) ((hg281 b20 300 0 2 (qS93 _ _ (qb89 _ _ hk71)) (by decide)).trans extn9) ((hg281 b40 13 0 39 (qS93 _ _ (qb89 _ _ hs_y68)) (by decide)).trans emtn9) (xWn.m wn9 (qS93 _ _ (qb89 _ _ hk76)) (qS93 _ _ (qb89 _ _ hk83)) hg281 xLe.rf (by decide)) (by rw [(xv_m hg281 (qS93 _ _ (qb89 _ _ hk74)) (by decide) (by decide)), (xv_m hg281 (qS93 _ _ (qb89 _ _ hk81)) (by decide) (by decide))]; exact wt9) (by rw [(xv_m hg281 (qS93 _ _ (qb89 _ _ hk75)) (by decide) (by decide)), (xv_m hg281 (qS93 _ _ (qb89 _ _ hk82)) (by decide) (by decide))]; exact ld9) (by rw [(xv_m hg281 (qS93 _ _ (qb89 _ _ hk73)) (by decide) (by decide)), (xv_m hg281 (qS93 _ _ (qb89 _ _ hs_b88)) (by decide) (by decide))]; exact sk9) (by rw [(xv_m hg281 (qS93 _ _ (qb89 _ _ hs_b86)) (by decide) (by decide)), (xv_m hg281 (qS93 _ _ (qb89 _ _ hs_b87)) (by decide) (by decide))]; exact xTc.mono tc9 (by omega)) dc9 ds9 (by omega) (by omega) (by omega)
        · refine X_tableIn hK 691 11 (by decide) c98 (by decide) (by decide) dL_law_40 rfl (by decide) ?_
          refine X_aloadn hK (i := 1) 3 dL_law_691 rfl rfl ?_
          refine X_aloadn hK (i := 0) 4 dL_law_692 rfl rfl ?_
          refine X_iload hK (i := 4) 0 dL_law_693 rfl ?_
          refine X_iconst hK dL_law_695 ?_
          refine X_iadd hK dL_law_696 ?_
          refine X_scr hK hX hbl hbA hL (by omega) (by omega) dL_law_697 (fun z285 ez285 lz285 uz285 => ?_)
          refine X_aloadn hK (i := 0) 4 dL_law_698 rfl rfl ?_
          refine X_iload hK (i := 4) 0 dL_law_699 rfl ?_
          refine X_iconst hK dL_law_701 ?_
          refine X_iadd hK dL_law_702 ?_
          refine X_scr hK hX hbl hbA hL (by omega) (by omega) dL_law_703 (fun z286 ez286 lz286 uz286 => ?_)
          refine X_aloadn hK (i := 0) 4 dL_law_704 rfl rfl ?_
          refine X_iload hK (i := 4) 0 dL_law_705 rfl ?_
          refine X_iconst hK dL_law_707 ?_
          refine X_iadd hK dL_law_708 ?_
          refine X_scr hK hX hbl hbA hL (by omega) (by omega) dL_law_709 (fun z287 ez287 lz287 uz287 => ?_)
          refine X_callV hK [.int (iI z285), .int (iI z286), .int (iI z287)] [] lk_L_74 (c_X11_minutes _ _ _ _ _ S93 g94 b1 z285 z286 z287 (qS93 _ _ (qb89 _ _ hk70)) (by omega) (by omega) (by omega)) (qS93 _ _ (qb89 _ _ hk70)) ⟨by decide, rfl⟩ dL_law_710 rfl rfl (by simp [Value.category]) (by decide) (by omega) (by omega) (by decide) (fun r288 S290 g289 pr288 qr288 hg289 => ?_)
          obtain ⟨rfl, z291, rfl, lz291, uz291, k292⟩ := pr288
          refine X_st [.int (iI z291)] rfl ?_
          refine X_pop hK dL_law_713 rfl ?_
          refine X_aloadn hK (i := 2) 2 dL_law_714 rfl rfl ?_
          refine X_aloadn hK (i := 0) 4 dL_law_715 rfl rfl ?_
          refine X_iload hK (i := 4) 0 dL_law_716 rfl ?_
          refine X_iconst hK dL_law_718 ?_
          refine X_iadd hK dL_law_719 ?_
          refine X_scrK hK hX hbl hbA hL (by omega) (by omega) ez285 dL_law_720 ?_
          refine X_aloadn hK (i := 0) 4 dL_law_721 rfl rfl ?_
          refine X_iload hK (i := 4) 0 dL_law_722 rfl ?_
          refine X_iconst hK dL_law_724 ?_
          refine X_iadd hK dL_law_725 ?_
          refine X_scrK hK hX hbl hbA hL (by omega) (by omega) ez286 dL_law_726 ?_
          refine X_aloadn hK (i := 0) 4 dL_law_727 rfl rfl ?_
          refine X_iload hK (i := 4) 0 dL_law_728 rfl ?_
          refine X_iconst hK dL_law_730 ?_
          refine X_iadd hK dL_law_731 ?_
          refine X_scrK hK hX hbl hbA hL (by omega) (by omega) ez287 dL_law_732 ?_
          refine X_callV hK [.int (iI z285), .int (iI z286), .int (iI z287)] [] lk_L_77 (c_X12_minutes _ _ _ _ _ S93 g289 b40 z285 z286 z287 (qS93 _ _ (qb89 _ _ hs_y68)) (by omega) (by omega) (by omega)) (qS93 _ _ (qb89 _ _ hs_y68)) ⟨by decide, rfl⟩ dL_law_733 rfl rfl (by simp [Value.category]) (by decide) (by omega) (by omega) (by decide) (fun r293 S295 g294 pr293 qr293 hg294 => ?_)
          obtain ⟨rfl, z296, rfl, lz296, uz296, k297⟩ := pr293
          refine X_st [.int (iI z296)] rfl ?_
          refine X_pop hK dL_law_736 rfl ?_
          refine X_goto hK 1465 dL_law_737 (by decide) ?_
          refine X_iinc hK (i := 4) (z := i9) (n := 6) 0 [(4, .int (iI (i9 + 6))), (3, .ref b89), (2, .ref b40), (1, .ref b1), (0, .ref b)] dL_law_1465 rfl (by decide) rfl ?_
          refine X_goto hK 23 dL_law_1468 (by decide) ?_
          exact ih9 S93 qS93 g294 (i9 + 6) k9 t9 c9 b9 sh9 sp9 sm9 fa9 tn9 (by omega) (by omega) (by omega) (by omega) (by omega) (by omega) (by omega) (by omega) (by omega) (by omega) (xLs_mod (xLs_mod al9 hg289 (by decide)) hg294 (by decide)) si9 (xPi_m (xPi_m pi9 hg289 xLe.rf (by decide)) hg294 xLe.rf (by decide)) (xMp_m (xMp_m mp9 hg289 xLe.rf (by decide)) hg294 xLe.rf (by decide)) (xTw_m (xTw_m tw9 hg289 xLe.rf (by decide)) hg294 xLe.rf (by decide)) ((hg294 b1 12 0 0 (qS93 _ _ (qb89 _ _ hk70)) (by decide)).trans ((hg289 b1 12 0 0 (qS93 _ _ (qb89 _ _ hk70)) (by decide)).trans el09)) ((hg294 b1 12 0 3 (qS93 _ _ (qb89 _ _ hk70)) (by decide)).trans ((hg289 b1 12 0 3 (qS93 _ _ (qb89 _ _ hk70)) (by decide)).trans el19)) ((hg294 b1 12 0 1 (qS93 _ _ (qb89 _ _ hk70)) (by decide)).trans ((hg289 b1 12 0 1 (qS93 _ _ (qb89 _ _ hk70)) (by decide)).trans el29)) ((hg294 b38 6 0 1 (qS93 _ _ (qb89 _ _ hk79)) (by decide)).trans ((hg289 b38 6 0 1 (qS93 _ _ (qb89 _ _ hk79)) (by decide)).trans el39)) ((hg294 b1 12 0 2 (qS93 _ _ (qb89 _ _ hk70)) (by decide)).trans ((hg289 b1 12 0 2 (qS93 _ _ (qb89 _ _ hk70)) (by decide)).trans el49)) ((hg294 b21 4 0 0 (qS93 _ _ (qb89 _ _ hk72)) (by decide)).trans ((hg289 b21 4 0 0 (qS93 _ _ (qb89 _ _ hk72)) (by decide)).trans el59)) ((hg294 b21 4 0 2 (qS93 _ _ (qb89 _ _ hk72)) (by decide)).trans ((hg289 b21 4 0 2 (qS93 _ _ (qb89 _ _ hk72)) (by decide)).trans el69)) ((hg294 b21 4 0 3 (qS93 _ _ (qb89 _ _ hk72)) (by decide)).trans ((hg289 b21 4 0 3 (qS93 _ _ (qb89 _ _ hk72)) (by decide)).trans el79)) ((hg294 b21 4 0 4 (qS93 _ _ (qb89 _ _ hk72)) (by decide)).trans ((hg289 b21 4 0 4 (qS93 _ _ (qb89 _ _ hk72)) (by decide)).trans el89)) ((hg294 b1 12 0 4 (qS93 _ _ (qb89 _ _ hk70)) (by decide)).trans ((hg289 b1 12 0 4 (qS93 _ _ (qb89 _ _ hk70)) (by decide)).trans el99)) ((hg294 b36 10 0 0 (qS93 _ _ (qb89 _ _ hk77)) (by decide)).trans ((hg289 b36 10 0 0 (qS93 _ _ (qb89 _ _ hk77)) (by decide)).trans el109)) ((hg294 b40 13 0 1 (qS93 _ _ (qb89 _ _ hs_y68)) (by decide)).trans ((hg289 b40 13 0 1 (qS93 _ _ (qb89 _ _ hs_y68)) (by decide)).trans el119)) ((hg294 b40 13 0 10 (qS93 _ _ (qb89 _ _ hs_y68)) (by decide)).trans ((hg289 b40 13 0 10 (qS93 _ _ (qb89 _ _ hs_y68)) (by decide)).trans el129)) ((hg294 b40 13 0 13 (qS93 _ _ (qb89 _ _ hs_y68)) (by decide)).trans ((hg289 b40 13 0 13 (qS93 _ _ (qb89 _ _ hs_y68)) (by decide)).trans el139)) ((hg294 b40 13 0 14 (qS93 _ _ (qb89 _ _ hs_y68)) (by decide)).trans ((hg289 b40 13 0 14 (qS93 _ _ (qb89 _ _ hs_y68)) (by decide)).trans el149)) ((hg294 b40 13 0 12 (qS93 _ _ (qb89 _ _ hs_y68)) (by decide)).trans ((hg289 b40 13 0 12 (qS93 _ _ (qb89 _ _ hs_y68)) (by decide)).trans el159)) ((hg294 b36 10 0 1 (qS93 _ _ (qb89 _ _ hk77)) (by decide)).trans ((hg289 b36 10 0 1 (qS93 _ _ (qb89 _ _ hk77)) (by decide)).trans exk9)) ((hg294 b40 13 0 2 (qS93 _ _ (qb89 _ _ hs_y68)) (by decide)).trans ((hg289 b40 13 0 2 (qS93 _ _ (qb89 _ _ hs_y68)) (by decide)).trans emk9)) ((hg294 b1 12 0 12 (qS93 _ _ (qb89 _ _ hk70)) (by decide)).trans ((hg289 b1 12 0 12 (qS93 _ _ (qb89 _ _ hk70)) (by decide)).trans ext9)) ((hg294 b40 13 0 3 (qS93 _ _ (qb89 _ _ hs_y68)) (by decide)).trans ((hg289 b40 13 0 3 (qS93 _ _ (qb89 _ _ hs_y68)) (by decide)).trans emt9)) ((hg294 b37 5 0 3 (qS93 _ _ (qb89 _ _ hk78)) (by decide)).trans ((hg289 b37 5 0 3 (qS93 _ _ (qb89 _ _ hk78)) (by decide)).trans exc9)) ((hg294 b40 13 0 69 (qS93 _ _ (qb89 _ _ hs_y68)) (by decide)).trans ((hg289 b40 13 0 69 (qS93 _ _ (qb89 _ _ hs_y68)) (by decide)).trans emc9)) ((hg294 b39 0 0 2 (qS93 _ _ (qb89 _ _ hk80)) (by decide)).trans ((hg289 b39 0 0 2 (qS93 _ _ (qb89 _ _ hk80)) (by decide)).trans exb9)) ((hg294 b40 13 0 16 (qS93 _ _ (qb89 _ _ hs_y68)) (by decide)).trans ((hg289 b40 13 0 16 (qS93 _ _ (qb89 _ _ hs_y68)) (by decide)).trans emb9)) ((hg294 b1 12 0 16 (qS93 _ _ (qb89 _ _ hk70)) (by decide)).trans ((hg289 b1 12 0 16 (qS93 _ _ (qb89 _ _ hk70)) (by decide)).trans exsh9)) ((hg294 b40 13 0 89 (qS93 _ _ (qb89 _ _ hs_y68)) (by decide)).trans ((hg289 b40 13 0 89 (qS93 _ _ (qb89 _ _ hs_y68)) (by decide)).trans emsh9)) ((hg294 b1 12 0 17 (qS93 _ _ (qb89 _ _ hk70)) (by decide)).trans ((hg289 b1 12 0 17 (qS93 _ _ (qb89 _ _ hk70)) (by decide)).trans exsp9)) ((hg294 b40 13 0 90 (qS93 _ _ (qb89 _ _ hs_y68)) (by decide)).trans ((hg289 b40 13 0 90 (qS93 _ _ (qb89 _ _ hs_y68)) (by decide)).trans emsp9)) ((hg294 b40 13 0 17 (qS93 _ _ (qb89 _ _ hs_y68)) (by decide)).trans ((hg289 b40 13 0 17 (qS93 _ _ (qb89 _ _ hs_y68)) (by decide)).trans emsm9)) ((hg294 b1 12 0 13 (qS93 _ _ (qb89 _ _ hk70)) (by decide)).trans ((hg289 b1 12 0 13 (qS93 _ _ (qb89 _ _ hk70)) (by decide)).trans exfa9)) ((hg294 b40 13 0 25 (qS93 _ _ (qb89 _ _ hs_y68)) (by decide)).trans ((hg289 b40 13 0 25 (qS93 _ _ (qb89 _ _ hs_y68)) (by decide)).trans emfa9)) ((hg294 b20 300 0 2 (qS93 _ _ (qb89 _ _ hk71)) (by decide)).trans ((hg289 b20 300 0 2 (qS93 _ _ (qb89 _ _ hk71)) (by decide)).trans extn9)) ((hg294 b40 13 0 39 (qS93 _ _ (qb89 _ _ hs_y68)) (by decide)).trans ((hg289 b40 13 0 39 (qS93 _ _ (qb89 _ _ hs_y68)) (by decide)).trans emtn9)) (xWn.m (xWn.m wn9 (qS93 _ _ (qb89 _ _ hk76)) (qS93 _ _ (qb89 _ _ hk83)) hg289 xLe.rf (by decide)) (qS93 _ _ (qb89 _ _ hk76)) (qS93 _ _ (qb89 _ _ hk83)) hg294 xLe.rf (by decide)) (by rw [(Eq.trans (xv_m hg294 (qS93 _ _ (qb89 _ _ hk74)) (by decide) (by decide)) (xv_m hg289 (qS93 _ _ (qb89 _ _ hk74)) (by decide) (by decide))), (Eq.trans (xv_m hg294 (qS93 _ _ (qb89 _ _ hk81)) (by decide) (by decide)) (xv_m hg289 (qS93 _ _ (qb89 _ _ hk81)) (by decide) (by decide)))]; exact wt9) (by rw [(Eq.trans (xv_m hg294 (qS93 _ _ (qb89 _ _ hk75)) (by decide) (by decide)) (xv_m hg289 (qS93 _ _ (qb89 _ _ hk75)) (by decide) (by decide))), (Eq.trans (xv_m hg294 (qS93 _ _ (qb89 _ _ hk82)) (by decide) (by decide)) (xv_m hg289 (qS93 _ _ (qb89 _ _ hk82)) (by decide) (by decide)))]; exact ld9) (by rw [(Eq.trans (xv_m hg294 (qS93 _ _ (qb89 _ _ hk73)) (by decide) (by decide)) (xv_m hg289 (qS93 _ _ (qb89 _ _ hk73)) (by decide) (by decide))), (Eq.trans (xv_m hg294 (qS93 _ _ (qb89 _ _ hs_b88)) (by decide) (by decide)) (xv_m hg289 (qS93 _ _ (qb89 _ _ hs_b88)) (by decide) (by decide)))]; exact sk9) (by rw [(Eq.trans (xv_m hg294 (qS93 _ _ (qb89 _ _ hs_b86)) (by decide) (by decide)) (xv_m hg289 (qS93 _ _ (qb89 _ _ hs_b86)) (by decide) (by decide))), (Eq.trans (xv_m hg294 (qS93 _ _ (qb89 _ _ hs_b87)) (by decide) (by decide)) (xv_m hg289 (qS93 _ _ (qb89 _ _ hs_b87)) (by decide) (by decide)))]; exact xTc.mono tc9 (by omega)) dc9 ds9 (by omega) (by omega) (by omega)
        · refine X_tableIn hK 740 12 (by decide) c98 (by decide) (by decide) dL_law_40 rfl (by decide) ?_
          refine X_aloadn hK (i := 1) 3 dL_law_740 rfl rfl ?_
          refine X_aloadn hK (i := 0) 4 dL_law_741 rfl rfl ?_
          refine X_iload hK (i := 4) 0 dL_law_742 rfl ?_
          refine X_iconst hK dL_law_744 ?_
          refine X_iadd hK dL_law_745 ?_
          refine X_scr hK hX hbl hbA hL (by omega) (by omega) dL_law_746 (fun z298 ez298 lz298 uz298 => ?_)
          refine X_callVU hK [.int (iI z298)] [] lk_L_78 (c_X11_terms _ _ _ _ _ S93 g94 b1 z298 b36 k9 b20 tn9 t9 fa9 b86 (qS93 _ _ (qb89 _ _ hk70)) (by omega) el09 (qS93 _ _ (qb89 _ _ hk77)) (by omega) exk9 el99 (qS93 _ _ (qb89 _ _ hk71)) (by omega) extn9 (by omega) ext9 (by omega) exfa9 el109 (qS93 _ _ (qb89 _ _ hs_b86)) al9 si9) (qS93 _ _ (qb89 _ _ hk70)) ⟨by decide, rfl⟩ dL_law_747 rfl rfl (by simp [Value.category]) (by decide) (by omega) (by omega) (by decide) (fun r299 S301 g300 dcr299 dsr299 pr299 qr299 hg300 => ?_)
          obtain ⟨wr299, z302, rfl, lz302, uz302, k303, k304, k305, k306, k307⟩ := pr299
          refine X_st [.int (iI z302)] rfl ?_
          refine X_pop hK dL_law_750 rfl ?_
          refine X_aloadn hK (i := 2) 2 dL_law_751 rfl rfl ?_
          refine X_aloadn hK (i := 0) 4 dL_law_752 rfl rfl ?_
          refine X_iload hK (i := 4) 0 dL_law_753 rfl ?_
          refine X_iconst hK dL_law_755 ?_
          refine X_iadd hK dL_law_756 ?_
          refine X_scrK hK hX hbl hbA hL (by omega) (by omega) ez298 dL_law_757 ?_
          refine X_callV hK [.int (iI z298)] [] lk_L_81 (c_X12_terms _ _ _ _ _ S301 g300 b40 z298 k9 tn9 t9 fa9 b87 (qr299 _ _ (qS93 _ _ (qb89 _ _ hs_y68))) (by omega) (by omega) ((hg300 b40 13 0 2 (qS93 _ _ (qb89 _ _ hs_y68)) (by decide)).trans emk9) (by omega) ((hg300 b40 13 0 39 (qS93 _ _ (qb89 _ _ hs_y68)) (by decide)).trans emtn9) (by omega) ((hg300 b40 13 0 3 (qS93 _ _ (qb89 _ _ hs_y68)) (by decide)).trans emt9) (by omega) ((hg300 b40 13 0 25 (qS93 _ _ (qb89 _ _ hs_y68)) (by decide)).trans emfa9) ((hg300 b40 13 0 1 (qS93 _ _ (qb89 _ _ hs_y68)) (by decide)).trans el119) (qr299 _ _ (qS93 _ _ (qb89 _ _ hs_b87))) (xTw_m tw9 hg300 qr299 (by decide))) (qr299 _ _ (qS93 _ _ (qb89 _ _ hs_y68))) ⟨by decide, rfl⟩ dL_law_758 rfl rfl (by simp [Value.category]) (by decide) (by omega) (by omega) (by decide) (fun r308 S310 g309 pr308 qr308 hg309 => ?_)
          obtain ⟨rfl, z311, rfl, lz311, uz311, k312, k313, k314⟩ := pr308
          refine X_st [.int (iI z311)] rfl ?_
          obtain ⟨Fq315, nq315, eFq315, enq315, rFq315, rnq315, tq315⟩ := k307
          obtain ⟨Gq315, mq315, eGq315, emq315, rGq315, rmq315, uq315⟩ := k314
          have hcq315 : xTc (xv g94 b86) (xv g300 b87) k9 := (by rw [(xv_m hg300 (qS93 _ _ (qb89 _ _ hs_b87)) (by decide) (by decide))]; exact tc9)
          obtain ⟨hFq315, hnq315, hq9⟩ := xTE.det (xTE.cg (fun i9 q1 q2 => hcq315 i9 q1 q2) tq315) uq315
          refine X_pop hK dL_law_761 rfl ?_
          refine X_goto hK 1465 dL_law_762 (by decide) ?_
          refine X_iinc hK (i := 4) (z := i9) (n := 6) 0 [(4, .int (iI (i9 + 6))), (3, .ref b89), (2, .ref b40), (1, .ref b1), (0, .ref b)] dL_law_1465 rfl (by decide) rfl ?_
          refine X_goto hK 23 dL_law_1468 (by decide) ?_
          exact ih9 S301 (xLe.tr qS93 qr299) g309 (i9 + 6) (0) t9 c9 b9 sh9 sp9 sm9 Fq315 nq315 (by omega) (by omega) (by omega) (by omega) (by omega) (by omega) (by omega) (by omega) (by omega) (by omega) (xLs_mod k303 hg309 (by decide)) k304 (xPi_m (xPi_m pi9 hg300 qr299 (by decide)) hg309 xLe.rf (by decide)) (xMp_m (xMp_m mp9 hg300 qr299 (by decide)) hg309 xLe.rf (by decide)) k313 ((hg309 b1 12 0 0 (qr299 _ _ (qS93 _ _ (qb89 _ _ hk70))) (by decide)).trans ((hg300 b1 12 0 0 (qS93 _ _ (qb89 _ _ hk70)) (by decide)).trans el09)) ((hg309 b1 12 0 3 (qr299 _ _ (qS93 _ _ (qb89 _ _ hk70))) (by decide)).trans ((hg300 b1 12 0 3 (qS93 _ _ (qb89 _ _ hk70)) (by decide)).trans el19)) ((hg309 b1 12 0 1 (qr299 _ _ (qS93 _ _ (qb89 _ _ hk70))) (by decide)).trans ((hg300 b1 12 0 1 (qS93 _ _ (qb89 _ _ hk70)) (by decide)).trans el29)) ((hg309 b38 6 0 1 (qr299 _ _ (qS93 _ _ (qb89 _ _ hk79))) (by decide)).trans ((hg300 b38 6 0 1 (qS93 _ _ (qb89 _ _ hk79)) (by decide)).trans el39)) ((hg309 b1 12 0 2 (qr299 _ _ (qS93 _ _ (qb89 _ _ hk70))) (by decide)).trans ((hg300 b1 12 0 2 (qS93 _ _ (qb89 _ _ hk70)) (by decide)).trans el49)) ((hg309 b21 4 0 0 (qr299 _ _ (qS93 _ _ (qb89 _ _ hk72))) (by decide)).trans ((hg300 b21 4 0 0 (qS93 _ _ (qb89 _ _ hk72)) (by decide)).trans el59)) ((hg309 b21 4 0 2 (qr299 _ _ (qS93 _ _ (qb89 _ _ hk72))) (by decide)).trans ((hg300 b21 4 0 2 (qS93 _ _ (qb89 _ _ hk72)) (by decide)).trans el69)) ((hg309 b21 4 0 3 (qr299 _ _ (qS93 _ _ (qb89 _ _ hk72))) (by decide)).trans ((hg300 b21 4 0 3 (qS93 _ _ (qb89 _ _ hk72)) (by decide)).trans el79)) ((hg309 b21 4 0 4 (qr299 _ _ (qS93 _ _ (qb89 _ _ hk72))) (by decide)).trans ((hg300 b21 4 0 4 (qS93 _ _ (qb89 _ _ hk72)) (by decide)).trans el89)) ((hg309 b1 12 0 4 (qr299 _ _ (qS93 _ _ (qb89 _ _ hk70))) (by decide)).trans ((hg300 b1 12 0 4 (qS93 _ _ (qb89 _ _ hk70)) (by decide)).trans el99)) ((hg309 b36 10 0 0 (qr299 _ _ (qS93 _ _ (qb89 _ _ hk77))) (by decide)).trans ((hg300 b36 10 0 0 (qS93 _ _ (qb89 _ _ hk77)) (by decide)).trans el109)) ((hg309 b40 13 0 1 (qr299 _ _ (qS93 _ _ (qb89 _ _ hs_y68))) (by decide)).trans ((hg300 b40 13 0 1 (qS93 _ _ (qb89 _ _ hs_y68)) (by decide)).trans el119)) ((hg309 b40 13 0 10 (qr299 _ _ (qS93 _ _ (qb89 _ _ hs_y68))) (by decide)).trans ((hg300 b40 13 0 10 (qS93 _ _ (qb89 _ _ hs_y68)) (by decide)).trans el129)) ((hg309 b40 13 0 13 (qr299 _ _ (qS93 _ _ (qb89 _ _ hs_y68))) (by decide)).trans ((hg300 b40 13 0 13 (qS93 _ _ (qb89 _ _ hs_y68)) (by decide)).trans el139)) ((hg309 b40 13 0 14 (qr299 _ _ (qS93 _ _ (qb89 _ _ hs_y68))) (by decide)).trans ((hg300 b40 13 0 14 (qS93 _ _ (qb89 _ _ hs_y68)) (by decide)).trans el149)) ((hg309 b40 13 0 12 (qr299 _ _ (qS93 _ _ (qb89 _ _ hs_y68))) (by decide)).trans ((hg300 b40 13 0 12 (qS93 _ _ (qb89 _ _ hs_y68)) (by decide)).trans el159)) ((hg309 b36 10 0 1 (qr299 _ _ (qS93 _ _ (qb89 _ _ hk77))) (by decide)).trans k306) k312 ((hg309 b1 12 0 12 (qr299 _ _ (qS93 _ _ (qb89 _ _ hk70))) (by decide)).trans ((hg300 b1 12 0 12 (qS93 _ _ (qb89 _ _ hk70)) (by decide)).trans ext9)) ((hg309 b40 13 0 3 (qr299 _ _ (qS93 _ _ (qb89 _ _ hs_y68))) (by decide)).trans ((hg300 b40 13 0 3 (qS93 _ _ (qb89 _ _ hs_y68)) (by decide)).trans emt9)) ((hg309 b37 5 0 3 (qr299 _ _ (qS93 _ _ (qb89 _ _ hk78))) (by decide)).trans ((hg300 b37 5 0 3 (qS93 _ _ (qb89 _ _ hk78)) (by decide)).trans exc9)) ((hg309 b40 13 0 69 (qr299 _ _ (qS93 _ _ (qb89 _ _ hs_y68))) (by decide)).trans ((hg300 b40 13 0 69 (qS93 _ _ (qb89 _ _ hs_y68)) (by decide)).trans emc9)) ((hg309 b39 0 0 2 (qr299 _ _ (qS93 _ _ (qb89 _ _ hk80))) (by decide)).trans ((hg300 b39 0 0 2 (qS93 _ _ (qb89 _ _ hk80)) (by decide)).trans exb9)) ((hg309 b40 13 0 16 (qr299 _ _ (qS93 _ _ (qb89 _ _ hs_y68))) (by decide)).trans ((hg300 b40 13 0 16 (qS93 _ _ (qb89 _ _ hs_y68)) (by decide)).trans emb9)) ((hg309 b1 12 0 16 (qr299 _ _ (qS93 _ _ (qb89 _ _ hk70))) (by decide)).trans ((hg300 b1 12 0 16 (qS93 _ _ (qb89 _ _ hk70)) (by decide)).trans exsh9)) ((hg309 b40 13 0 89 (qr299 _ _ (qS93 _ _ (qb89 _ _ hs_y68))) (by decide)).trans ((hg300 b40 13 0 89 (qS93 _ _ (qb89 _ _ hs_y68)) (by decide)).trans emsh9)) ((hg309 b1 12 0 17 (qr299 _ _ (qS93 _ _ (qb89 _ _ hk70))) (by decide)).trans ((hg300 b1 12 0 17 (qS93 _ _ (qb89 _ _ hk70)) (by decide)).trans exsp9)) ((hg309 b40 13 0 90 (qr299 _ _ (qS93 _ _ (qb89 _ _ hs_y68))) (by decide)).trans ((hg300 b40 13 0 90 (qS93 _ _ (qb89 _ _ hs_y68)) (by decide)).trans emsp9)) ((hg309 b40 13 0 17 (qr299 _ _ (qS93 _ _ (qb89 _ _ hs_y68))) (by decide)).trans ((hg300 b40 13 0 17 (qS93 _ _ (qb89 _ _ hs_y68)) (by decide)).trans emsm9)) ((hg309 b1 12 0 13 (qr299 _ _ (qS93 _ _ (qb89 _ _ hk70))) (by decide)).trans eFq315) (eGq315.trans (by rw [hFq315])) ((hg309 b20 300 0 2 (qr299 _ _ (qS93 _ _ (qb89 _ _ hk71))) (by decide)).trans enq315) (emq315.trans (by rw [hnq315])) (xWn.m (xWn.m wn9 (qS93 _ _ (qb89 _ _ hk76)) (qS93 _ _ (qb89 _ _ hk83)) hg300 qr299 (by decide)) (qr299 _ _ (qS93 _ _ (qb89 _ _ hk76))) (qr299 _ _ (qS93 _ _ (qb89 _ _ hk83))) hg309 xLe.rf (by decide)) (by rw [(Eq.trans (xv_m hg309 (qr299 _ _ (qS93 _ _ (qb89 _ _ hk74))) (by decide) (by decide)) (xv_m hg300 (qS93 _ _ (qb89 _ _ hk74)) (by decide) (by decide))), (Eq.trans (xv_m hg309 (qr299 _ _ (qS93 _ _ (qb89 _ _ hk81))) (by decide) (by decide)) (xv_m hg300 (qS93 _ _ (qb89 _ _ hk81)) (by decide) (by decide)))]; exact wt9) (by rw [(Eq.trans (xv_m hg309 (qr299 _ _ (qS93 _ _ (qb89 _ _ hk75))) (by decide) (by decide)) (xv_m hg300 (qS93 _ _ (qb89 _ _ hk75)) (by decide) (by decide))), (Eq.trans (xv_m hg309 (qr299 _ _ (qS93 _ _ (qb89 _ _ hk82))) (by decide) (by decide)) (xv_m hg300 (qS93 _ _ (qb89 _ _ hk82)) (by decide) (by decide)))]; exact ld9) (by rw [(Eq.trans (xv_m hg309 (qr299 _ _ (qS93 _ _ (qb89 _ _ hk73))) (by decide) (by decide)) (xv_m hg300 (qS93 _ _ (qb89 _ _ hk73)) (by decide) (by decide))), (Eq.trans (xv_m hg309 (qr299 _ _ (qS93 _ _ (qb89 _ _ hs_b88))) (by decide) (by decide)) (xv_m hg300 (qS93 _ _ (qb89 _ _ hs_b88)) (by decide) (by decide)))]; exact sk9) (by rw [(Eq.trans (xv_m hg309 (qr299 _ _ (qS93 _ _ (qb89 _ _ hs_b86))) (by decide) (by decide)) (xv_m hg300 (qS93 _ _ (qb89 _ _ hs_b86)) (by decide) (by decide))), (Eq.trans (xv_m hg309 (qr299 _ _ (qS93 _ _ (qb89 _ _ hs_b87))) (by decide) (by decide)) (xv_m hg300 (qS93 _ _ (qb89 _ _ hs_b87)) (by decide) (by decide)))]; exact xTc.mono tc9 (by omega)) (dc9 + dcr299) (ds9 + dsr299) (by omega) (by omega) (by omega)
        · refine X_tableIn hK 765 13 (by decide) c98 (by decide) (by decide) dL_law_40 rfl (by decide) ?_
          refine X_aloadn hK (i := 1) 3 dL_law_765 rfl rfl ?_
          refine X_callV hK [] [] lk_L_82 (c_X11_fault _ _ _ _ _ S93 g94 b1 fa9 (qS93 _ _ (qb89 _ _ hk70)) (by omega) exfa9) (qS93 _ _ (qb89 _ _ hk70)) ⟨by decide, rfl⟩ dL_law_766 rfl rfl (by simp [Value.category]) (by decide) (by omega) (by omega) (by decide) (fun r316 S318 g317 pr316 qr316 hg317 => ?_)
          obtain ⟨rfl, rfl, z319, rfl, lz319, uz319, k320⟩ := pr316
          refine X_st [.int (iI z319)] rfl ?_
          refine X_aloadn hK (i := 2) 2 dL_law_769 rfl rfl ?_
          refine X_callV hK [] [.int (iI z319)] lk_L_86 (c_X12_fault _ _ _ _ _ S93 g94 b40 fa9 (qS93 _ _ (qb89 _ _ hs_y68)) (by omega) emfa9) (qS93 _ _ (qb89 _ _ hs_y68)) ⟨by decide, rfl⟩ dL_law_770 rfl rfl (by simp [Value.category]) (by decide) (by omega) (by omega) (by decide) (fun r321 S323 g322 pr321 qr321 hg322 => ?_)
          obtain ⟨rfl, z324, rfl, lz324, uz324, k325⟩ := pr321
          refine X_st [.int (iI z324), .int (iI z319)] rfl ?_
          refine X_icmp_eq hK 1465 (by omega) (by omega) dL_law_773 (by decide) (fun c326 => ?_) (fun c326 => False.elim (by omega))
          refine X_iinc hK (i := 4) (z := i9) (n := 6) 0 [(4, .int (iI (i9 + 6))), (3, .ref b89), (2, .ref b40), (1, .ref b1), (0, .ref b)] dL_law_1465 rfl (by decide) rfl ?_
          refine X_goto hK 23 dL_law_1468 (by decide) ?_
          exact ih9 S93 qS93 g322 (i9 + 6) k9 t9 c9 b9 sh9 sp9 sm9 fa9 tn9 (by omega) (by omega) (by omega) (by omega) (by omega) (by omega) (by omega) (by omega) (by omega) (by omega) (xLs_mod al9 hg322 (by decide)) si9 (xPi_m pi9 hg322 xLe.rf (by decide)) (xMp_m mp9 hg322 xLe.rf (by decide)) (xTw_m tw9 hg322 xLe.rf (by decide)) ((hg322 b1 12 0 0 (qS93 _ _ (qb89 _ _ hk70)) (by decide)).trans el09) ((hg322 b1 12 0 3 (qS93 _ _ (qb89 _ _ hk70)) (by decide)).trans el19) ((hg322 b1 12 0 1 (qS93 _ _ (qb89 _ _ hk70)) (by decide)).trans el29) ((hg322 b38 6 0 1 (qS93 _ _ (qb89 _ _ hk79)) (by decide)).trans el39) ((hg322 b1 12 0 2 (qS93 _ _ (qb89 _ _ hk70)) (by decide)).trans el49) ((hg322 b21 4 0 0 (qS93 _ _ (qb89 _ _ hk72)) (by decide)).trans el59) ((hg322 b21 4 0 2 (qS93 _ _ (qb89 _ _ hk72)) (by decide)).trans el69) ((hg322 b21 4 0 3 (qS93 _ _ (qb89 _ _ hk72)) (by decide)).trans el79) ((hg322 b21 4 0 4 (qS93 _ _ (qb89 _ _ hk72)) (by decide)).trans el89) ((hg322 b1 12 0 4 (qS93 _ _ (qb89 _ _ hk70)) (by decide)).trans el99) ((hg322 b36 10 0 0 (qS93 _ _ (qb89 _ _ hk77)) (by decide)).trans el109) ((hg322 b40 13 0 1 (qS93 _ _ (qb89 _ _ hs_y68)) (by decide)).trans el119) ((hg322 b40 13 0 10 (qS93 _ _ (qb89 _ _ hs_y68)) (by decide)).trans el129) ((hg322 b40 13 0 13 (qS93 _ _ (qb89 _ _ hs_y68)) (by decide)).trans el139) ((hg322 b40 13 0 14 (qS93 _ _ (qb89 _ _ hs_y68)) (by decide)).trans el149) ((hg322 b40 13 0 12 (qS93 _ _ (qb89 _ _ hs_y68)) (by decide)).trans el159) ((hg322 b36 10 0 1 (qS93 _ _ (qb89 _ _ hk77)) (by decide)).trans exk9) ((hg322 b40 13 0 2 (qS93 _ _ (qb89 _ _ hs_y68)) (by decide)).trans emk9) ((hg322 b1 12 0 12 (qS93 _ _ (qb89 _ _ hk70)) (by decide)).trans ext9) ((hg322 b40 13 0 3 (qS93 _ _ (qb89 _ _ hs_y68)) (by decide)).trans emt9) ((hg322 b37 5 0 3 (qS93 _ _ (qb89 _ _ hk78)) (by decide)).trans exc9) ((hg322 b40 13 0 69 (qS93 _ _ (qb89 _ _ hs_y68)) (by decide)).trans emc9) ((hg322 b39 0 0 2 (qS93 _ _ (qb89 _ _ hk80)) (by decide)).trans exb9) ((hg322 b40 13 0 16 (qS93 _ _ (qb89 _ _ hs_y68)) (by decide)).trans emb9) ((hg322 b1 12 0 16 (qS93 _ _ (qb89 _ _ hk70)) (by decide)).trans exsh9) ((hg322 b40 13 0 89 (qS93 _ _ (qb89 _ _ hs_y68)) (by decide)).trans emsh9) ((hg322 b1 12 0 17 (qS93 _ _ (qb89 _ _ hk70)) (by decide)).trans exsp9) ((hg322 b40 13 0 90 (qS93 _ _ (qb89 _ _ hs_y68)) (by decide)).trans emsp9) ((hg322 b40 13 0 17 (qS93 _ _ (qb89 _ _ hs_y68)) (by decide)).trans emsm9) ((hg322 b1 12 0 13 (qS93 _ _ (qb89 _ _ hk70)) (by decide)).trans exfa9) ((hg322 b40 13 0 25 (qS93 _ _ (qb89 _ _ hs_y68)) (by decide)).trans emfa9) ((hg322 b20 300 0 2 (qS93 _ _ (qb89 _ _ hk71)) (by decide)).trans extn9) ((hg322 b40 13 0 39 (qS93 _ _ (qb89 _ _ hs_y68)) (by decide)).trans emtn9) (xWn.m wn9 (qS93 _ _ (qb89 _ _ hk76)) (qS93 _ _ (qb89 _ _ hk83)) hg322 xLe.rf (by decide)) (by rw [(xv_m hg322 (qS93 _ _ (qb89 _ _ hk74)) (by decide) (by decide)), (xv_m hg322 (qS93 _ _ (qb89 _ _ hk81)) (by decide) (by decide))]; exact wt9) (by rw [(xv_m hg322 (qS93 _ _ (qb89 _ _ hk75)) (by decide) (by decide)), (xv_m hg322 (qS93 _ _ (qb89 _ _ hk82)) (by decide) (by decide))]; exact ld9) (by rw [(xv_m hg322 (qS93 _ _ (qb89 _ _ hk73)) (by decide) (by decide)), (xv_m hg322 (qS93 _ _ (qb89 _ _ hs_b88)) (by decide) (by decide))]; exact sk9) (by rw [(xv_m hg322 (qS93 _ _ (qb89 _ _ hs_b86)) (by decide) (by decide)), (xv_m hg322 (qS93 _ _ (qb89 _ _ hs_b87)) (by decide) (by decide))]; exact xTc.mono tc9 (by omega)) dc9 ds9 (by omega) (by omega) (by omega)
        · refine X_tableIn hK 778 14 (by decide) c98 (by decide) (by decide) dL_law_40 rfl (by decide) ?_
          refine X_aloadn hK (i := 1) 3 dL_law_778 rfl rfl ?_
          refine X_aloadn hK (i := 0) 4 dL_law_779 rfl rfl ?_
          refine X_iload hK (i := 4) 0 dL_law_780 rfl ?_
          refine X_iconst hK dL_law_782 ?_
          refine X_iadd hK dL_law_783 ?_
          refine X_scr hK hX hbl hbA hL (by omega) (by omega) dL_law_784 (fun z327 ez327 lz327 uz327 => ?_)
          refine X_aloadn hK (i := 0) 4 dL_law_785 rfl rfl ?_
          refine X_iload hK (i := 4) 0 dL_law_786 rfl ?_
          refine X_iconst hK dL_law_788 ?_
          refine X_iadd hK dL_law_789 ?_
          refine X_scr hK hX hbl hbA hL (by omega) (by omega) dL_law_790 (fun z328 ez328 lz328 uz328 => ?_)
          refine X_aloadn hK (i := 0) 4 dL_law_791 rfl rfl ?_
          refine X_iload hK (i := 4) 0 dL_law_792 rfl ?_
          refine X_iconst hK dL_law_794 ?_
          refine X_iadd hK dL_law_795 ?_
          refine X_scr hK hX hbl hbA hL (by omega) (by omega) dL_law_796 (fun z329 ez329 lz329 uz329 => ?_)
          refine X_aloadn hK (i := 0) 4 dL_law_797 rfl rfl ?_
          refine X_iload hK (i := 4) 0 dL_law_798 rfl ?_
          refine X_iconst hK dL_law_800 ?_
          refine X_iadd hK dL_law_801 ?_
          refine X_scr hK hX hbl hbA hL (by omega) (by omega) dL_law_802 (fun z330 ez330 lz330 uz330 => ?_)
          refine X_aloadn hK (i := 0) 4 dL_law_803 rfl rfl ?_
          refine X_iload hK (i := 4) 0 dL_law_804 rfl ?_
          refine X_iconst hK dL_law_806 ?_
          refine X_iadd hK dL_law_807 ?_
          refine X_scr hK hX hbl hbA hL (by omega) (by omega) dL_law_808 (fun z331 ez331 lz331 uz331 => ?_)
          refine X_callVU hK [.int (iI z327), .int (iI z328), .int (iI z329), .int (iI z330), .int (iI z331)] [] lk_L_87 (c_X11_bundle _ _ _ _ _ S93 g94 b1 z327 z328 z329 z330 z331 (qS93 _ _ (qb89 _ _ hk70)) (by omega) (by omega) (by omega) (by omega) (by omega) al9 si9) (qS93 _ _ (qb89 _ _ hk70)) ⟨by decide, rfl⟩ dL_law_809 rfl rfl (by simp [Value.category]) (by decide) (by omega) (by omega) (by decide) (fun r332 S334 g333 dcr332 dsr332 pr332 qr332 hg333 => ?_)
          obtain ⟨wr332, z335, rfl, lz335, uz335, k336, k337, k338⟩ := pr332
          refine X_st [.int (iI z335)] rfl ?_
          refine X_pop hK dL_law_812 rfl ?_
          refine X_aloadn hK (i := 2) 2 dL_law_813 rfl rfl ?_
          refine X_aloadn hK (i := 0) 4 dL_law_814 rfl rfl ?_
          refine X_iload hK (i := 4) 0 dL_law_815 rfl ?_
          refine X_iconst hK dL_law_817 ?_
          refine X_iadd hK dL_law_818 ?_
          refine X_scrK hK hX hbl hbA hL (by omega) (by omega) ez327 dL_law_819 ?_
          refine X_aloadn hK (i := 0) 4 dL_law_820 rfl rfl ?_
          refine X_iload hK (i := 4) 0 dL_law_821 rfl ?_
          refine X_iconst hK dL_law_823 ?_
          refine X_iadd hK dL_law_824 ?_
          refine X_scrK hK hX hbl hbA hL (by omega) (by omega) ez328 dL_law_825 ?_
          refine X_aloadn hK (i := 0) 4 dL_law_826 rfl rfl ?_
          refine X_iload hK (i := 4) 0 dL_law_827 rfl ?_
          refine X_iconst hK dL_law_829 ?_
          refine X_iadd hK dL_law_830 ?_
          refine X_scrK hK hX hbl hbA hL (by omega) (by omega) ez329 dL_law_831 ?_
          refine X_aloadn hK (i := 0) 4 dL_law_832 rfl rfl ?_
          refine X_iload hK (i := 4) 0 dL_law_833 rfl ?_
          refine X_iconst hK dL_law_835 ?_
          refine X_iadd hK dL_law_836 ?_
          refine X_scrK hK hX hbl hbA hL (by omega) (by omega) ez330 dL_law_837 ?_
          refine X_aloadn hK (i := 0) 4 dL_law_838 rfl rfl ?_
          refine X_iload hK (i := 4) 0 dL_law_839 rfl ?_
          refine X_iconst hK dL_law_841 ?_
          refine X_iadd hK dL_law_842 ?_
          refine X_scrK hK hX hbl hbA hL (by omega) (by omega) ez331 dL_law_843 ?_
          refine X_callV hK [.int (iI z327), .int (iI z328), .int (iI z329), .int (iI z330), .int (iI z331)] [] lk_L_90 (c_X12_bundle _ _ _ _ _ S334 g333 b40 z327 z328 z329 z330 z331 (qr332 _ _ (qS93 _ _ (qb89 _ _ hs_y68))) (by omega) (by omega) (by omega) (by omega) (by omega) (xTw_m tw9 hg333 qr332 (by decide))) (qr332 _ _ (qS93 _ _ (qb89 _ _ hs_y68))) ⟨by decide, rfl⟩ dL_law_844 rfl rfl (by simp [Value.category]) (by decide) (by omega) (by omega) (by decide) (fun r339 S341 g340 pr339 qr339 hg340 => ?_)
          obtain ⟨rfl, z342, rfl, lz342, uz342⟩ := pr339
          refine X_st [.int (iI z342)] rfl ?_
          refine X_pop hK dL_law_847 rfl ?_
          refine X_goto hK 1465 dL_law_848 (by decide) ?_
          refine X_iinc hK (i := 4) (z := i9) (n := 6) 0 [(4, .int (iI (i9 + 6))), (3, .ref b89), (2, .ref b40), (1, .ref b1), (0, .ref b)] dL_law_1465 rfl (by decide) rfl ?_
          refine X_goto hK 23 dL_law_1468 (by decide) ?_
          exact ih9 S334 (xLe.tr qS93 qr332) g340 (i9 + 6) k9 t9 c9 b9 sh9 sp9 sm9 fa9 tn9 (by omega) (by omega) (by omega) (by omega) (by omega) (by omega) (by omega) (by omega) (by omega) (by omega) (xLs_mod k336 hg340 (by decide)) k337 (xPi_m (xPi_m pi9 hg333 qr332 (by decide)) hg340 xLe.rf (by decide)) (xMp_m (xMp_m mp9 hg333 qr332 (by decide)) hg340 xLe.rf (by decide)) (xTw_m (xTw_m tw9 hg333 qr332 (by decide)) hg340 xLe.rf (by decide)) ((hg340 b1 12 0 0 (qr332 _ _ (qS93 _ _ (qb89 _ _ hk70))) (by decide)).trans ((hg333 b1 12 0 0 (qS93 _ _ (qb89 _ _ hk70)) (by decide)).trans el09)) ((hg340 b1 12 0 3 (qr332 _ _ (qS93 _ _ (qb89 _ _ hk70))) (by decide)).trans ((hg333 b1 12 0 3 (qS93 _ _ (qb89 _ _ hk70)) (by decide)).trans el19)) ((hg340 b1 12 0 1 (qr332 _ _ (qS93 _ _ (qb89 _ _ hk70))) (by decide)).trans ((hg333 b1 12 0 1 (qS93 _ _ (qb89 _ _ hk70)) (by decide)).trans el29)) ((hg340 b38 6 0 1 (qr332 _ _ (qS93 _ _ (qb89 _ _ hk79))) (by decide)).trans ((hg333 b38 6 0 1 (qS93 _ _ (qb89 _ _ hk79)) (by decide)).trans el39)) ((hg340 b1 12 0 2 (qr332 _ _ (qS93 _ _ (qb89 _ _ hk70))) (by decide)).trans ((hg333 b1 12 0 2 (qS93 _ _ (qb89 _ _ hk70)) (by decide)).trans el49)) ((hg340 b21 4 0 0 (qr332 _ _ (qS93 _ _ (qb89 _ _ hk72))) (by decide)).trans ((hg333 b21 4 0 0 (qS93 _ _ (qb89 _ _ hk72)) (by decide)).trans el59)) ((hg340 b21 4 0 2 (qr332 _ _ (qS93 _ _ (qb89 _ _ hk72))) (by decide)).trans ((hg333 b21 4 0 2 (qS93 _ _ (qb89 _ _ hk72)) (by decide)).trans el69)) ((hg340 b21 4 0 3 (qr332 _ _ (qS93 _ _ (qb89 _ _ hk72))) (by decide)).trans ((hg333 b21 4 0 3 (qS93 _ _ (qb89 _ _ hk72)) (by decide)).trans el79)) ((hg340 b21 4 0 4 (qr332 _ _ (qS93 _ _ (qb89 _ _ hk72))) (by decide)).trans ((hg333 b21 4 0 4 (qS93 _ _ (qb89 _ _ hk72)) (by decide)).trans el89)) ((hg340 b1 12 0 4 (qr332 _ _ (qS93 _ _ (qb89 _ _ hk70))) (by decide)).trans ((hg333 b1 12 0 4 (qS93 _ _ (qb89 _ _ hk70)) (by decide)).trans el99)) ((hg340 b36 10 0 0 (qr332 _ _ (qS93 _ _ (qb89 _ _ hk77))) (by decide)).trans ((hg333 b36 10 0 0 (qS93 _ _ (qb89 _ _ hk77)) (by decide)).trans el109)) ((hg340 b40 13 0 1 (qr332 _ _ (qS93 _ _ (qb89 _ _ hs_y68))) (by decide)).trans ((hg333 b40 13 0 1 (qS93 _ _ (qb89 _ _ hs_y68)) (by decide)).trans el119)) ((hg340 b40 13 0 10 (qr332 _ _ (qS93 _ _ (qb89 _ _ hs_y68))) (by decide)).trans ((hg333 b40 13 0 10 (qS93 _ _ (qb89 _ _ hs_y68)) (by decide)).trans el129)) ((hg340 b40 13 0 13 (qr332 _ _ (qS93 _ _ (qb89 _ _ hs_y68))) (by decide)).trans ((hg333 b40 13 0 13 (qS93 _ _ (qb89 _ _ hs_y68)) (by decide)).trans el139)) ((hg340 b40 13 0 14 (qr332 _ _ (qS93 _ _ (qb89 _ _ hs_y68))) (by decide)).trans ((hg333 b40 13 0 14 (qS93 _ _ (qb89 _ _ hs_y68)) (by decide)).trans el149)) ((hg340 b40 13 0 12 (qr332 _ _ (qS93 _ _ (qb89 _ _ hs_y68))) (by decide)).trans ((hg333 b40 13 0 12 (qS93 _ _ (qb89 _ _ hs_y68)) (by decide)).trans el159)) ((hg340 b36 10 0 1 (qr332 _ _ (qS93 _ _ (qb89 _ _ hk77))) (by decide)).trans ((hg333 b36 10 0 1 (qS93 _ _ (qb89 _ _ hk77)) (by decide)).trans exk9)) ((hg340 b40 13 0 2 (qr332 _ _ (qS93 _ _ (qb89 _ _ hs_y68))) (by decide)).trans ((hg333 b40 13 0 2 (qS93 _ _ (qb89 _ _ hs_y68)) (by decide)).trans emk9)) ((hg340 b1 12 0 12 (qr332 _ _ (qS93 _ _ (qb89 _ _ hk70))) (by decide)).trans ((hg333 b1 12 0 12 (qS93 _ _ (qb89 _ _ hk70)) (by decide)).trans ext9)) ((hg340 b40 13 0 3 (qr332 _ _ (qS93 _ _ (qb89 _ _ hs_y68))) (by decide)).trans ((hg333 b40 13 0 3 (qS93 _ _ (qb89 _ _ hs_y68)) (by decide)).trans emt9)) ((hg340 b37 5 0 3 (qr332 _ _ (qS93 _ _ (qb89 _ _ hk78))) (by decide)).trans ((hg333 b37 5 0 3 (qS93 _ _ (qb89 _ _ hk78)) (by decide)).trans exc9)) ((hg340 b40 13 0 69 (qr332 _ _ (qS93 _ _ (qb89 _ _ hs_y68))) (by decide)).trans ((hg333 b40 13 0 69 (qS93 _ _ (qb89 _ _ hs_y68)) (by decide)).trans emc9)) ((hg340 b39 0 0 2 (qr332 _ _ (qS93 _ _ (qb89 _ _ hk80))) (by decide)).trans ((hg333 b39 0 0 2 (qS93 _ _ (qb89 _ _ hk80)) (by decide)).trans exb9)) ((hg340 b40 13 0 16 (qr332 _ _ (qS93 _ _ (qb89 _ _ hs_y68))) (by decide)).trans ((hg333 b40 13 0 16 (qS93 _ _ (qb89 _ _ hs_y68)) (by decide)).trans emb9)) ((hg340 b1 12 0 16 (qr332 _ _ (qS93 _ _ (qb89 _ _ hk70))) (by decide)).trans ((hg333 b1 12 0 16 (qS93 _ _ (qb89 _ _ hk70)) (by decide)).trans exsh9)) ((hg340 b40 13 0 89 (qr332 _ _ (qS93 _ _ (qb89 _ _ hs_y68))) (by decide)).trans ((hg333 b40 13 0 89 (qS93 _ _ (qb89 _ _ hs_y68)) (by decide)).trans emsh9)) ((hg340 b1 12 0 17 (qr332 _ _ (qS93 _ _ (qb89 _ _ hk70))) (by decide)).trans ((hg333 b1 12 0 17 (qS93 _ _ (qb89 _ _ hk70)) (by decide)).trans exsp9)) ((hg340 b40 13 0 90 (qr332 _ _ (qS93 _ _ (qb89 _ _ hs_y68))) (by decide)).trans ((hg333 b40 13 0 90 (qS93 _ _ (qb89 _ _ hs_y68)) (by decide)).trans emsp9)) ((hg340 b40 13 0 17 (qr332 _ _ (qS93 _ _ (qb89 _ _ hs_y68))) (by decide)).trans ((hg333 b40 13 0 17 (qS93 _ _ (qb89 _ _ hs_y68)) (by decide)).trans emsm9)) ((hg340 b1 12 0 13 (qr332 _ _ (qS93 _ _ (qb89 _ _ hk70))) (by decide)).trans ((hg333 b1 12 0 13 (qS93 _ _ (qb89 _ _ hk70)) (by decide)).trans exfa9)) ((hg340 b40 13 0 25 (qr332 _ _ (qS93 _ _ (qb89 _ _ hs_y68))) (by decide)).trans ((hg333 b40 13 0 25 (qS93 _ _ (qb89 _ _ hs_y68)) (by decide)).trans emfa9)) ((hg340 b20 300 0 2 (qr332 _ _ (qS93 _ _ (qb89 _ _ hk71))) (by decide)).trans ((hg333 b20 300 0 2 (qS93 _ _ (qb89 _ _ hk71)) (by decide)).trans extn9)) ((hg340 b40 13 0 39 (qr332 _ _ (qS93 _ _ (qb89 _ _ hs_y68))) (by decide)).trans ((hg333 b40 13 0 39 (qS93 _ _ (qb89 _ _ hs_y68)) (by decide)).trans emtn9)) (xWn.m (xWn.m wn9 (qS93 _ _ (qb89 _ _ hk76)) (qS93 _ _ (qb89 _ _ hk83)) hg333 qr332 (by decide)) (qr332 _ _ (qS93 _ _ (qb89 _ _ hk76))) (qr332 _ _ (qS93 _ _ (qb89 _ _ hk83))) hg340 xLe.rf (by decide)) (by rw [(Eq.trans (xv_m hg340 (qr332 _ _ (qS93 _ _ (qb89 _ _ hk74))) (by decide) (by decide)) (xv_m hg333 (qS93 _ _ (qb89 _ _ hk74)) (by decide) (by decide))), (Eq.trans (xv_m hg340 (qr332 _ _ (qS93 _ _ (qb89 _ _ hk81))) (by decide) (by decide)) (xv_m hg333 (qS93 _ _ (qb89 _ _ hk81)) (by decide) (by decide)))]; exact wt9) (by rw [(Eq.trans (xv_m hg340 (qr332 _ _ (qS93 _ _ (qb89 _ _ hk75))) (by decide) (by decide)) (xv_m hg333 (qS93 _ _ (qb89 _ _ hk75)) (by decide) (by decide))), (Eq.trans (xv_m hg340 (qr332 _ _ (qS93 _ _ (qb89 _ _ hk82))) (by decide) (by decide)) (xv_m hg333 (qS93 _ _ (qb89 _ _ hk82)) (by decide) (by decide)))]; exact ld9) (by rw [(Eq.trans (xv_m hg340 (qr332 _ _ (qS93 _ _ (qb89 _ _ hk73))) (by decide) (by decide)) (xv_m hg333 (qS93 _ _ (qb89 _ _ hk73)) (by decide) (by decide))), (Eq.trans (xv_m hg340 (qr332 _ _ (qS93 _ _ (qb89 _ _ hs_b88))) (by decide) (by decide)) (xv_m hg333 (qS93 _ _ (qb89 _ _ hs_b88)) (by decide) (by decide)))]; exact sk9) (by rw [(Eq.trans (xv_m hg340 (qr332 _ _ (qS93 _ _ (qb89 _ _ hs_b86))) (by decide) (by decide)) (xv_m hg333 (qS93 _ _ (qb89 _ _ hs_b86)) (by decide) (by decide))), (Eq.trans (xv_m hg340 (qr332 _ _ (qS93 _ _ (qb89 _ _ hs_b87))) (by decide) (by decide)) (xv_m hg333 (qS93 _ _ (qb89 _ _ hs_b87)) (by decide) (by decide)))]; exact xTc.mono tc9 (by omega)) (dc9 + dcr332) (ds9 + dsr332) (by omega) (by omega) (by omega)
        · refine X_tableIn hK 851 15 (by decide) c98 (by decide) (by decide) dL_law_40 rfl (by decide) ?_
          refine X_aloadn hK (i := 1) 3 dL_law_851 rfl rfl ?_
          refine X_aloadn hK (i := 0) 4 dL_law_852 rfl rfl ?_
          refine X_iload hK (i := 4) 0 dL_law_853 rfl ?_
          refine X_iconst hK dL_law_855 ?_
          refine X_iadd hK dL_law_856 ?_
          refine X_scr hK hX hbl hbA hL (by omega) (by omega) dL_law_857 (fun z343 ez343 lz343 uz343 => ?_)
          refine X_aloadn hK (i := 0) 4 dL_law_858 rfl rfl ?_
          refine X_iload hK (i := 4) 0 dL_law_859 rfl ?_
          refine X_iconst hK dL_law_861 ?_
          refine X_iadd hK dL_law_862 ?_
          refine X_scr hK hX hbl hbA hL (by omega) (by omega) dL_law_863 (fun z344 ez344 lz344 uz344 => ?_)
          refine X_callV hK [.int (iI z343), .int (iI z344)] [] lk_L_91 (c_X11_told _ _ _ _ _ S93 g94 b1 z343 z344 (qS93 _ _ (qb89 _ _ hk70)) (by omega) (by omega) al9) (qS93 _ _ (qb89 _ _ hk70)) ⟨by decide, rfl⟩ dL_law_864 rfl rfl (by simp [Value.category]) (by decide) (by omega) (by omega) (by decide) (fun r345 S347 g346 pr345 qr345 hg346 => ?_)
          obtain ⟨rfl, z348, rfl, lz348, uz348⟩ := pr345
          refine X_st [.int (iI z348)] rfl ?_
          refine X_pop hK dL_law_867 rfl ?_
          refine X_aloadn hK (i := 2) 2 dL_law_868 rfl rfl ?_
          refine X_aloadn hK (i := 0) 4 dL_law_869 rfl rfl ?_
          refine X_iload hK (i := 4) 0 dL_law_870 rfl ?_
          refine X_iconst hK dL_law_872 ?_
          refine X_iadd hK dL_law_873 ?_
          refine X_scrK hK hX hbl hbA hL (by omega) (by omega) ez343 dL_law_874 ?_
          refine X_aloadn hK (i := 0) 4 dL_law_875 rfl rfl ?_
          refine X_iload hK (i := 4) 0 dL_law_876 rfl ?_
          refine X_iconst hK dL_law_878 ?_
          refine X_iadd hK dL_law_879 ?_
          refine X_scrK hK hX hbl hbA hL (by omega) (by omega) ez344 dL_law_880 ?_
          refine X_callV hK [.int (iI z343), .int (iI z344)] [] lk_L_94 (c_X12_told _ _ _ _ _ S93 g346 b40 z343 z344 (qS93 _ _ (qb89 _ _ hs_y68)) (by omega) (by omega) (xTw_m tw9 hg346 xLe.rf (by decide))) (qS93 _ _ (qb89 _ _ hs_y68)) ⟨by decide, rfl⟩ dL_law_881 rfl rfl (by simp [Value.category]) (by decide) (by omega) (by omega) (by decide) (fun r349 S351 g350 pr349 qr349 hg350 => ?_)
          obtain ⟨rfl, z352, rfl, lz352, uz352⟩ := pr349
          refine X_st [.int (iI z352)] rfl ?_
          refine X_pop hK dL_law_884 rfl ?_
          refine X_goto hK 1465 dL_law_885 (by decide) ?_
          refine X_iinc hK (i := 4) (z := i9) (n := 6) 0 [(4, .int (iI (i9 + 6))), (3, .ref b89), (2, .ref b40), (1, .ref b1), (0, .ref b)] dL_law_1465 rfl (by decide) rfl ?_
          refine X_goto hK 23 dL_law_1468 (by decide) ?_
          exact ih9 S93 qS93 g350 (i9 + 6) k9 t9 c9 b9 sh9 sp9 sm9 fa9 tn9 (by omega) (by omega) (by omega) (by omega) (by omega) (by omega) (by omega) (by omega) (by omega) (by omega) (xLs_mod (xLs_mod al9 hg346 (by decide)) hg350 (by decide)) si9 (xPi_m (xPi_m pi9 hg346 xLe.rf (by decide)) hg350 xLe.rf (by decide)) (xMp_m (xMp_m mp9 hg346 xLe.rf (by decide)) hg350 xLe.rf (by decide)) (xTw_m (xTw_m tw9 hg346 xLe.rf (by decide)) hg350 xLe.rf (by decide)) ((hg350 b1 12 0 0 (qS93 _ _ (qb89 _ _ hk70)) (by decide)).trans ((hg346 b1 12 0 0 (qS93 _ _ (qb89 _ _ hk70)) (by decide)).trans el09)) ((hg350 b1 12 0 3 (qS93 _ _ (qb89 _ _ hk70)) (by decide)).trans ((hg346 b1 12 0 3 (qS93 _ _ (qb89 _ _ hk70)) (by decide)).trans el19)) ((hg350 b1 12 0 1 (qS93 _ _ (qb89 _ _ hk70)) (by decide)).trans ((hg346 b1 12 0 1 (qS93 _ _ (qb89 _ _ hk70)) (by decide)).trans el29)) ((hg350 b38 6 0 1 (qS93 _ _ (qb89 _ _ hk79)) (by decide)).trans ((hg346 b38 6 0 1 (qS93 _ _ (qb89 _ _ hk79)) (by decide)).trans el39)) ((hg350 b1 12 0 2 (qS93 _ _ (qb89 _ _ hk70)) (by decide)).trans ((hg346 b1 12 0 2 (qS93 _ _ (qb89 _ _ hk70)) (by decide)).trans el49)) ((hg350 b21 4 0 0 (qS93 _ _ (qb89 _ _ hk72)) (by decide)).trans ((hg346 b21 4 0 0 (qS93 _ _ (qb89 _ _ hk72)) (by decide)).trans el59)) ((hg350 b21 4 0 2 (qS93 _ _ (qb89 _ _ hk72)) (by decide)).trans ((hg346 b21 4 0 2 (qS93 _ _ (qb89 _ _ hk72)) (by decide)).trans el69)) ((hg350 b21 4 0 3 (qS93 _ _ (qb89 _ _ hk72)) (by decide)).trans ((hg346 b21 4 0 3 (qS93 _ _ (qb89 _ _ hk72)) (by decide)).trans el79)) ((hg350 b21 4 0 4 (qS93 _ _ (qb89 _ _ hk72)) (by decide)).trans ((hg346 b21 4 0 4 (qS93 _ _ (qb89 _ _ hk72)) (by decide)).trans el89)) ((hg350 b1 12 0 4 (qS93 _ _ (qb89 _ _ hk70)) (by decide)).trans ((hg346 b1 12 0 4 (qS93 _ _ (qb89 _ _ hk70)) (by decide)).trans el99)) ((hg350 b36 10 0 0 (qS93 _ _ (qb89 _ _ hk77)) (by decide)).trans ((hg346 b36 10 0 0 (qS93 _ _ (qb89 _ _ hk77)) (by decide)).trans el109)) ((hg350 b40 13 0 1 (qS93 _ _ (qb89 _ _ hs_y68)) (by decide)).trans ((hg346 b40 13 0 1 (qS93 _ _ (qb89 _ _ hs_y68)) (by decide)).trans el119)) ((hg350 b40 13 0 10 (qS93 _ _ (qb89 _ _ hs_y68)) (by decide)).trans ((hg346 b40 13 0 10 (qS93 _ _ (qb89 _ _ hs_y68)) (by decide)).trans el129)) ((hg350 b40 13 0 13 (qS93 _ _ (qb89 _ _ hs_y68)) (by decide)).trans ((hg346 b40 13 0 13 (qS93 _ _ (qb89 _ _ hs_y68)) (by decide)).trans el139)) ((hg350 b40 13 0 14 (qS93 _ _ (qb89 _ _ hs_y68)) (by decide)).trans ((hg346 b40 13 0 14 (qS93 _ _ (qb89 _ _ hs_y68)) (by decide)).trans el149)) ((hg350 b40 13 0 12 (qS93 _ _ (qb89 _ _ hs_y68)) (by decide)).trans ((hg346 b40 13 0 12 (qS93 _ _ (qb89 _ _ hs_y68)) (by decide)).trans el159)) ((hg350 b36 10 0 1 (qS93 _ _ (qb89 _ _ hk77)) (by decide)).trans ((hg346 b36 10 0 1 (qS93 _ _ (qb89 _ _ hk77)) (by decide)).trans exk9)) ((hg350 b40 13 0 2 (qS93 _ _ (qb89 _ _ hs_y68)) (by decide)).trans ((hg346 b40 13 0 2 (qS93 _ _ (qb89 _ _ hs_y68)) (by decide)).trans emk9)) ((hg350 b1 12 0 12 (qS93 _ _ (qb89 _ _ hk70)) (by decide)).trans ((hg346 b1 12 0 12 (qS93 _ _ (qb89 _ _ hk70)) (by decide)).trans ext9)) ((hg350 b40 13 0 3 (qS93 _ _ (qb89 _ _ hs_y68)) (by decide)).trans ((hg346 b40 13 0 3 (qS93 _ _ (qb89 _ _ hs_y68)) (by decide)).trans emt9)) ((hg350 b37 5 0 3 (qS93 _ _ (qb89 _ _ hk78)) (by decide)).trans ((hg346 b37 5 0 3 (qS93 _ _ (qb89 _ _ hk78)) (by decide)).trans exc9)) ((hg350 b40 13 0 69 (qS93 _ _ (qb89 _ _ hs_y68)) (by decide)).trans ((hg346 b40 13 0 69 (qS93 _ _ (qb89 _ _ hs_y68)) (by decide)).trans emc9)) ((hg350 b39 0 0 2 (qS93 _ _ (qb89 _ _ hk80)) (by decide)).trans ((hg346 b39 0 0 2 (qS93 _ _ (qb89 _ _ hk80)) (by decide)).trans exb9)) ((hg350 b40 13 0 16 (qS93 _ _ (qb89 _ _ hs_y68)) (by decide)).trans ((hg346 b40 13 0 16 (qS93 _ _ (qb89 _ _ hs_y68)) (by decide)).trans emb9)) ((hg350 b1 12 0 16 (qS93 _ _ (qb89 _ _ hk70)) (by decide)).trans ((hg346 b1 12 0 16 (qS93 _ _ (qb89 _ _ hk70)) (by decide)).trans exsh9)) ((hg350 b40 13 0 89 (qS93 _ _ (qb89 _ _ hs_y68)) (by decide)).trans ((hg346 b40 13 0 89 (qS93 _ _ (qb89 _ _ hs_y68)) (by decide)).trans emsh9)) ((hg350 b1 12 0 17 (qS93 _ _ (qb89 _ _ hk70)) (by decide)).trans ((hg346 b1 12 0 17 (qS93 _ _ (qb89 _ _ hk70)) (by decide)).trans exsp9)) ((hg350 b40 13 0 90 (qS93 _ _ (qb89 _ _ hs_y68)) (by decide)).trans ((hg346 b40 13 0 90 (qS93 _ _ (qb89 _ _ hs_y68)) (by decide)).trans emsp9)) ((hg350 b40 13 0 17 (qS93 _ _ (qb89 _ _ hs_y68)) (by decide)).trans ((hg346 b40 13 0 17 (qS93 _ _ (qb89 _ _ hs_y68)) (by decide)).trans emsm9)) ((hg350 b1 12 0 13 (qS93 _ _ (qb89 _ _ hk70)) (by decide)).trans ((hg346 b1 12 0 13 (qS93 _ _ (qb89 _ _ hk70)) (by decide)).trans exfa9)) ((hg350 b40 13 0 25 (qS93 _ _ (qb89 _ _ hs_y68)) (by decide)).trans ((hg346 b40 13 0 25 (qS93 _ _ (qb89 _ _ hs_y68)) (by decide)).trans emfa9)) ((hg350 b20 300 0 2 (qS93 _ _ (qb89 _ _ hk71)) (by decide)).trans ((hg346 b20 300 0 2 (qS93 _ _ (qb89 _ _ hk71)) (by decide)).trans extn9)) ((hg350 b40 13 0 39 (qS93 _ _ (qb89 _ _ hs_y68)) (by decide)).trans ((hg346 b40 13 0 39 (qS93 _ _ (qb89 _ _ hs_y68)) (by decide)).trans emtn9)) (xWn.m (xWn.m wn9 (qS93 _ _ (qb89 _ _ hk76)) (qS93 _ _ (qb89 _ _ hk83)) hg346 xLe.rf (by decide)) (qS93 _ _ (qb89 _ _ hk76)) (qS93 _ _ (qb89 _ _ hk83)) hg350 xLe.rf (by decide)) (by rw [(Eq.trans (xv_m hg350 (qS93 _ _ (qb89 _ _ hk74)) (by decide) (by decide)) (xv_m hg346 (qS93 _ _ (qb89 _ _ hk74)) (by decide) (by decide))), (Eq.trans (xv_m hg350 (qS93 _ _ (qb89 _ _ hk81)) (by decide) (by decide)) (xv_m hg346 (qS93 _ _ (qb89 _ _ hk81)) (by decide) (by decide)))]; exact wt9) (by rw [(Eq.trans (xv_m hg350 (qS93 _ _ (qb89 _ _ hk75)) (by decide) (by decide)) (xv_m hg346 (qS93 _ _ (qb89 _ _ hk75)) (by decide) (by decide))), (Eq.trans (xv_m hg350 (qS93 _ _ (qb89 _ _ hk82)) (by decide) (by decide)) (xv_m hg346 (qS93 _ _ (qb89 _ _ hk82)) (by decide) (by decide)))]; exact ld9) (by rw [(Eq.trans (xv_m hg350 (qS93 _ _ (qb89 _ _ hk73)) (by decide) (by decide)) (xv_m hg346 (qS93 _ _ (qb89 _ _ hk73)) (by decide) (by decide))), (Eq.trans (xv_m hg350 (qS93 _ _ (qb89 _ _ hs_b88)) (by decide) (by decide)) (xv_m hg346 (qS93 _ _ (qb89 _ _ hs_b88)) (by decide) (by decide)))]; exact sk9) (by rw [(Eq.trans (xv_m hg350 (qS93 _ _ (qb89 _ _ hs_b86)) (by decide) (by decide)) (xv_m hg346 (qS93 _ _ (qb89 _ _ hs_b86)) (by decide) (by decide))), (Eq.trans (xv_m hg350 (qS93 _ _ (qb89 _ _ hs_b87)) (by decide) (by decide)) (xv_m hg346 (qS93 _ _ (qb89 _ _ hs_b87)) (by decide) (by decide)))]; exact xTc.mono tc9 (by omega)) dc9 ds9 (by omega) (by omega) (by omega)
        · refine X_tableIn hK 888 16 (by decide) c98 (by decide) (by decide) dL_law_40 rfl (by decide) ?_
          refine X_aloadn hK (i := 1) 3 dL_law_888 rfl rfl ?_
          refine X_callV hK [] [] lk_L_95 (c_X11_why _ _ _ _ _ S93 g94 b1 (qS93 _ _ (qb89 _ _ hk70))) (qS93 _ _ (qb89 _ _ hk70)) ⟨by decide, rfl⟩ dL_law_889 rfl rfl (by simp [Value.category]) (by decide) (by omega) (by omega) (by decide) (fun r353 S355 g354 pr353 qr353 hg354 => ?_)
          obtain ⟨rfl, rfl, z356, rfl, lz356, uz356⟩ := pr353
          refine X_st [.int (iI z356)] rfl ?_
          refine X_pop hK dL_law_892 rfl ?_
          refine X_aloadn hK (i := 2) 2 dL_law_893 rfl rfl ?_
          refine X_callV hK [] [] lk_L_98 (c_X12_why _ _ _ _ _ S93 g94 b40 (qS93 _ _ (qb89 _ _ hs_y68))) (qS93 _ _ (qb89 _ _ hs_y68)) ⟨by decide, rfl⟩ dL_law_894 rfl rfl (by simp [Value.category]) (by decide) (by omega) (by omega) (by decide) (fun r357 S359 g358 pr357 qr357 hg358 => ?_)
          obtain ⟨rfl, z360, rfl, lz360, uz360⟩ := pr357
          refine X_st [.int (iI z360)] rfl ?_
          refine X_pop hK dL_law_897 rfl ?_
          refine X_goto hK 1465 dL_law_898 (by decide) ?_
          refine X_iinc hK (i := 4) (z := i9) (n := 6) 0 [(4, .int (iI (i9 + 6))), (3, .ref b89), (2, .ref b40), (1, .ref b1), (0, .ref b)] dL_law_1465 rfl (by decide) rfl ?_
          refine X_goto hK 23 dL_law_1468 (by decide) ?_
          exact ih9 S93 qS93 g358 (i9 + 6) k9 t9 c9 b9 sh9 sp9 sm9 fa9 tn9 (by omega) (by omega) (by omega) (by omega) (by omega) (by omega) (by omega) (by omega) (by omega) (by omega) (xLs_mod al9 hg358 (by decide)) si9 (xPi_m pi9 hg358 xLe.rf (by decide)) (xMp_m mp9 hg358 xLe.rf (by decide)) (xTw_m tw9 hg358 xLe.rf (by decide)) ((hg358 b1 12 0 0 (qS93 _ _ (qb89 _ _ hk70)) (by decide)).trans el09) ((hg358 b1 12 0 3 (qS93 _ _ (qb89 _ _ hk70)) (by decide)).trans el19) ((hg358 b1 12 0 1 (qS93 _ _ (qb89 _ _ hk70)) (by decide)).trans el29) ((hg358 b38 6 0 1 (qS93 _ _ (qb89 _ _ hk79)) (by decide)).trans el39) ((hg358 b1 12 0 2 (qS93 _ _ (qb89 _ _ hk70)) (by decide)).trans el49) ((hg358 b21 4 0 0 (qS93 _ _ (qb89 _ _ hk72)) (by decide)).trans el59) ((hg358 b21 4 0 2 (qS93 _ _ (qb89 _ _ hk72)) (by decide)).trans el69) ((hg358 b21 4 0 3 (qS93 _ _ (qb89 _ _ hk72)) (by decide)).trans el79) ((hg358 b21 4 0 4 (qS93 _ _ (qb89 _ _ hk72)) (by decide)).trans el89) ((hg358 b1 12 0 4 (qS93 _ _ (qb89 _ _ hk70)) (by decide)).trans el99) ((hg358 b36 10 0 0 (qS93 _ _ (qb89 _ _ hk77)) (by decide)).trans el109) ((hg358 b40 13 0 1 (qS93 _ _ (qb89 _ _ hs_y68)) (by decide)).trans el119) ((hg358 b40 13 0 10 (qS93 _ _ (qb89 _ _ hs_y68)) (by decide)).trans el129) ((hg358 b40 13 0 13 (qS93 _ _ (qb89 _ _ hs_y68)) (by decide)).trans el139) ((hg358 b40 13 0 14 (qS93 _ _ (qb89 _ _ hs_y68)) (by decide)).trans el149) ((hg358 b40 13 0 12 (qS93 _ _ (qb89 _ _ hs_y68)) (by decide)).trans el159) ((hg358 b36 10 0 1 (qS93 _ _ (qb89 _ _ hk77)) (by decide)).trans exk9) ((hg358 b40 13 0 2 (qS93 _ _ (qb89 _ _ hs_y68)) (by decide)).trans emk9) ((hg358 b1 12 0 12 (qS93 _ _ (qb89 _ _ hk70)) (by decide)).trans ext9) ((hg358 b40 13 0 3 (qS93 _ _ (qb89 _ _ hs_y68)) (by decide)).trans emt9) ((hg358 b37 5 0 3 (qS93 _ _ (qb89 _ _ hk78)) (by decide)).trans exc9) ((hg358 b40 13 0 69 (qS93 _ _ (qb89 _ _ hs_y68)) (by decide)).trans emc9) ((hg358 b39 0 0 2 (qS93 _ _ (qb89 _ _ hk80)) (by decide)).trans exb9) ((hg358 b40 13 0 16 (qS93 _ _ (qb89 _ _ hs_y68)) (by decide)).trans emb9) ((hg358 b1 12 0 16 (qS93 _ _ (qb89 _ _ hk70)) (by decide)).trans exsh9) ((hg358 b40 13 0 89 (qS93 _ _ (qb89 _ _ hs_y68)) (by decide)).trans emsh9) ((hg358 b1 12 0 17 (qS93 _ _ (qb89 _ _ hk70)) (by decide)).trans exsp9) ((hg358 b40 13 0 90 (qS93 _ _ (qb89 _ _ hs_y68)) (by decide)).trans emsp9) ((hg358 b40 13 0 17 (qS93 _ _ (qb89 _ _ hs_y68)) (by decide)).trans emsm9) ((hg358 b1 12 0 13 (qS93 _ _ (qb89 _ _ hk70)) (by decide)).trans exfa9) ((hg358 b40 13 0 25 (qS93 _ _ (qb89 _ _ hs_y68)) (by decide)).trans emfa9) ((hg358 b20 300 0 2 (qS93 _ _ (qb89 _ _ hk71)) (by decide)).trans extn9) ((hg358 b40 13 0 39 (qS93 _ _ (qb89 _ _ hs_y68)) (by decide)).trans emtn9) (xWn.m wn9 (qS93 _ _ (qb89 _ _ hk76)) (qS93 _ _ (qb89 _ _ hk83)) hg358 xLe.rf (by decide)) (by rw [(xv_m hg358 (qS93 _ _ (qb89 _ _ hk74)) (by decide) (by decide)), (xv_m hg358 (qS93 _ _ (qb89 _ _ hk81)) (by decide) (by decide))]; exact wt9) (by rw [(xv_m hg358 (qS93 _ _ (qb89 _ _ hk75)) (by decide) (by decide)), (xv_m hg358 (qS93 _ _ (qb89 _ _ hk82)) (by decide) (by decide))]; exact ld9) (by rw [(xv_m hg358 (qS93 _ _ (qb89 _ _ hk73)) (by decide) (by decide)), (xv_m hg358 (qS93 _ _ (qb89 _ _ hs_b88)) (by decide) (by decide))]; exact sk9) (by rw [(xv_m hg358 (qS93 _ _ (qb89 _ _ hs_b86)) (by decide) (by decide)), (xv_m hg358 (qS93 _ _ (qb89 _ _ hs_b87)) (by decide) (by decide))]; exact xTc.mono tc9 (by omega)) dc9 ds9 (by omega) (by omega) (by omega)
        · refine X_tableIn hK 901 17 (by decide) c98 (by decide) (by decide) dL_law_40 rfl (by decide) ?_
          refine X_aloadn hK (i := 1) 3 dL_law_901 rfl rfl ?_
          refine X_callVU hK [] [] lk_L_99 (c_X11_close _ _ _ _ _ S93 g94 b1 t9 (qS93 _ _ (qb89 _ _ hk70)) (by omega) ext9 al9 si9) (qS93 _ _ (qb89 _ _ hk70)) ⟨by decide, rfl⟩ dL_law_902 rfl rfl (by simp [Value.category]) (by decide) (by omega) (by omega) (by decide) (fun r361 S363 g362 dcr361 dsr361 pr361 qr361 hg362 => ?_)
          obtain ⟨wr361, z364, rfl, lz364, uz364, k365, k366, k367, k368⟩ := pr361
          refine X_st [.int (iI z364)] rfl ?_
          refine X_pop hK dL_law_905 rfl ?_
          refine X_aloadn hK (i := 2) 2 dL_law_906 rfl rfl ?_
          refine X_callV hK [] [] lk_L_102 (c_X12_close _ _ _ _ _ S363 g362 b40 t9 (qr361 _ _ (qS93 _ _ (qb89 _ _ hs_y68))) (by omega) ((hg362 b40 13 0 3 (qS93 _ _ (qb89 _ _ hs_y68)) (by decide)).trans emt9) (xTw_m tw9 hg362 qr361 (by decide))) (qr361 _ _ (qS93 _ _ (qb89 _ _ hs_y68))) ⟨by decide, rfl⟩ dL_law_907 rfl rfl (by simp [Value.category]) (by decide) (by omega) (by omega) (by decide) (fun r369 S371 g370 pr369 qr369 hg370 => ?_)
          obtain ⟨rfl, z372, rfl, lz372, uz372, k373⟩ := pr369
          refine X_st [.int (iI z372)] rfl ?_
          refine X_pop hK dL_law_910 rfl ?_
          refine X_goto hK 1465 dL_law_911 (by decide) ?_
          refine X_iinc hK (i := 4) (z := i9) (n := 6) 0 [(4, .int (iI (i9 + 6))), (3, .ref b89), (2, .ref b40), (1, .ref b1), (0, .ref b)] dL_law_1465 rfl (by decide) rfl ?_
          refine X_goto hK 23 dL_law_1468 (by decide) ?_
          exact ih9 S363 (xLe.tr qS93 qr361) g370 (i9 + 6) k9 (if t9 < 400 then t9 + 1 else t9) c9 b9 sh9 sp9 sm9 fa9 tn9 (by omega) (by omega) (by first | omega | (split <;> omega)) (by omega) (by omega) (by omega) (by omega) (by omega) (by omega) (by omega) (xLs_mod k365 hg370 (by decide)) k366 (xPi_m (xPi_m pi9 hg362 qr361 (by decide)) hg370 xLe.rf (by decide)) (xMp_m (xMp_m mp9 hg362 qr361 (by decide)) hg370 xLe.rf (by decide)) (xTw_m (xTw_m tw9 hg362 qr361 (by decide)) hg370 xLe.rf (by decide)) ((hg370 b1 12 0 0 (qr361 _ _ (qS93 _ _ (qb89 _ _ hk70))) (by decide)).trans ((hg362 b1 12 0 0 (qS93 _ _ (qb89 _ _ hk70)) (by decide)).trans el09)) ((hg370 b1 12 0 3 (qr361 _ _ (qS93 _ _ (qb89 _ _ hk70))) (by decide)).trans ((hg362 b1 12 0 3 (qS93 _ _ (qb89 _ _ hk70)) (by decide)).trans el19)) ((hg370 b1 12 0 1 (qr361 _ _ (qS93 _ _ (qb89 _ _ hk70))) (by decide)).trans ((hg362 b1 12 0 1 (qS93 _ _ (qb89 _ _ hk70)) (by decide)).trans el29)) ((hg370 b38 6 0 1 (qr361 _ _ (qS93 _ _ (qb89 _ _ hk79))) (by decide)).trans ((hg362 b38 6 0 1 (qS93 _ _ (qb89 _ _ hk79)) (by decide)).trans el39)) ((hg370 b1 12 0 2 (qr361 _ _ (qS93 _ _ (qb89 _ _ hk70))) (by decide)).trans ((hg362 b1 12 0 2 (qS93 _ _ (qb89 _ _ hk70)) (by decide)).trans el49)) ((hg370 b21 4 0 0 (qr361 _ _ (qS93 _ _ (qb89 _ _ hk72))) (by decide)).trans ((hg362 b21 4 0 0 (qS93 _ _ (qb89 _ _ hk72)) (by decide)).trans el59)) ((hg370 b21 4 0 2 (qr361 _ _ (qS93 _ _ (qb89 _ _ hk72))) (by decide)).trans ((hg362 b21 4 0 2 (qS93 _ _ (qb89 _ _ hk72)) (by decide)).trans el69)) ((hg370 b21 4 0 3 (qr361 _ _ (qS93 _ _ (qb89 _ _ hk72))) (by decide)).trans ((hg362 b21 4 0 3 (qS93 _ _ (qb89 _ _ hk72)) (by decide)).trans el79)) ((hg370 b21 4 0 4 (qr361 _ _ (qS93 _ _ (qb89 _ _ hk72))) (by decide)).trans ((hg362 b21 4 0 4 (qS93 _ _ (qb89 _ _ hk72)) (by decide)).trans el89)) ((hg370 b1 12 0 4 (qr361 _ _ (qS93 _ _ (qb89 _ _ hk70))) (by decide)).trans ((hg362 b1 12 0 4 (qS93 _ _ (qb89 _ _ hk70)) (by decide)).trans el99)) ((hg370 b36 10 0 0 (qr361 _ _ (qS93 _ _ (qb89 _ _ hk77))) (by decide)).trans ((hg362 b36 10 0 0 (qS93 _ _ (qb89 _ _ hk77)) (by decide)).trans el109)) ((hg370 b40 13 0 1 (qr361 _ _ (qS93 _ _ (qb89 _ _ hs_y68))) (by decide)).trans ((hg362 b40 13 0 1 (qS93 _ _ (qb89 _ _ hs_y68)) (by decide)).trans el119)) ((hg370 b40 13 0 10 (qr361 _ _ (qS93 _ _ (qb89 _ _ hs_y68))) (by decide)).trans ((hg362 b40 13 0 10 (qS93 _ _ (qb89 _ _ hs_y68)) (by decide)).trans el129)) ((hg370 b40 13 0 13 (qr361 _ _ (qS93 _ _ (qb89 _ _ hs_y68))) (by decide)).trans ((hg362 b40 13 0 13 (qS93 _ _ (qb89 _ _ hs_y68)) (by decide)).trans el139)) ((hg370 b40 13 0 14 (qr361 _ _ (qS93 _ _ (qb89 _ _ hs_y68))) (by decide)).trans ((hg362 b40 13 0 14 (qS93 _ _ (qb89 _ _ hs_y68)) (by decide)).trans el149)) ((hg370 b40 13 0 12 (qr361 _ _ (qS93 _ _ (qb89 _ _ hs_y68))) (by decide)).trans ((hg362 b40 13 0 12 (qS93 _ _ (qb89 _ _ hs_y68)) (by decide)).trans el159)) ((hg370 b36 10 0 1 (qr361 _ _ (qS93 _ _ (qb89 _ _ hk77))) (by decide)).trans ((hg362 b36 10 0 1 (qS93 _ _ (qb89 _ _ hk77)) (by decide)).trans exk9)) ((hg370 b40 13 0 2 (qr361 _ _ (qS93 _ _ (qb89 _ _ hs_y68))) (by decide)).trans ((hg362 b40 13 0 2 (qS93 _ _ (qb89 _ _ hs_y68)) (by decide)).trans emk9)) ((hg370 b1 12 0 12 (qr361 _ _ (qS93 _ _ (qb89 _ _ hk70))) (by decide)).trans k368) k373 ((hg370 b37 5 0 3 (qr361 _ _ (qS93 _ _ (qb89 _ _ hk78))) (by decide)).trans ((hg362 b37 5 0 3 (qS93 _ _ (qb89 _ _ hk78)) (by decide)).trans exc9)) ((hg370 b40 13 0 69 (qr361 _ _ (qS93 _ _ (qb89 _ _ hs_y68))) (by decide)).trans ((hg362 b40 13 0 69 (qS93 _ _ (qb89 _ _ hs_y68)) (by decide)).trans emc9)) ((hg370 b39 0 0 2 (qr361 _ _ (qS93 _ _ (qb89 _ _ hk80))) (by decide)).trans ((hg362 b39 0 0 2 (qS93 _ _ (qb89 _ _ hk80)) (by decide)).trans exb9)) ((hg370 b40 13 0 16 (qr361 _ _ (qS93 _ _ (qb89 _ _ hs_y68))) (by decide)).trans ((hg362 b40 13 0 16 (qS93 _ _ (qb89 _ _ hs_y68)) (by decide)).trans emb9)) ((hg370 b1 12 0 16 (qr361 _ _ (qS93 _ _ (qb89 _ _ hk70))) (by decide)).trans ((hg362 b1 12 0 16 (qS93 _ _ (qb89 _ _ hk70)) (by decide)).trans exsh9)) ((hg370 b40 13 0 89 (qr361 _ _ (qS93 _ _ (qb89 _ _ hs_y68))) (by decide)).trans ((hg362 b40 13 0 89 (qS93 _ _ (qb89 _ _ hs_y68)) (by decide)).trans emsh9)) ((hg370 b1 12 0 17 (qr361 _ _ (qS93 _ _ (qb89 _ _ hk70))) (by decide)).trans ((hg362 b1 12 0 17 (qS93 _ _ (qb89 _ _ hk70)) (by decide)).trans exsp9)) ((hg370 b40 13 0 90 (qr361 _ _ (qS93 _ _ (qb89 _ _ hs_y68))) (by decide)).trans ((hg362 b40 13 0 90 (qS93 _ _ (qb89 _ _ hs_y68)) (by decide)).trans emsp9)) ((hg370 b40 13 0 17 (qr361 _ _ (qS93 _ _ (qb89 _ _ hs_y68))) (by decide)).trans ((hg362 b40 13 0 17 (qS93 _ _ (qb89 _ _ hs_y68)) (by decide)).trans emsm9)) ((hg370 b1 12 0 13 (qr361 _ _ (qS93 _ _ (qb89 _ _ hk70))) (by decide)).trans ((hg362 b1 12 0 13 (qS93 _ _ (qb89 _ _ hk70)) (by decide)).trans exfa9)) ((hg370 b40 13 0 25 (qr361 _ _ (qS93 _ _ (qb89 _ _ hs_y68))) (by decide)).trans ((hg362 b40 13 0 25 (qS93 _ _ (qb89 _ _ hs_y68)) (by decide)).trans emfa9)) ((hg370 b20 300 0 2 (qr361 _ _ (qS93 _ _ (qb89 _ _ hk71))) (by decide)).trans ((hg362 b20 300 0 2 (qS93 _ _ (qb89 _ _ hk71)) (by decide)).trans extn9)) ((hg370 b40 13 0 39 (qr361 _ _ (qS93 _ _ (qb89 _ _ hs_y68))) (by decide)).trans ((hg362 b40 13 0 39 (qS93 _ _ (qb89 _ _ hs_y68)) (by decide)).trans emtn9)) (xWn.m (xWn.m wn9 (qS93 _ _ (qb89 _ _ hk76)) (qS93 _ _ (qb89 _ _ hk83)) hg362 qr361 (by decide)) (qr361 _ _ (qS93 _ _ (qb89 _ _ hk76))) (qr361 _ _ (qS93 _ _ (qb89 _ _ hk83))) hg370 xLe.rf (by decide)) (by rw [(Eq.trans (xv_m hg370 (qr361 _ _ (qS93 _ _ (qb89 _ _ hk74))) (by decide) (by decide)) (xv_m hg362 (qS93 _ _ (qb89 _ _ hk74)) (by decide) (by decide))), (Eq.trans (xv_m hg370 (qr361 _ _ (qS93 _ _ (qb89 _ _ hk81))) (by decide) (by decide)) (xv_m hg362 (qS93 _ _ (qb89 _ _ hk81)) (by decide) (by decide)))]; exact wt9) (by rw [(Eq.trans (xv_m hg370 (qr361 _ _ (qS93 _ _ (qb89 _ _ hk75))) (by decide) (by decide)) (xv_m hg362 (qS93 _ _ (qb89 _ _ hk75)) (by decide) (by decide))), (Eq.trans (xv_m hg370 (qr361 _ _ (qS93 _ _ (qb89 _ _ hk82))) (by decide) (by decide)) (xv_m hg362 (qS93 _ _ (qb89 _ _ hk82)) (by decide) (by decide)))]; exact ld9) (by rw [(Eq.trans (xv_m hg370 (qr361 _ _ (qS93 _ _ (qb89 _ _ hk73))) (by decide) (by decide)) (xv_m hg362 (qS93 _ _ (qb89 _ _ hk73)) (by decide) (by decide))), (Eq.trans (xv_m hg370 (qr361 _ _ (qS93 _ _ (qb89 _ _ hs_b88))) (by decide) (by decide)) (xv_m hg362 (qS93 _ _ (qb89 _ _ hs_b88)) (by decide) (by decide)))]; exact sk9) (by rw [(Eq.trans (xv_m hg370 (qr361 _ _ (qS93 _ _ (qb89 _ _ hs_b86))) (by decide) (by decide)) (xv_m hg362 (qS93 _ _ (qb89 _ _ hs_b86)) (by decide) (by decide))), (Eq.trans (xv_m hg370 (qr361 _ _ (qS93 _ _ (qb89 _ _ hs_b87))) (by decide) (by decide)) (xv_m hg362 (qS93 _ _ (qb89 _ _ hs_b87)) (by decide) (by decide)))]; exact xTc.mono tc9 (by omega)) (dc9 + dcr361) (ds9 + dsr361) (by omega) (by omega) (by omega)
        · refine X_tableIn hK 914 18 (by decide) c98 (by decide) (by decide) dL_law_40 rfl (by decide) ?_
          refine X_aloadn hK (i := 1) 3 dL_law_914 rfl rfl ?_
          refine X_aloadn hK (i := 0) 4 dL_law_915 rfl rfl ?_
          refine X_iload hK (i := 4) 0 dL_law_916 rfl ?_
          refine X_iconst hK dL_law_918 ?_
          refine X_iadd hK dL_law_919 ?_
          refine X_scr hK hX hbl hbA hL (by omega) (by omega) dL_law_920 (fun z374 ez374 lz374 uz374 => ?_)
          refine X_aloadn hK (i := 0) 4 dL_law_921 rfl rfl ?_
          refine X_iload hK (i := 4) 0 dL_law_922 rfl ?_
          refine X_iconst hK dL_law_924 ?_
          refine X_iadd hK dL_law_925 ?_
          refine X_scr hK hX hbl hbA hL (by omega) (by omega) dL_law_926 (fun z375 ez375 lz375 uz375 => ?_)
          refine X_aloadn hK (i := 3) 1 dL_law_927 rfl rfl ?_
          refine X_callSW hK hts hT hp3 (n := 4) [.ref b1, .int (iI z374), .int (iI z375), .ref b89] [] gl_L_of (by decide +kernel) (cw_L_of _ hst _ _ _ _ S93 g94 b1 b89 z374 z375 (qS93 _ _ (qb89 _ _ hk70)) (qS93 _ _ hs_b89) (by omega) (by omega) al9) dL_law_928 rfl rfl (by simp [Value.category]) (by decide) (by omega) (by omega) (by decide) (fun r377 S378 g379 pr377 qr377 hg379 => ?_)
          obtain ⟨rfl, z376, rfl⟩ := pr377
          refine X_st [.int (iI z376)] rfl ?_
          refine X_istore hK (i := 5) [(5, .int (iI z376)), (4, .int (iI i9)), (3, .ref b89), (2, .ref b40), (1, .ref b1), (0, .ref b)] dL_law_931 (by decide) rfl ?_
          refine X_aloadn hK (i := 2) 3 dL_law_933 rfl rfl ?_
          refine X_aloadn hK (i := 0) 5 dL_law_934 rfl rfl ?_
          refine X_iload hK (i := 4) 1 dL_law_935 rfl ?_
          refine X_iconst hK dL_law_937 ?_
          refine X_iadd hK dL_law_938 ?_
          refine X_scrK hK hX hbl hbA hL (by omega) (by omega) ez374 dL_law_939 ?_
          refine X_aloadn hK (i := 0) 5 dL_law_940 rfl rfl ?_
          refine X_iload hK (i := 4) 1 dL_law_941 rfl ?_
          refine X_iconst hK dL_law_943 ?_
          refine X_iadd hK dL_law_944 ?_
          refine X_scrK hK hX hbl hbA hL (by omega) (by omega) ez375 dL_law_945 ?_
          refine X_callV hK [.int (iI z374), .int (iI z375)] [] lk_L_108 (c_X12_of _ _ _ _ _ S93 g379 b40 z374 z375 (qS93 _ _ (qb89 _ _ hs_y68)) (by omega) (by omega)) (qS93 _ _ (qb89 _ _ hs_y68)) ⟨by decide, rfl⟩ dL_law_946 rfl rfl (by simp [Value.category]) (by decide) (by omega) (by omega) (by decide) (fun r380 S382 g381 pr380 qr380 hg381 => ?_)
          obtain ⟨rfl, z383, rfl, lz383, uz383⟩ := pr380
          refine X_st [.int (iI z383)] rfl ?_
          refine X_istore hK (i := 6) [(6, .int (iI z383)), (5, .int (iI z376)), (4, .int (iI i9)), (3, .ref b89), (2, .ref b40), (1, .ref b1), (0, .ref b)] dL_law_949 (by decide) rfl ?_
          refine X_goto hK 1465 dL_law_951 (by decide) ?_
          refine X_iinc hK (i := 4) (z := i9) (n := 6) 2 [(4, .int (iI (i9 + 6))), (6, .int (iI z383)), (5, .int (iI z376)), (3, .ref b89), (2, .ref b40), (1, .ref b1), (0, .ref b)] dL_law_1465 rfl (by decide) rfl ?_
          refine X_goto hK 23 dL_law_1468 (by decide) ?_
          refine X_lv [(4, .int (iI (i9 + 6))), (3, .ref b89), (2, .ref b40), (1, .ref b1), (0, .ref b)] [0, 3, 4, 5, 6] rfl ?_
          exact ih9 S93 qS93 g381 (i9 + 6) k9 t9 c9 b9 sh9 sp9 sm9 fa9 tn9 (by omega) (by omega) (by omega) (by omega) (by omega) (by omega) (by omega) (by omega) (by omega) (by omega) (xLs_mod (xLs_mod al9 hg379 (by decide)) hg381 (by decide)) si9 (xPi_m (xPi_m pi9 hg379 xLe.rf (by decide)) hg381 xLe.rf (by decide)) (xMp_m (xMp_m mp9 hg379 xLe.rf (by decide)) hg381 xLe.rf (by decide)) (xTw_m (xTw_m tw9 hg379 xLe.rf (by decide)) hg381 xLe.rf (by decide)) ((hg381 b1 12 0 0 (qS93 _ _ (qb89 _ _ hk70)) (by decide)).trans ((hg379 b1 12 0 0 (qS93 _ _ (qb89 _ _ hk70)) (by decide)).trans el09)) ((hg381 b1 12 0 3 (qS93 _ _ (qb89 _ _ hk70)) (by decide)).trans ((hg379 b1 12 0 3 (qS93 _ _ (qb89 _ _ hk70)) (by decide)).trans el19)) ((hg381 b1 12 0 1 (qS93 _ _ (qb89 _ _ hk70)) (by decide)).trans ((hg379 b1 12 0 1 (qS93 _ _ (qb89 _ _ hk70)) (by decide)).trans el29)) ((hg381 b38 6 0 1 (qS93 _ _ (qb89 _ _ hk79)) (by decide)).trans ((hg379 b38 6 0 1 (qS93 _ _ (qb89 _ _ hk79)) (by decide)).trans el39)) ((hg381 b1 12 0 2 (qS93 _ _ (qb89 _ _ hk70)) (by decide)).trans ((hg379 b1 12 0 2 (qS93 _ _ (qb89 _ _ hk70)) (by decide)).trans el49)) ((hg381 b21 4 0 0 (qS93 _ _ (qb89 _ _ hk72)) (by decide)).trans ((hg379 b21 4 0 0 (qS93 _ _ (qb89 _ _ hk72)) (by decide)).trans el59)) ((hg381 b21 4 0 2 (qS93 _ _ (qb89 _ _ hk72)) (by decide)).trans ((hg379 b21 4 0 2 (qS93 _ _ (qb89 _ _ hk72)) (by decide)).trans el69)) ((hg381 b21 4 0 3 (qS93 _ _ (qb89 _ _ hk72)) (by decide)).trans ((hg379 b21 4 0 3 (qS93 _ _ (qb89 _ _ hk72)) (by decide)).trans el79)) ((hg381 b21 4 0 4 (qS93 _ _ (qb89 _ _ hk72)) (by decide)).trans ((hg379 b21 4 0 4 (qS93 _ _ (qb89 _ _ hk72)) (by decide)).trans el89)) ((hg381 b1 12 0 4 (qS93 _ _ (qb89 _ _ hk70)) (by decide)).trans ((hg379 b1 12 0 4 (qS93 _ _ (qb89 _ _ hk70)) (by decide)).trans el99)) ((hg381 b36 10 0 0 (qS93 _ _ (qb89 _ _ hk77)) (by decide)).trans ((hg379 b36 10 0 0 (qS93 _ _ (qb89 _ _ hk77)) (by decide)).trans el109)) ((hg381 b40 13 0 1 (qS93 _ _ (qb89 _ _ hs_y68)) (by decide)).trans ((hg379 b40 13 0 1 (qS93 _ _ (qb89 _ _ hs_y68)) (by decide)).trans el119)) ((hg381 b40 13 0 10 (qS93 _ _ (qb89 _ _ hs_y68)) (by decide)).trans ((hg379 b40 13 0 10 (qS93 _ _ (qb89 _ _ hs_y68)) (by decide)).trans el129)) ((hg381 b40 13 0 13 (qS93 _ _ (qb89 _ _ hs_y68)) (by decide)).trans ((hg379 b40 13 0 13 (qS93 _ _ (qb89 _ _ hs_y68)) (by decide)).trans el139)) ((hg381 b40 13 0 14 (qS93 _ _ (qb89 _ _ hs_y68)) (by decide)).trans ((hg379 b40 13 0 14 (qS93 _ _ (qb89 _ _ hs_y68)) (by decide)).trans el149)) ((hg381 b40 13 0 12 (qS93 _ _ (qb89 _ _ hs_y68)) (by decide)).trans ((hg379 b40 13 0 12 (qS93 _ _ (qb89 _ _ hs_y68)) (by decide)).trans el159)) ((hg381 b36 10 0 1 (qS93 _ _ (qb89 _ _ hk77)) (by decide)).trans ((hg379 b36 10 0 1 (qS93 _ _ (qb89 _ _ hk77)) (by decide)).trans exk9)) ((hg381 b40 13 0 2 (qS93 _ _ (qb89 _ _ hs_y68)) (by decide)).trans ((hg379 b40 13 0 2 (qS93 _ _ (qb89 _ _ hs_y68)) (by decide)).trans emk9)) ((hg381 b1 12 0 12 (qS93 _ _ (qb89 _ _ hk70)) (by decide)).trans ((hg379 b1 12 0 12 (qS93 _ _ (qb89 _ _ hk70)) (by decide)).trans ext9)) ((hg381 b40 13 0 3 (qS93 _ _ (qb89 _ _ hs_y68)) (by decide)).trans ((hg379 b40 13 0 3 (qS93 _ _ (qb89 _ _ hs_y68)) (by decide)).trans emt9)) ((hg381 b37 5 0 3 (qS93 _ _ (qb89 _ _ hk78)) (by decide)).trans ((hg379 b37 5 0 3 (qS93 _ _ (qb89 _ _ hk78)) (by decide)).trans exc9)) ((hg381 b40 13 0 69 (qS93 _ _ (qb89 _ _ hs_y68)) (by decide)).trans ((hg379 b40 13 0 69 (qS93 _ _ (qb89 _ _ hs_y68)) (by decide)).trans emc9)) ((hg381 b39 0 0 2 (qS93 _ _ (qb89 _ _ hk80)) (by decide)).trans ((hg379 b39 0 0 2 (qS93 _ _ (qb89 _ _ hk80)) (by decide)).trans exb9)) ((hg381 b40 13 0 16 (qS93 _ _ (qb89 _ _ hs_y68)) (by decide)).trans ((hg379 b40 13 0 16 (qS93 _ _ (qb89 _ _ hs_y68)) (by decide)).trans emb9)) ((hg381 b1 12 0 16 (qS93 _ _ (qb89 _ _ hk70)) (by decide)).trans ((hg379 b1 12 0 16 (qS93 _ _ (qb89 _ _ hk70)) (by decide)).trans exsh9)) ((hg381 b40 13 0 89 (qS93 _ _ (qb89 _ _ hs_y68)) (by decide)).trans ((hg379 b40 13 0 89 (qS93 _ _ (qb89 _ _ hs_y68)) (by decide)).trans emsh9)) ((hg381 b1 12 0 17 (qS93 _ _ (qb89 _ _ hk70)) (by decide)).trans ((hg379 b1 12 0 17 (qS93 _ _ (qb89 _ _ hk70)) (by decide)).trans exsp9)) ((hg381 b40 13 0 90 (qS93 _ _ (qb89 _ _ hs_y68)) (by decide)).trans ((hg379 b40 13 0 90 (qS93 _ _ (qb89 _ _ hs_y68)) (by decide)).trans emsp9)) ((hg381 b40 13 0 17 (qS93 _ _ (qb89 _ _ hs_y68)) (by decide)).trans ((hg379 b40 13 0 17 (qS93 _ _ (qb89 _ _ hs_y68)) (by decide)).trans emsm9)) ((hg381 b1 12 0 13 (qS93 _ _ (qb89 _ _ hk70)) (by decide)).trans ((hg379 b1 12 0 13 (qS93 _ _ (qb89 _ _ hk70)) (by decide)).trans exfa9)) ((hg381 b40 13 0 25 (qS93 _ _ (qb89 _ _ hs_y68)) (by decide)).trans ((hg379 b40 13 0 25 (qS93 _ _ (qb89 _ _ hs_y68)) (by decide)).trans emfa9)) ((hg381 b20 300 0 2 (qS93 _ _ (qb89 _ _ hk71)) (by decide)).trans ((hg379 b20 300 0 2 (qS93 _ _ (qb89 _ _ hk71)) (by decide)).trans extn9)) ((hg381 b40 13 0 39 (qS93 _ _ (qb89 _ _ hs_y68)) (by decide)).trans ((hg379 b40 13 0 39 (qS93 _ _ (qb89 _ _ hs_y68)) (by decide)).trans emtn9)) (xWn.m (xWn.m wn9 (qS93 _ _ (qb89 _ _ hk76)) (qS93 _ _ (qb89 _ _ hk83)) hg379 xLe.rf (by decide)) (qS93 _ _ (qb89 _ _ hk76)) (qS93 _ _ (qb89 _ _ hk83)) hg381 xLe.rf (by decide)) (by rw [(Eq.trans (xv_m hg381 (qS93 _ _ (qb89 _ _ hk74)) (by decide) (by decide)) (xv_m hg379 (qS93 _ _ (qb89 _ _ hk74)) (by decide) (by decide))), (Eq.trans (xv_m hg381 (qS93 _ _ (qb89 _ _ hk81)) (by decide) (by decide)) (xv_m hg379 (qS93 _ _ (qb89 _ _ hk81)) (by decide) (by decide)))]; exact wt9) (by rw [(Eq.trans (xv_m hg381 (qS93 _ _ (qb89 _ _ hk75)) (by decide) (by decide)) (xv_m hg379 (qS93 _ _ (qb89 _ _ hk75)) (by decide) (by decide))), (Eq.trans (xv_m hg381 (qS93 _ _ (qb89 _ _ hk82)) (by decide) (by decide)) (xv_m hg379 (qS93 _ _ (qb89 _ _ hk82)) (by decide) (by decide)))]; exact ld9) (by rw [(Eq.trans (xv_m hg381 (qS93 _ _ (qb89 _ _ hk73)) (by decide) (by decide)) (xv_m hg379 (qS93 _ _ (qb89 _ _ hk73)) (by decide) (by decide))), (Eq.trans (xv_m hg381 (qS93 _ _ (qb89 _ _ hs_b88)) (by decide) (by decide)) (xv_m hg379 (qS93 _ _ (qb89 _ _ hs_b88)) (by decide) (by decide)))]; exact sk9) (by rw [(Eq.trans (xv_m hg381 (qS93 _ _ (qb89 _ _ hs_b86)) (by decide) (by decide)) (xv_m hg379 (qS93 _ _ (qb89 _ _ hs_b86)) (by decide) (by decide))), (Eq.trans (xv_m hg381 (qS93 _ _ (qb89 _ _ hs_b87)) (by decide) (by decide)) (xv_m hg379 (qS93 _ _ (qb89 _ _ hs_b87)) (by decide) (by decide)))]; exact xTc.mono tc9 (by omega)) (dc9 + 1) (ds9 + 6) (by omega) (by omega) (by omega)
        · refine X_tableIn hK 954 19 (by decide) c98 (by decide) (by decide) dL_law_40 rfl (by decide) ?_
          refine X_aloadn hK (i := 1) 3 dL_law_954 rfl rfl ?_
          refine X_aloadn hK (i := 0) 4 dL_law_955 rfl rfl ?_
          refine X_iload hK (i := 4) 0 dL_law_956 rfl ?_
          refine X_iconst hK dL_law_958 ?_
          refine X_iadd hK dL_law_959 ?_
          refine X_scr hK hX hbl hbA hL (by omega) (by omega) dL_law_960 (fun z384 ez384 lz384 uz384 => ?_)
          refine X_aloadn hK (i := 3) 1 dL_law_961 rfl rfl ?_
          refine X_callSW hK hts hT hp3 (n := 3) [.ref b1, .int (iI z384), .ref b89] [] gl_L_coin (by decide +kernel) (cw_L_coin _ hst _ _ _ _ S93 g94 b1 b89 z384 (qS93 _ _ (qb89 _ _ hk70)) (qS93 _ _ hs_b89) (by omega) al9) dL_law_962 rfl rfl (by simp [Value.category]) (by decide) (by omega) (by omega) (by decide) (fun r386 S387 g388 pr386 qr386 hg388 => ?_)
          obtain ⟨rfl, z385, rfl⟩ := pr386
          refine X_st [.int (iI z385)] rfl ?_
          refine X_istore hK (i := 5) [(5, .int (iI z385)), (4, .int (iI i9)), (3, .ref b89), (2, .ref b40), (1, .ref b1), (0, .ref b)] dL_law_965 (by decide) rfl ?_
          refine X_aloadn hK (i := 2) 3 dL_law_967 rfl rfl ?_
          refine X_aloadn hK (i := 0) 5 dL_law_968 rfl rfl ?_
          refine X_iload hK (i := 4) 1 dL_law_969 rfl ?_
          refine X_iconst hK dL_law_971 ?_
          refine X_iadd hK dL_law_972 ?_
          refine X_scrK hK hX hbl hbA hL (by omega) (by omega) ez384 dL_law_973 ?_
          refine X_callV hK [.int (iI z384)] [] lk_L_112 (c_X12_coin _ _ _ _ _ S93 g388 b40 z384 (qS93 _ _ (qb89 _ _ hs_y68)) (by omega)) (qS93 _ _ (qb89 _ _ hs_y68)) ⟨by decide, rfl⟩ dL_law_974 rfl rfl (by simp [Value.category]) (by decide) (by omega) (by omega) (by decide) (fun r389 S391 g390 pr389 qr389 hg390 => ?_)
          obtain ⟨rfl, z392, rfl, lz392, uz392⟩ := pr389
          refine X_st [.int (iI z392)] rfl ?_
          refine X_istore hK (i := 6) [(6, .int (iI z392)), (5, .int (iI z385)), (4, .int (iI i9)), (3, .ref b89), (2, .ref b40), (1, .ref b1), (0, .ref b)] dL_law_977 (by decide) rfl ?_
          refine X_goto hK 1465 dL_law_979 (by decide) ?_
          refine X_iinc hK (i := 4) (z := i9) (n := 6) 2 [(4, .int (iI (i9 + 6))), (6, .int (iI z392)), (5, .int (iI z385)), (3, .ref b89), (2, .ref b40), (1, .ref b1), (0, .ref b)] dL_law_1465 rfl (by decide) rfl ?_
          refine X_goto hK 23 dL_law_1468 (by decide) ?_
          refine X_lv [(4, .int (iI (i9 + 6))), (3, .ref b89), (2, .ref b40), (1, .ref b1), (0, .ref b)] [0, 3, 4, 5, 6] rfl ?_
          exact ih9 S93 qS93 g390 (i9 + 6) k9 t9 c9 b9 sh9 sp9 sm9 fa9 tn9 (by omega) (by omega) (by omega) (by omega) (by omega) (by omega) (by omega) (by omega) (by omega) (by omega) (xLs_mod (xLs_mod al9 hg388 (by decide)) hg390 (by decide)) si9 (xPi_m (xPi_m pi9 hg388 xLe.rf (by decide)) hg390 xLe.rf (by decide)) (xMp_m (xMp_m mp9 hg388 xLe.rf (by decide)) hg390 xLe.rf (by decide)) (xTw_m (xTw_m tw9 hg388 xLe.rf (by decide)) hg390 xLe.rf (by decide)) ((hg390 b1 12 0 0 (qS93 _ _ (qb89 _ _ hk70)) (by decide)).trans ((hg388 b1 12 0 0 (qS93 _ _ (qb89 _ _ hk70)) (by decide)).trans el09)) ((hg390 b1 12 0 3 (qS93 _ _ (qb89 _ _ hk70)) (by decide)).trans ((hg388 b1 12 0 3 (qS93 _ _ (qb89 _ _ hk70)) (by decide)).trans el19)) ((hg390 b1 12 0 1 (qS93 _ _ (qb89 _ _ hk70)) (by decide)).trans ((hg388 b1 12 0 1 (qS93 _ _ (qb89 _ _ hk70)) (by decide)).trans el29)) ((hg390 b38 6 0 1 (qS93 _ _ (qb89 _ _ hk79)) (by decide)).trans ((hg388 b38 6 0 1 (qS93 _ _ (qb89 _ _ hk79)) (by decide)).trans el39)) ((hg390 b1 12 0 2 (qS93 _ _ (qb89 _ _ hk70)) (by decide)).trans ((hg388 b1 12 0 2 (qS93 _ _ (qb89 _ _ hk70)) (by decide)).trans el49)) ((hg390 b21 4 0 0 (qS93 _ _ (qb89 _ _ hk72)) (by decide)).trans ((hg388 b21 4 0 0 (qS93 _ _ (qb89 _ _ hk72)) (by decide)).trans el59)) ((hg390 b21 4 0 2 (qS93 _ _ (qb89 _ _ hk72)) (by decide)).trans ((hg388 b21 4 0 2 (qS93 _ _ (qb89 _ _ hk72)) (by decide)).trans el69)) ((hg390 b21 4 0 3 (qS93 _ _ (qb89 _ _ hk72)) (by decide)).trans ((hg388 b21 4 0 3 (qS93 _ _ (qb89 _ _ hk72)) (by decide)).trans el79)) ((hg390 b21 4 0 4 (qS93 _ _ (qb89 _ _ hk72)) (by decide)).trans ((hg388 b21 4 0 4 (qS93 _ _ (qb89 _ _ hk72)) (by decide)).trans el89)) ((hg390 b1 12 0 4 (qS93 _ _ (qb89 _ _ hk70)) (by decide)).trans ((hg388 b1 12 0 4 (qS93 _ _ (qb89 _ _ hk70)) (by decide)).trans el99)) ((hg390 b36 10 0 0 (qS93 _ _ (qb89 _ _ hk77)) (by decide)).trans ((hg388 b36 10 0 0 (qS93 _ _ (qb89 _ _ hk77)) (by decide)).trans el109)) ((hg390 b40 13 0 1 (qS93 _ _ (qb89 _ _ hs_y68)) (by decide)).trans ((hg388 b40 13 0 1 (qS93 _ _ (qb89 _ _ hs_y68)) (by decide)).trans el119)) ((hg390 b40 13 0 10 (qS93 _ _ (qb89 _ _ hs_y68)) (by decide)).trans ((hg388 b40 13 0 10 (qS93 _ _ (qb89 _ _ hs_y68)) (by decide)).trans el129)) ((hg390 b40 13 0 13 (qS93 _ _ (qb89 _ _ hs_y68)) (by decide)).trans ((hg388 b40 13 0 13 (qS93 _ _ (qb89 _ _ hs_y68)) (by decide)).trans el139)) ((hg390 b40 13 0 14 (qS93 _ _ (qb89 _ _ hs_y68)) (by decide)).trans ((hg388 b40 13 0 14 (qS93 _ _ (qb89 _ _ hs_y68)) (by decide)).trans el149)) ((hg390 b40 13 0 12 (qS93 _ _ (qb89 _ _ hs_y68)) (by decide)).trans ((hg388 b40 13 0 12 (qS93 _ _ (qb89 _ _ hs_y68)) (by decide)).trans el159)) ((hg390 b36 10 0 1 (qS93 _ _ (qb89 _ _ hk77)) (by decide)).trans ((hg388 b36 10 0 1 (qS93 _ _ (qb89 _ _ hk77)) (by decide)).trans exk9)) ((hg390 b40 13 0 2 (qS93 _ _ (qb89 _ _ hs_y68)) (by decide)).trans ((hg388 b40 13 0 2 (qS93 _ _ (qb89 _ _ hs_y68)) (by decide)).trans emk9)) ((hg390 b1 12 0 12 (qS93 _ _ (qb89 _ _ hk70)) (by decide)).trans ((hg388 b1 12 0 12 (qS93 _ _ (qb89 _ _ hk70)) (by decide)).trans ext9)) ((hg390 b40 13 0 3 (qS93 _ _ (qb89 _ _ hs_y68)) (by decide)).trans ((hg388 b40 13 0 3 (qS93 _ _ (qb89 _ _ hs_y68)) (by decide)).trans emt9)) ((hg390 b37 5 0 3 (qS93 _ _ (qb89 _ _ hk78)) (by decide)).trans ((hg388 b37 5 0 3 (qS93 _ _ (qb89 _ _ hk78)) (by decide)).trans exc9)) ((hg390 b40 13 0 69 (qS93 _ _ (qb89 _ _ hs_y68)) (by decide)).trans ((hg388 b40 13 0 69 (qS93 _ _ (qb89 _ _ hs_y68)) (by decide)).trans emc9)) ((hg390 b39 0 0 2 (qS93 _ _ (qb89 _ _ hk80)) (by decide)).trans ((hg388 b39 0 0 2 (qS93 _ _ (qb89 _ _ hk80)) (by decide)).trans exb9)) ((hg390 b40 13 0 16 (qS93 _ _ (qb89 _ _ hs_y68)) (by decide)).trans ((hg388 b40 13 0 16 (qS93 _ _ (qb89 _ _ hs_y68)) (by decide)).trans emb9)) ((hg390 b1 12 0 16 (qS93 _ _ (qb89 _ _ hk70)) (by decide)).trans ((hg388 b1 12 0 16 (qS93 _ _ (qb89 _ _ hk70)) (by decide)).trans exsh9)) ((hg390 b40 13 0 89 (qS93 _ _ (qb89 _ _ hs_y68)) (by decide)).trans ((hg388 b40 13 0 89 (qS93 _ _ (qb89 _ _ hs_y68)) (by decide)).trans emsh9)) ((hg390 b1 12 0 17 (qS93 _ _ (qb89 _ _ hk70)) (by decide)).trans ((hg388 b1 12 0 17 (qS93 _ _ (qb89 _ _ hk70)) (by decide)).trans exsp9)) ((hg390 b40 13 0 90 (qS93 _ _ (qb89 _ _ hs_y68)) (by decide)).trans ((hg388 b40 13 0 90 (qS93 _ _ (qb89 _ _ hs_y68)) (by decide)).trans emsp9)) ((hg390 b40 13 0 17 (qS93 _ _ (qb89 _ _ hs_y68)) (by decide)).trans ((hg388 b40 13 0 17 (qS93 _ _ (qb89 _ _ hs_y68)) (by decide)).trans emsm9)) ((hg390 b1 12 0 13 (qS93 _ _ (qb89 _ _ hk70)) (by decide)).trans ((hg388 b1 12 0 13 (qS93 _ _ (qb89 _ _ hk70)) (by decide)).trans exfa9)) ((hg390 b40 13 0 25 (qS93 _ _ (qb89 _ _ hs_y68)) (by decide)).trans ((hg388 b40 13 0 25 (qS93 _ _ (qb89 _ _ hs_y68)) (by decide)).trans emfa9)) ((hg390 b20 300 0 2 (qS93 _ _ (qb89 _ _ hk71)) (by decide)).trans ((hg388 b20 300 0 2 (qS93 _ _ (qb89 _ _ hk71)) (by decide)).trans extn9)) ((hg390 b40 13 0 39 (qS93 _ _ (qb89 _ _ hs_y68)) (by decide)).trans ((hg388 b40 13 0 39 (qS93 _ _ (qb89 _ _ hs_y68)) (by decide)).trans emtn9)) (xWn.m (xWn.m wn9 (qS93 _ _ (qb89 _ _ hk76)) (qS93 _ _ (qb89 _ _ hk83)) hg388 xLe.rf (by decide)) (qS93 _ _ (qb89 _ _ hk76)) (qS93 _ _ (qb89 _ _ hk83)) hg390 xLe.rf (by decide)) (by rw [(Eq.trans (xv_m hg390 (qS93 _ _ (qb89 _ _ hk74)) (by decide) (by decide)) (xv_m hg388 (qS93 _ _ (qb89 _ _ hk74)) (by decide) (by decide))), (Eq.trans (xv_m hg390 (qS93 _ _ (qb89 _ _ hk81)) (by decide) (by decide)) (xv_m hg388 (qS93 _ _ (qb89 _ _ hk81)) (by decide) (by decide)))]; exact wt9) (by rw [(Eq.trans (xv_m hg390 (qS93 _ _ (qb89 _ _ hk75)) (by decide) (by decide)) (xv_m hg388 (qS93 _ _ (qb89 _ _ hk75)) (by decide) (by decide))), (Eq.trans (xv_m hg390 (qS93 _ _ (qb89 _ _ hk82)) (by decide) (by decide)) (xv_m hg388 (qS93 _ _ (qb89 _ _ hk82)) (by decide) (by decide)))]; exact ld9) (by rw [(Eq.trans (xv_m hg390 (qS93 _ _ (qb89 _ _ hk73)) (by decide) (by decide)) (xv_m hg388 (qS93 _ _ (qb89 _ _ hk73)) (by decide) (by decide))), (Eq.trans (xv_m hg390 (qS93 _ _ (qb89 _ _ hs_b88)) (by decide) (by decide)) (xv_m hg388 (qS93 _ _ (qb89 _ _ hs_b88)) (by decide) (by decide)))]; exact sk9) (by rw [(Eq.trans (xv_m hg390 (qS93 _ _ (qb89 _ _ hs_b86)) (by decide) (by decide)) (xv_m hg388 (qS93 _ _ (qb89 _ _ hs_b86)) (by decide) (by decide))), (Eq.trans (xv_m hg390 (qS93 _ _ (qb89 _ _ hs_b87)) (by decide) (by decide)) (xv_m hg388 (qS93 _ _ (qb89 _ _ hs_b87)) (by decide) (by decide)))]; exact xTc.mono tc9 (by omega)) (dc9 + 1) (ds9 + 6) (by omega) (by omega) (by omega)
        · refine X_tableIn hK 982 20 (by decide) c98 (by decide) (by decide) dL_law_40 rfl (by decide) ?_
          refine X_aloadn hK (i := 1) 3 dL_law_982 rfl rfl ?_
          refine X_aloadn hK (i := 0) 4 dL_law_983 rfl rfl ?_
          refine X_iload hK (i := 4) 0 dL_law_984 rfl ?_
          refine X_iconst hK dL_law_986 ?_
          refine X_iadd hK dL_law_987 ?_
          refine X_scr hK hX hbl hbA hL (by omega) (by omega) dL_law_988 (fun z393 ez393 lz393 uz393 => ?_)
          refine X_aloadn hK (i := 0) 4 dL_law_989 rfl rfl ?_
          refine X_iload hK (i := 4) 0 dL_law_990 rfl ?_
          refine X_iconst hK dL_law_992 ?_
          refine X_iadd hK dL_law_993 ?_
          refine X_scr hK hX hbl hbA hL (by omega) (by omega) dL_law_994 (fun z394 ez394 lz394 uz394 => ?_)
          refine X_aloadn hK (i := 0) 4 dL_law_995 rfl rfl ?_
          refine X_iload hK (i := 4) 0 dL_law_996 rfl ?_
          refine X_iconst hK dL_law_998 ?_
          refine X_iadd hK dL_law_999 ?_
          refine X_scr hK hX hbl hbA hL (by omega) (by omega) dL_law_1000 (fun z395 ez395 lz395 uz395 => ?_)
          refine X_aloadn hK (i := 0) 4 dL_law_1001 rfl rfl ?_
          refine X_iload hK (i := 4) 0 dL_law_1002 rfl ?_
          refine X_iconst hK dL_law_1004 ?_
          refine X_iadd hK dL_law_1005 ?_
          refine X_scr hK hX hbl hbA hL (by omega) (by omega) dL_law_1006 (fun z396 ez396 lz396 uz396 => ?_)
          refine X_callV hK [.int (iI z393), .int (iI z394), .int (iI z395), .int (iI z396)] [] lk_L_113 (c_X11_counted _ _ _ _ _ S93 g94 b1 z393 z394 z395 z396 b37 c9 t9 (qS93 _ _ (qb89 _ _ hk70)) (by omega) (by omega) (by omega) (by omega) el19 (qS93 _ _ (qb89 _ _ hk78)) (by omega) exc9 (by omega) ext9) (qS93 _ _ (qb89 _ _ hk70)) ⟨by decide, rfl⟩ dL_law_1007 rfl rfl (by simp [Value.category]) (by decide) (by omega) (by omega) (by decide) (fun r397 S399 g398 pr397 qr397 hg398 => ?_)
          obtain ⟨rfl, z400, rfl, lz400, uz400, k401, k402⟩ := pr397
          refine X_st [.int (iI z400)] rfl ?_
          refine X_pop hK dL_law_1010 rfl ?_
          refine X_aloadn hK (i := 2) 2 dL_law_1011 rfl rfl ?_
          refine X_aloadn hK (i := 0) 4 dL_law_1012 rfl rfl ?_
          refine X_iload hK (i := 4) 0 dL_law_1013 rfl ?_
          refine X_iconst hK dL_law_1015 ?_
          refine X_iadd hK dL_law_1016 ?_
          refine X_scrK hK hX hbl hbA hL (by omega) (by omega) ez393 dL_law_1017 ?_
          refine X_aloadn hK (i := 0) 4 dL_law_1018 rfl rfl ?_
          refine X_iload hK (i := 4) 0 dL_law_1019 rfl ?_
          refine X_iconst hK dL_law_1021 ?_
          refine X_iadd hK dL_law_1022 ?_
          refine X_scrK hK hX hbl hbA hL (by omega) (by omega) ez394 dL_law_1023 ?_
          refine X_aloadn hK (i := 0) 4 dL_law_1024 rfl rfl ?_
          refine X_iload hK (i := 4) 0 dL_law_1025 rfl ?_
          refine X_iconst hK dL_law_1027 ?_
          refine X_iadd hK dL_law_1028 ?_
          refine X_scrK hK hX hbl hbA hL (by omega) (by omega) ez395 dL_law_1029 ?_
          refine X_aloadn hK (i := 0) 4 dL_law_1030 rfl rfl ?_
          refine X_iload hK (i := 4) 0 dL_law_1031 rfl ?_
          refine X_iconst hK dL_law_1033 ?_
          refine X_iadd hK dL_law_1034 ?_
          refine X_scrK hK hX hbl hbA hL (by omega) (by omega) ez396 dL_law_1035 ?_
          refine X_callV hK [.int (iI z393), .int (iI z394), .int (iI z395), .int (iI z396)] [] lk_L_116 (c_X12_counted _ _ _ _ _ S93 g398 b40 z393 z394 z395 z396 c9 t9 (qS93 _ _ (qb89 _ _ hs_y68)) (by omega) (by omega) (by omega) (by omega) (by omega) ((hg398 b40 13 0 69 (qS93 _ _ (qb89 _ _ hs_y68)) (by decide)).trans emc9) (by omega) ((hg398 b40 13 0 3 (qS93 _ _ (qb89 _ _ hs_y68)) (by decide)).trans emt9)) (qS93 _ _ (qb89 _ _ hs_y68)) ⟨by decide, rfl⟩ dL_law_1036 rfl rfl (by simp [Value.category]) (by decide) (by omega) (by omega) (by decide) (fun r403 S405 g404 pr403 qr403 hg404 => ?_)
          obtain ⟨rfl, z406, rfl, lz406, uz406, k407, k408⟩ := pr403
          refine X_st [.int (iI z406)] rfl ?_
          refine X_pop hK dL_law_1039 rfl ?_
          refine X_goto hK 1465 dL_law_1040 (by decide) ?_
          refine X_iinc hK (i := 4) (z := i9) (n := 6) 0 [(4, .int (iI (i9 + 6))), (3, .ref b89), (2, .ref b40), (1, .ref b1), (0, .ref b)] dL_law_1465 rfl (by decide) rfl ?_
          refine X_goto hK 23 dL_law_1468 (by decide) ?_
          exact ih9 S93 qS93 g404 (i9 + 6) k9 t9 (if c9 < 60 ∧ 0 ≤ z393 ∧ z393 ≤ 3 ∧ 0 ≤ z394 ∧ z394 ≤ 9 ∧ 0 ≤ z395 ∧ z395 < t9 ∧ 0 ≤ z396 ∧ z396 ≤ 10000 then c9 + 1 else c9) b9 sh9 sp9 sm9 fa9 tn9 (by omega) (by omega) (by omega) (by first | omega | (split <;> omega)) (by omega) (by omega) (by omega) (by omega) (by omega) (by omega) (xLs_mod (xLs_mod al9 hg398 (by decide)) hg404 (by decide)) si9 (xPi_m (xPi_m pi9 hg398 xLe.rf (by decide)) hg404 xLe.rf (by decide)) (xMp_m (xMp_m mp9 hg398 xLe.rf (by decide)) hg404 xLe.rf (by decide)) (xTw_m (xTw_m tw9 hg398 xLe.rf (by decide)) hg404 xLe.rf (by decide)) ((hg404 b1 12 0 0 (qS93 _ _ (qb89 _ _ hk70)) (by decide)).trans ((hg398 b1 12 0 0 (qS93 _ _ (qb89 _ _ hk70)) (by decide)).trans el09)) ((hg404 b1 12 0 3 (qS93 _ _ (qb89 _ _ hk70)) (by decide)).trans ((hg398 b1 12 0 3 (qS93 _ _ (qb89 _ _ hk70)) (by decide)).trans el19)) ((hg404 b1 12 0 1 (qS93 _ _ (qb89 _ _ hk70)) (by decide)).trans ((hg398 b1 12 0 1 (qS93 _ _ (qb89 _ _ hk70)) (by decide)).trans el29)) ((hg404 b38 6 0 1 (qS93 _ _ (qb89 _ _ hk79)) (by decide)).trans ((hg398 b38 6 0 1 (qS93 _ _ (qb89 _ _ hk79)) (by decide)).trans el39)) ((hg404 b1 12 0 2 (qS93 _ _ (qb89 _ _ hk70)) (by decide)).trans ((hg398 b1 12 0 2 (qS93 _ _ (qb89 _ _ hk70)) (by decide)).trans el49)) ((hg404 b21 4 0 0 (qS93 _ _ (qb89 _ _ hk72)) (by decide)).trans ((hg398 b21 4 0 0 (qS93 _ _ (qb89 _ _ hk72)) (by decide)).trans el59)) ((hg404 b21 4 0 2 (qS93 _ _ (qb89 _ _ hk72)) (by decide)).trans ((hg398 b21 4 0 2 (qS93 _ _ (qb89 _ _ hk72)) (by decide)).trans el69)) ((hg404 b21 4 0 3 (qS93 _ _ (qb89 _ _ hk72)) (by decide)).trans ((hg398 b21 4 0 3 (qS93 _ _ (qb89 _ _ hk72)) (by decide)).trans el79)) ((hg404 b21 4 0 4 (qS93 _ _ (qb89 _ _ hk72)) (by decide)).trans ((hg398 b21 4 0 4 (qS93 _ _ (qb89 _ _ hk72)) (by decide)).trans el89)) ((hg404 b1 12 0 4 (qS93 _ _ (qb89 _ _ hk70)) (by decide)).trans ((hg398 b1 12 0 4 (qS93 _ _ (qb89 _ _ hk70)) (by decide)).trans el99)) ((hg404 b36 10 0 0 (qS93 _ _ (qb89 _ _ hk77)) (by decide)).trans ((hg398 b36 10 0 0 (qS93 _ _ (qb89 _ _ hk77)) (by decide)).trans el109)) ((hg404 b40 13 0 1 (qS93 _ _ (qb89 _ _ hs_y68)) (by decide)).trans ((hg398 b40 13 0 1 (qS93 _ _ (qb89 _ _ hs_y68)) (by decide)).trans el119)) ((hg404 b40 13 0 10 (qS93 _ _ (qb89 _ _ hs_y68)) (by decide)).trans ((hg398 b40 13 0 10 (qS93 _ _ (qb89 _ _ hs_y68)) (by decide)).trans el129)) ((hg404 b40 13 0 13 (qS93 _ _ (qb89 _ _ hs_y68)) (by decide)).trans ((hg398 b40 13 0 13 (qS93 _ _ (qb89 _ _ hs_y68)) (by decide)).trans el139)) ((hg404 b40 13 0 14 (qS93 _ _ (qb89 _ _ hs_y68)) (by decide)).trans ((hg398 b40 13 0 14 (qS93 _ _ (qb89 _ _ hs_y68)) (by decide)).trans el149)) ((hg404 b40 13 0 12 (qS93 _ _ (qb89 _ _ hs_y68)) (by decide)).trans ((hg398 b40 13 0 12 (qS93 _ _ (qb89 _ _ hs_y68)) (by decide)).trans el159)) ((hg404 b36 10 0 1 (qS93 _ _ (qb89 _ _ hk77)) (by decide)).trans ((hg398 b36 10 0 1 (qS93 _ _ (qb89 _ _ hk77)) (by decide)).trans exk9)) ((hg404 b40 13 0 2 (qS93 _ _ (qb89 _ _ hs_y68)) (by decide)).trans ((hg398 b40 13 0 2 (qS93 _ _ (qb89 _ _ hs_y68)) (by decide)).trans emk9)) ((hg404 b1 12 0 12 (qS93 _ _ (qb89 _ _ hk70)) (by decide)).trans ((hg398 b1 12 0 12 (qS93 _ _ (qb89 _ _ hk70)) (by decide)).trans ext9)) ((hg404 b40 13 0 3 (qS93 _ _ (qb89 _ _ hs_y68)) (by decide)).trans ((hg398 b40 13 0 3 (qS93 _ _ (qb89 _ _ hs_y68)) (by decide)).trans emt9)) ((hg404 b37 5 0 3 (qS93 _ _ (qb89 _ _ hk78)) (by decide)).trans k402) k408 ((hg404 b39 0 0 2 (qS93 _ _ (qb89 _ _ hk80)) (by decide)).trans ((hg398 b39 0 0 2 (qS93 _ _ (qb89 _ _ hk80)) (by decide)).trans exb9)) ((hg404 b40 13 0 16 (qS93 _ _ (qb89 _ _ hs_y68)) (by decide)).trans ((hg398 b40 13 0 16 (qS93 _ _ (qb89 _ _ hs_y68)) (by decide)).trans emb9)) ((hg404 b1 12 0 16 (qS93 _ _ (qb89 _ _ hk70)) (by decide)).trans ((hg398 b1 12 0 16 (qS93 _ _ (qb89 _ _ hk70)) (by decide)).trans exsh9)) ((hg404 b40 13 0 89 (qS93 _ _ (qb89 _ _ hs_y68)) (by decide)).trans ((hg398 b40 13 0 89 (qS93 _ _ (qb89 _ _ hs_y68)) (by decide)).trans emsh9)) ((hg404 b1 12 0 17 (qS93 _ _ (qb89 _ _ hk70)) (by decide)).trans ((hg398 b1 12 0 17 (qS93 _ _ (qb89 _ _ hk70)) (by decide)).trans exsp9)) ((hg404 b40 13 0 90 (qS93 _ _ (qb89 _ _ hs_y68)) (by decide)).trans ((hg398 b40 13 0 90 (qS93 _ _ (qb89 _ _ hs_y68)) (by decide)).trans emsp9)) ((hg404 b40 13 0 17 (qS93 _ _ (qb89 _ _ hs_y68)) (by decide)).trans ((hg398 b40 13 0 17 (qS93 _ _ (qb89 _ _ hs_y68)) (by decide)).trans emsm9)) ((hg404 b1 12 0 13 (qS93 _ _ (qb89 _ _ hk70)) (by decide)).trans ((hg398 b1 12 0 13 (qS93 _ _ (qb89 _ _ hk70)) (by decide)).trans exfa9)) ((hg404 b40 13 0 25 (qS93 _ _ (qb89 _ _ hs_y68)) (by decide)).trans ((hg398 b40 13 0 25 (qS93 _ _ (qb89 _ _ hs_y68)) (by decide)).trans emfa9)) ((hg404 b20 300 0 2 (qS93 _ _ (qb89 _ _ hk71)) (by decide)).trans ((hg398 b20 300 0 2 (qS93 _ _ (qb89 _ _ hk71)) (by decide)).trans extn9)) ((hg404 b40 13 0 39 (qS93 _ _ (qb89 _ _ hs_y68)) (by decide)).trans ((hg398 b40 13 0 39 (qS93 _ _ (qb89 _ _ hs_y68)) (by decide)).trans emtn9)) (xWn.m (xWn.m wn9 (qS93 _ _ (qb89 _ _ hk76)) (qS93 _ _ (qb89 _ _ hk83)) hg398 xLe.rf (by decide)) (qS93 _ _ (qb89 _ _ hk76)) (qS93 _ _ (qb89 _ _ hk83)) hg404 xLe.rf (by decide)) (by rw [(Eq.trans (xv_m hg404 (qS93 _ _ (qb89 _ _ hk74)) (by decide) (by decide)) (xv_m hg398 (qS93 _ _ (qb89 _ _ hk74)) (by decide) (by decide))), (Eq.trans (xv_m hg404 (qS93 _ _ (qb89 _ _ hk81)) (by decide) (by decide)) (xv_m hg398 (qS93 _ _ (qb89 _ _ hk81)) (by decide) (by decide)))]; exact wt9) (by rw [(Eq.trans (xv_m hg404 (qS93 _ _ (qb89 _ _ hk75)) (by decide) (by decide)) (xv_m hg398 (qS93 _ _ (qb89 _ _ hk75)) (by decide) (by decide))), (Eq.trans (xv_m hg404 (qS93 _ _ (qb89 _ _ hk82)) (by decide) (by decide)) (xv_m hg398 (qS93 _ _ (qb89 _ _ hk82)) (by decide) (by decide)))]; exact ld9) (by rw [(Eq.trans (xv_m hg404 (qS93 _ _ (qb89 _ _ hk73)) (by decide) (by decide)) (xv_m hg398 (qS93 _ _ (qb89 _ _ hk73)) (by decide) (by decide))), (Eq.trans (xv_m hg404 (qS93 _ _ (qb89 _ _ hs_b88)) (by decide) (by decide)) (xv_m hg398 (qS93 _ _ (qb89 _ _ hs_b88)) (by decide) (by decide)))]; exact sk9) (by rw [(Eq.trans (xv_m hg404 (qS93 _ _ (qb89 _ _ hs_b86)) (by decide) (by decide)) (xv_m hg398 (qS93 _ _ (qb89 _ _ hs_b86)) (by decide) (by decide))), (Eq.trans (xv_m hg404 (qS93 _ _ (qb89 _ _ hs_b87)) (by decide) (by decide)) (xv_m hg398 (qS93 _ _ (qb89 _ _ hs_b87)) (by decide) (by decide)))]; exact xTc.mono tc9 (by omega)) dc9 ds9 (by omega) (by omega) (by omega)
        · refine X_tableIn hK 1043 21 (by decide) c98 (by decide) (by decide) dL_law_40 rfl (by decide) ?_
          refine X_aloadn hK (i := 1) 3 dL_law_1043 rfl rfl ?_
          refine X_aloadn hK (i := 0) 4 dL_law_1044 rfl rfl ?_
          refine X_iload hK (i := 4) 0 dL_law_1045 rfl ?_
          refine X_iconst hK dL_law_1047 ?_
          refine X_iadd hK dL_law_1048 ?_
          refine X_scr hK hX hbl hbA hL (by omega) (by omega) dL_law_1049 (fun z409 ez409 lz409 uz409 => ?_)
          refine X_callV hK [.int (iI z409)] [] lk_L_117 (c_X11_falseCounts _ _ _ _ _ S93 g94 b1 z409 (qS93 _ _ (qb89 _ _ hk70)) (by omega) al9) (qS93 _ _ (qb89 _ _ hk70)) ⟨by decide, rfl⟩ dL_law_1050 rfl rfl (by simp [Value.category]) (by decide) (by omega) (by omega) (by decide) (fun r410 S412 g411 pr410 qr410 hg411 => ?_)
          obtain ⟨rfl, rfl, z413, rfl, lz413, uz413⟩ := pr410
          refine X_st [.int (iI z413)] rfl ?_
          refine X_pop hK dL_law_1053 rfl ?_
          refine X_aloadn hK (i := 2) 2 dL_law_1054 rfl rfl ?_
          refine X_aloadn hK (i := 0) 4 dL_law_1055 rfl rfl ?_
          refine X_iload hK (i := 4) 0 dL_law_1056 rfl ?_
          refine X_iconst hK dL_law_1058 ?_
          refine X_iadd hK dL_law_1059 ?_
          refine X_scrK hK hX hbl hbA hL (by omega) (by omega) ez409 dL_law_1060 ?_
          refine X_callV hK [.int (iI z409)] [] lk_L_120 (c_X12_falseCounts _ _ _ _ _ S93 g94 b40 z409 (qS93 _ _ (qb89 _ _ hs_y68)) (by omega)) (qS93 _ _ (qb89 _ _ hs_y68)) ⟨by decide, rfl⟩ dL_law_1061 rfl rfl (by simp [Value.category]) (by decide) (by omega) (by omega) (by decide) (fun r414 S416 g415 pr414 qr414 hg415 => ?_)
          obtain ⟨rfl, z417, rfl, lz417, uz417⟩ := pr414
          refine X_st [.int (iI z417)] rfl ?_
          refine X_pop hK dL_law_1064 rfl ?_
          refine X_goto hK 1465 dL_law_1065 (by decide) ?_
          refine X_iinc hK (i := 4) (z := i9) (n := 6) 0 [(4, .int (iI (i9 + 6))), (3, .ref b89), (2, .ref b40), (1, .ref b1), (0, .ref b)] dL_law_1465 rfl (by decide) rfl ?_
          refine X_goto hK 23 dL_law_1468 (by decide) ?_
          exact ih9 S93 qS93 g415 (i9 + 6) k9 t9 c9 b9 sh9 sp9 sm9 fa9 tn9 (by omega) (by omega) (by omega) (by omega) (by omega) (by omega) (by omega) (by omega) (by omega) (by omega) (xLs_mod al9 hg415 (by decide)) si9 (xPi_m pi9 hg415 xLe.rf (by decide)) (xMp_m mp9 hg415 xLe.rf (by decide)) (xTw_m tw9 hg415 xLe.rf (by decide)) ((hg415 b1 12 0 0 (qS93 _ _ (qb89 _ _ hk70)) (by decide)).trans el09) ((hg415 b1 12 0 3 (qS93 _ _ (qb89 _ _ hk70)) (by decide)).trans el19) ((hg415 b1 12 0 1 (qS93 _ _ (qb89 _ _ hk70)) (by decide)).trans el29) ((hg415 b38 6 0 1 (qS93 _ _ (qb89 _ _ hk79)) (by decide)).trans el39) ((hg415 b1 12 0 2 (qS93 _ _ (qb89 _ _ hk70)) (by decide)).trans el49) ((hg415 b21 4 0 0 (qS93 _ _ (qb89 _ _ hk72)) (by decide)).trans el59) ((hg415 b21 4 0 2 (qS93 _ _ (qb89 _ _ hk72)) (by decide)).trans el69) ((hg415 b21 4 0 3 (qS93 _ _ (qb89 _ _ hk72)) (by decide)).trans el79) ((hg415 b21 4 0 4 (qS93 _ _ (qb89 _ _ hk72)) (by decide)).trans el89) ((hg415 b1 12 0 4 (qS93 _ _ (qb89 _ _ hk70)) (by decide)).trans el99) ((hg415 b36 10 0 0 (qS93 _ _ (qb89 _ _ hk77)) (by decide)).trans el109) ((hg415 b40 13 0 1 (qS93 _ _ (qb89 _ _ hs_y68)) (by decide)).trans el119) ((hg415 b40 13 0 10 (qS93 _ _ (qb89 _ _ hs_y68)) (by decide)).trans el129) ((hg415 b40 13 0 13 (qS93 _ _ (qb89 _ _ hs_y68)) (by decide)).trans el139) ((hg415 b40 13 0 14 (qS93 _ _ (qb89 _ _ hs_y68)) (by decide)).trans el149) ((hg415 b40 13 0 12 (qS93 _ _ (qb89 _ _ hs_y68)) (by decide)).trans el159) ((hg415 b36 10 0 1 (qS93 _ _ (qb89 _ _ hk77)) (by decide)).trans exk9) ((hg415 b40 13 0 2 (qS93 _ _ (qb89 _ _ hs_y68)) (by decide)).trans emk9) ((hg415 b1 12 0 12 (qS93 _ _ (qb89 _ _ hk70)) (by decide)).trans ext9) ((hg415 b40 13 0 3 (qS93 _ _ (qb89 _ _ hs_y68)) (by decide)).trans emt9) ((hg415 b37 5 0 3 (qS93 _ _ (qb89 _ _ hk78)) (by decide)).trans exc9) ((hg415 b40 13 0 69 (qS93 _ _ (qb89 _ _ hs_y68)) (by decide)).trans emc9) ((hg415 b39 0 0 2 (qS93 _ _ (qb89 _ _ hk80)) (by decide)).trans exb9) ((hg415 b40 13 0 16 (qS93 _ _ (qb89 _ _ hs_y68)) (by decide)).trans emb9) ((hg415 b1 12 0 16 (qS93 _ _ (qb89 _ _ hk70)) (by decide)).trans exsh9) ((hg415 b40 13 0 89 (qS93 _ _ (qb89 _ _ hs_y68)) (by decide)).trans emsh9) ((hg415 b1 12 0 17 (qS93 _ _ (qb89 _ _ hk70)) (by decide)).trans exsp9) ((hg415 b40 13 0 90 (qS93 _ _ (qb89 _ _ hs_y68)) (by decide)).trans emsp9) ((hg415 b40 13 0 17 (qS93 _ _ (qb89 _ _ hs_y68)) (by decide)).trans emsm9) ((hg415 b1 12 0 13 (qS93 _ _ (qb89 _ _ hk70)) (by decide)).trans exfa9) ((hg415 b40 13 0 25 (qS93 _ _ (qb89 _ _ hs_y68)) (by decide)).trans emfa9) ((hg415 b20 300 0 2 (qS93 _ _ (qb89 _ _ hk71)) (by decide)).trans extn9) ((hg415 b40 13 0 39 (qS93 _ _ (qb89 _ _ hs_y68)) (by decide)).trans emtn9) (xWn.m wn9 (qS93 _ _ (qb89 _ _ hk76)) (qS93 _ _ (qb89 _ _ hk83)) hg415 xLe.rf (by decide)) (by rw [(xv_m hg415 (qS93 _ _ (qb89 _ _ hk74)) (by decide) (by decide)), (xv_m hg415 (qS93 _ _ (qb89 _ _ hk81)) (by decide) (by decide))]; exact wt9) (by rw [(xv_m hg415 (qS93 _ _ (qb89 _ _ hk75)) (by decide) (by decide)), (xv_m hg415 (qS93 _ _ (qb89 _ _ hk82)) (by decide) (by decide))]; exact ld9) (by rw [(xv_m hg415 (qS93 _ _ (qb89 _ _ hk73)) (by decide) (by decide)), (xv_m hg415 (qS93 _ _ (qb89 _ _ hs_b88)) (by decide) (by decide))]; exact sk9) (by rw [(xv_m hg415 (qS93 _ _ (qb89 _ _ hs_b86)) (by decide) (by decide)), (xv_m hg415 (qS93 _ _ (qb89 _ _ hs_b87)) (by decide) (by decide))]; exact xTc.mono tc9 (by omega)) dc9 ds9 (by omega) (by omega) (by omega)
        · refine X_tableIn hK 1068 22 (by decide) c98 (by decide) (by decide) dL_law_40 rfl (by decide) ?_
          refine X_aloadn hK (i := 1) 3 dL_law_1068 rfl rfl ?_
          refine X_aloadn hK (i := 0) 4 dL_law_1069 rfl rfl ?_
          refine X_iload hK (i := 4) 0 dL_law_1070 rfl ?_
          refine X_iconst hK dL_law_1072 ?_
          refine X_iadd hK dL_law_1073 ?_
          refine X_scr hK hX hbl hbA hL (by omega) (by omega) dL_law_1074 (fun z418 ez418 lz418 uz418 => ?_)
          refine X_callV hK [.int (iI z418)] [] lk_L_121 (c_X11_shortOf _ _ _ _ _ S93 g94 b1 z418 (qS93 _ _ (qb89 _ _ hk70)) (by omega) al9) (qS93 _ _ (qb89 _ _ hk70)) ⟨by decide, rfl⟩ dL_law_1075 rfl rfl (by simp [Value.category]) (by decide) (by omega) (by omega) (by decide) (fun r419 S421 g420 pr419 qr419 hg420 => ?_)
          obtain ⟨rfl, rfl, z422, rfl, lz422, uz422⟩ := pr419
          refine X_st [.int (iI z422)] rfl ?_
          refine X_pop hK dL_law_1078 rfl ?_
          refine X_aloadn hK (i := 2) 2 dL_law_1079 rfl rfl ?_
          refine X_aloadn hK (i := 0) 4 dL_law_1080 rfl rfl ?_
          refine X_iload hK (i := 4) 0 dL_law_1081 rfl ?_
          refine X_iconst hK dL_law_1083 ?_
          refine X_iadd hK dL_law_1084 ?_
          refine X_scrK hK hX hbl hbA hL (by omega) (by omega) ez418 dL_law_1085 ?_
          refine X_callV hK [.int (iI z418)] [] lk_L_124 (c_X12_shortOf _ _ _ _ _ S93 g94 b40 z418 (qS93 _ _ (qb89 _ _ hs_y68)) (by omega)) (qS93 _ _ (qb89 _ _ hs_y68)) ⟨by decide, rfl⟩ dL_law_1086 rfl rfl (by simp [Value.category]) (by decide) (by omega) (by omega) (by decide) (fun r423 S425 g424 pr423 qr423 hg424 => ?_)
          obtain ⟨rfl, z426, rfl, lz426, uz426⟩ := pr423
          refine X_st [.int (iI z426)] rfl ?_
          refine X_pop hK dL_law_1089 rfl ?_
          refine X_goto hK 1465 dL_law_1090 (by decide) ?_
          refine X_iinc hK (i := 4) (z := i9) (n := 6) 0 [(4, .int (iI (i9 + 6))), (3, .ref b89), (2, .ref b40), (1, .ref b1), (0, .ref b)] dL_law_1465 rfl (by decide) rfl ?_
          refine X_goto hK 23 dL_law_1468 (by decide) ?_
          exact ih9 S93 qS93 g424 (i9 + 6) k9 t9 c9 b9 sh9 sp9 sm9 fa9 tn9 (by omega) (by omega) (by omega) (by omega) (by omega) (by omega) (by omega) (by omega) (by omega) (by omega) (xLs_mod al9 hg424 (by decide)) si9 (xPi_m pi9 hg424 xLe.rf (by decide)) (xMp_m mp9 hg424 xLe.rf (by decide)) (xTw_m tw9 hg424 xLe.rf (by decide)) ((hg424 b1 12 0 0 (qS93 _ _ (qb89 _ _ hk70)) (by decide)).trans el09) ((hg424 b1 12 0 3 (qS93 _ _ (qb89 _ _ hk70)) (by decide)).trans el19) ((hg424 b1 12 0 1 (qS93 _ _ (qb89 _ _ hk70)) (by decide)).trans el29) ((hg424 b38 6 0 1 (qS93 _ _ (qb89 _ _ hk79)) (by decide)).trans el39) ((hg424 b1 12 0 2 (qS93 _ _ (qb89 _ _ hk70)) (by decide)).trans el49) ((hg424 b21 4 0 0 (qS93 _ _ (qb89 _ _ hk72)) (by decide)).trans el59) ((hg424 b21 4 0 2 (qS93 _ _ (qb89 _ _ hk72)) (by decide)).trans el69) ((hg424 b21 4 0 3 (qS93 _ _ (qb89 _ _ hk72)) (by decide)).trans el79) ((hg424 b21 4 0 4 (qS93 _ _ (qb89 _ _ hk72)) (by decide)).trans el89) ((hg424 b1 12 0 4 (qS93 _ _ (qb89 _ _ hk70)) (by decide)).trans el99) ((hg424 b36 10 0 0 (qS93 _ _ (qb89 _ _ hk77)) (by decide)).trans el109) ((hg424 b40 13 0 1 (qS93 _ _ (qb89 _ _ hs_y68)) (by decide)).trans el119) ((hg424 b40 13 0 10 (qS93 _ _ (qb89 _ _ hs_y68)) (by decide)).trans el129) ((hg424 b40 13 0 13 (qS93 _ _ (qb89 _ _ hs_y68)) (by decide)).trans el139) ((hg424 b40 13 0 14 (qS93 _ _ (qb89 _ _ hs_y68)) (by decide)).trans el149) ((hg424 b40 13 0 12 (qS93 _ _ (qb89 _ _ hs_y68)) (by decide)).trans el159) ((hg424 b36 10 0 1 (qS93 _ _ (qb89 _ _ hk77)) (by decide)).trans exk9) ((hg424 b40 13 0 2 (qS93 _ _ (qb89 _ _ hs_y68)) (by decide)).trans emk9) ((hg424 b1 12 0 12 (qS93 _ _ (qb89 _ _ hk70)) (by decide)).trans ext9) ((hg424 b40 13 0 3 (qS93 _ _ (qb89 _ _ hs_y68)) (by decide)).trans emt9) ((hg424 b37 5 0 3 (qS93 _ _ (qb89 _ _ hk78)) (by decide)).trans exc9) ((hg424 b40 13 0 69 (qS93 _ _ (qb89 _ _ hs_y68)) (by decide)).trans emc9) ((hg424 b39 0 0 2 (qS93 _ _ (qb89 _ _ hk80)) (by decide)).trans exb9) ((hg424 b40 13 0 16 (qS93 _ _ (qb89 _ _ hs_y68)) (by decide)).trans emb9) ((hg424 b1 12 0 16 (qS93 _ _ (qb89 _ _ hk70)) (by decide)).trans exsh9) ((hg424 b40 13 0 89 (qS93 _ _ (qb89 _ _ hs_y68)) (by decide)).trans emsh9) ((hg424 b1 12 0 17 (qS93 _ _ (qb89 _ _ hk70)) (by decide)).trans exsp9) ((hg424 b40 13 0 90 (qS93 _ _ (qb89 _ _ hs_y68)) (by decide)).trans emsp9) ((hg424 b40 13 0 17 (qS93 _ _ (qb89 _ _ hs_y68)) (by decide)).trans emsm9) ((hg424 b1 12 0 13 (qS93 _ _ (qb89 _ _ hk70)) (by decide)).trans exfa9) ((hg424 b40 13 0 25 (qS93 _ _ (qb89 _ _ hs_y68)) (by decide)).trans emfa9) ((hg424 b20 300 0 2 (qS93 _ _ (qb89 _ _ hk71)) (by decide)).trans extn9) ((hg424 b40 13 0 39 (qS93 _ _ (qb89 _ _ hs_y68)) (by decide)).trans emtn9) (xWn.m wn9 (qS93 _ _ (qb89 _ _ hk76)) (qS93 _ _ (qb89 _ _ hk83)) hg424 xLe.rf (by decide)) (by rw [(xv_m hg424 (qS93 _ _ (qb89 _ _ hk74)) (by decide) (by decide)), (xv_m hg424 (qS93 _ _ (qb89 _ _ hk81)) (by decide) (by decide))]; exact wt9) (by rw [(xv_m hg424 (qS93 _ _ (qb89 _ _ hk75)) (by decide) (by decide)), (xv_m hg424 (qS93 _ _ (qb89 _ _ hk82)) (by decide) (by decide))]; exact ld9) (by rw [(xv_m hg424 (qS93 _ _ (qb89 _ _ hk73)) (by decide) (by decide)), (xv_m hg424 (qS93 _ _ (qb89 _ _ hs_b88)) (by decide) (by decide))]; exact sk9) (by rw [(xv_m hg424 (qS93 _ _ (qb89 _ _ hs_b86)) (by decide) (by decide)), (xv_m hg424 (qS93 _ _ (qb89 _ _ hs_b87)) (by decide) (by decide))]; exact xTc.mono tc9 (by omega)) dc9 ds9 (by omega) (by omega) (by omega)
        · refine X_tableIn hK 1093 23 (by decide) c98 (by decide) (by decide) dL_law_40 rfl (by decide) ?_
          refine X_aloadn hK (i := 1) 3 dL_law_1093 rfl rfl ?_
          refine X_aloadn hK (i := 0) 4 dL_law_1094 rfl rfl ?_
          refine X_iload hK (i := 4) 0 dL_law_1095 rfl ?_
          refine X_iconst hK dL_law_1097 ?_
          refine X_iadd hK dL_law_1098 ?_
          refine X_scr hK hX hbl hbA hL (by omega) (by omega) dL_law_1099 (fun z427 ez427 lz427 uz427 => ?_)
          refine X_aloadn hK (i := 0) 4 dL_law_1100 rfl rfl ?_
          refine X_iload hK (i := 4) 0 dL_law_1101 rfl ?_
          refine X_iconst hK dL_law_1103 ?_
          refine X_iadd hK dL_law_1104 ?_
          refine X_scr hK hX hbl hbA hL (by omega) (by omega) dL_law_1105 (fun z428 ez428 lz428 uz428 => ?_)
          refine X_aloadn hK (i := 0) 4 dL_law_1106 rfl rfl ?_
          refine X_iload hK (i := 4) 0 dL_law_1107 rfl ?_
          refine X_iconst hK dL_law_1109 ?_
          refine X_iadd hK dL_law_1110 ?_
          refine X_scr hK hX hbl hbA hL (by omega) (by omega) dL_law_1111 (fun z429 ez429 lz429 uz429 => ?_)
          refine X_aloadn hK (i := 0) 4 dL_law_1112 rfl rfl ?_
          refine X_iload hK (i := 4) 0 dL_law_1113 rfl ?_
          refine X_iconst hK dL_law_1115 ?_
          refine X_iadd hK dL_law_1116 ?_
          refine X_scr hK hX hbl hbA hL (by omega) (by omega) dL_law_1117 (fun z430 ez430 lz430 uz430 => ?_)
          refine X_aloadn hK (i := 0) 4 dL_law_1118 rfl rfl ?_
          refine X_iload hK (i := 4) 0 dL_law_1119 rfl ?_
          refine X_iconst hK dL_law_1121 ?_
          refine X_iadd hK dL_law_1122 ?_
          refine X_scr hK hX hbl hbA hL (by omega) (by omega) dL_law_1123 (fun z431 ez431 lz431 uz431 => ?_)
          refine X_callV hK [.int (iI z427), .int (iI z428), .int (iI z429), .int (iI z430), .int (iI z431)] [] lk_L_125 (c_X11_best _ _ _ _ _ S93 g94 b1 z427 z428 z429 z430 z431 b36 k9 (qS93 _ _ (qb89 _ _ hk70)) (by omega) (by omega) (by omega) (by omega) (by omega) el09 (qS93 _ _ (qb89 _ _ hk77)) (by omega) exk9) (qS93 _ _ (qb89 _ _ hk70)) ⟨by decide, rfl⟩ dL_law_1124 rfl rfl (by simp [Value.category]) (by decide) (by omega) (by omega) (by decide) (fun r432 S434 g433 pr432 qr432 hg433 => ?_)
          obtain ⟨rfl, z435, rfl, lz435, uz435, k436⟩ := pr432
          refine X_st [.int (iI z435)] rfl ?_
          refine X_pop hK dL_law_1127 rfl ?_
          refine X_aloadn hK (i := 2) 2 dL_law_1128 rfl rfl ?_
          refine X_aloadn hK (i := 0) 4 dL_law_1129 rfl rfl ?_
          refine X_iload hK (i := 4) 0 dL_law_1130 rfl ?_
          refine X_iconst hK dL_law_1132 ?_
          refine X_iadd hK dL_law_1133 ?_
          refine X_scrK hK hX hbl hbA hL (by omega) (by omega) ez427 dL_law_1134 ?_
          refine X_aloadn hK (i := 0) 4 dL_law_1135 rfl rfl ?_
          refine X_iload hK (i := 4) 0 dL_law_1136 rfl ?_
          refine X_iconst hK dL_law_1138 ?_
          refine X_iadd hK dL_law_1139 ?_
          refine X_scrK hK hX hbl hbA hL (by omega) (by omega) ez428 dL_law_1140 ?_
          refine X_aloadn hK (i := 0) 4 dL_law_1141 rfl rfl ?_
          refine X_iload hK (i := 4) 0 dL_law_1142 rfl ?_
          refine X_iconst hK dL_law_1144 ?_
          refine X_iadd hK dL_law_1145 ?_
          refine X_scrK hK hX hbl hbA hL (by omega) (by omega) ez429 dL_law_1146 ?_
          refine X_aloadn hK (i := 0) 4 dL_law_1147 rfl rfl ?_
          refine X_iload hK (i := 4) 0 dL_law_1148 rfl ?_
          refine X_iconst hK dL_law_1150 ?_
          refine X_iadd hK dL_law_1151 ?_
          refine X_scrK hK hX hbl hbA hL (by omega) (by omega) ez430 dL_law_1152 ?_
          refine X_aloadn hK (i := 0) 4 dL_law_1153 rfl rfl ?_
          refine X_iload hK (i := 4) 0 dL_law_1154 rfl ?_
          refine X_iconst hK dL_law_1156 ?_
          refine X_iadd hK dL_law_1157 ?_
          refine X_scrK hK hX hbl hbA hL (by omega) (by omega) ez431 dL_law_1158 ?_
          refine X_callV hK [.int (iI z427), .int (iI z428), .int (iI z429), .int (iI z430), .int (iI z431)] [] lk_L_128 (c3_best _ _ _ _ _ S93 g433 b40 z427 z428 z429 z430 z431 k9 (qS93 _ _ (qb89 _ _ hs_y68)) (by omega) (by omega) (by omega) (by omega) (by omega) (by omega) ((hg433 b40 13 0 2 (qS93 _ _ (qb89 _ _ hs_y68)) (by decide)).trans emk9)) (qS93 _ _ (qb89 _ _ hs_y68)) ⟨by decide, rfl⟩ dL_law_1159 rfl rfl (by simp [Value.category]) (by decide) (by omega) (by omega) (by decide) (fun r437 S439 g438 pr437 qr437 hg438 => ?_)
          obtain ⟨rfl, z440, rfl, lz440, uz440, k441⟩ := pr437
          refine X_st [.int (iI z440)] rfl ?_
          refine X_pop hK dL_law_1162 rfl ?_
          refine X_goto hK 1465 dL_law_1163 (by decide) ?_
          refine X_iinc hK (i := 4) (z := i9) (n := 6) 0 [(4, .int (iI (i9 + 6))), (3, .ref b89), (2, .ref b40), (1, .ref b1), (0, .ref b)] dL_law_1465 rfl (by decide) rfl ?_
          refine X_goto hK 23 dL_law_1468 (by decide) ?_
          exact ih9 S93 qS93 g438 (i9 + 6) (0) t9 c9 b9 sh9 sp9 sm9 fa9 tn9 (by omega) (by omega) (by omega) (by omega) (by omega) (by omega) (by omega) (by omega) (by omega) (by omega) (xLs_mod (xLs_mod al9 hg433 (by decide)) hg438 (by decide)) si9 (xPi_m (xPi_m pi9 hg433 xLe.rf (by decide)) hg438 xLe.rf (by decide)) (xMp_m (xMp_m mp9 hg433 xLe.rf (by decide)) hg438 xLe.rf (by decide)) (xTw_m (xTw_m tw9 hg433 xLe.rf (by decide)) hg438 xLe.rf (by decide)) ((hg438 b1 12 0 0 (qS93 _ _ (qb89 _ _ hk70)) (by decide)).trans ((hg433 b1 12 0 0 (qS93 _ _ (qb89 _ _ hk70)) (by decide)).trans el09)) ((hg438 b1 12 0 3 (qS93 _ _ (qb89 _ _ hk70)) (by decide)).trans ((hg433 b1 12 0 3 (qS93 _ _ (qb89 _ _ hk70)) (by decide)).trans el19)) ((hg438 b1 12 0 1 (qS93 _ _ (qb89 _ _ hk70)) (by decide)).trans ((hg433 b1 12 0 1 (qS93 _ _ (qb89 _ _ hk70)) (by decide)).trans el29)) ((hg438 b38 6 0 1 (qS93 _ _ (qb89 _ _ hk79)) (by decide)).trans ((hg433 b38 6 0 1 (qS93 _ _ (qb89 _ _ hk79)) (by decide)).trans el39)) ((hg438 b1 12 0 2 (qS93 _ _ (qb89 _ _ hk70)) (by decide)).trans ((hg433 b1 12 0 2 (qS93 _ _ (qb89 _ _ hk70)) (by decide)).trans el49)) ((hg438 b21 4 0 0 (qS93 _ _ (qb89 _ _ hk72)) (by decide)).trans ((hg433 b21 4 0 0 (qS93 _ _ (qb89 _ _ hk72)) (by decide)).trans el59)) ((hg438 b21 4 0 2 (qS93 _ _ (qb89 _ _ hk72)) (by decide)).trans ((hg433 b21 4 0 2 (qS93 _ _ (qb89 _ _ hk72)) (by decide)).trans el69)) ((hg438 b21 4 0 3 (qS93 _ _ (qb89 _ _ hk72)) (by decide)).trans ((hg433 b21 4 0 3 (qS93 _ _ (qb89 _ _ hk72)) (by decide)).trans el79)) ((hg438 b21 4 0 4 (qS93 _ _ (qb89 _ _ hk72)) (by decide)).trans ((hg433 b21 4 0 4 (qS93 _ _ (qb89 _ _ hk72)) (by decide)).trans el89)) ((hg438 b1 12 0 4 (qS93 _ _ (qb89 _ _ hk70)) (by decide)).trans ((hg433 b1 12 0 4 (qS93 _ _ (qb89 _ _ hk70)) (by decide)).trans el99)) ((hg438 b36 10 0 0 (qS93 _ _ (qb89 _ _ hk77)) (by decide)).trans ((hg433 b36 10 0 0 (qS93 _ _ (qb89 _ _ hk77)) (by decide)).trans el109)) ((hg438 b40 13 0 1 (qS93 _ _ (qb89 _ _ hs_y68)) (by decide)).trans ((hg433 b40 13 0 1 (qS93 _ _ (qb89 _ _ hs_y68)) (by decide)).trans el119)) ((hg438 b40 13 0 10 (qS93 _ _ (qb89 _ _ hs_y68)) (by decide)).trans ((hg433 b40 13 0 10 (qS93 _ _ (qb89 _ _ hs_y68)) (by decide)).trans el129)) ((hg438 b40 13 0 13 (qS93 _ _ (qb89 _ _ hs_y68)) (by decide)).trans ((hg433 b40 13 0 13 (qS93 _ _ (qb89 _ _ hs_y68)) (by decide)).trans el139)) ((hg438 b40 13 0 14 (qS93 _ _ (qb89 _ _ hs_y68)) (by decide)).trans ((hg433 b40 13 0 14 (qS93 _ _ (qb89 _ _ hs_y68)) (by decide)).trans el149)) ((hg438 b40 13 0 12 (qS93 _ _ (qb89 _ _ hs_y68)) (by decide)).trans ((hg433 b40 13 0 12 (qS93 _ _ (qb89 _ _ hs_y68)) (by decide)).trans el159)) ((hg438 b36 10 0 1 (qS93 _ _ (qb89 _ _ hk77)) (by decide)).trans k436) k441 ((hg438 b1 12 0 12 (qS93 _ _ (qb89 _ _ hk70)) (by decide)).trans ((hg433 b1 12 0 12 (qS93 _ _ (qb89 _ _ hk70)) (by decide)).trans ext9)) ((hg438 b40 13 0 3 (qS93 _ _ (qb89 _ _ hs_y68)) (by decide)).trans ((hg433 b40 13 0 3 (qS93 _ _ (qb89 _ _ hs_y68)) (by decide)).trans emt9)) ((hg438 b37 5 0 3 (qS93 _ _ (qb89 _ _ hk78)) (by decide)).trans ((hg433 b37 5 0 3 (qS93 _ _ (qb89 _ _ hk78)) (by decide)).trans exc9)) ((hg438 b40 13 0 69 (qS93 _ _ (qb89 _ _ hs_y68)) (by decide)).trans ((hg433 b40 13 0 69 (qS93 _ _ (qb89 _ _ hs_y68)) (by decide)).trans emc9)) ((hg438 b39 0 0 2 (qS93 _ _ (qb89 _ _ hk80)) (by decide)).trans ((hg433 b39 0 0 2 (qS93 _ _ (qb89 _ _ hk80)) (by decide)).trans exb9)) ((hg438 b40 13 0 16 (qS93 _ _ (qb89 _ _ hs_y68)) (by decide)).trans ((hg433 b40 13 0 16 (qS93 _ _ (qb89 _ _ hs_y68)) (by decide)).trans emb9)) ((hg438 b1 12 0 16 (qS93 _ _ (qb89 _ _ hk70)) (by decide)).trans ((hg433 b1 12 0 16 (qS93 _ _ (qb89 _ _ hk70)) (by decide)).trans exsh9)) ((hg438 b40 13 0 89 (qS93 _ _ (qb89 _ _ hs_y68)) (by decide)).trans ((hg433 b40 13 0 89 (qS93 _ _ (qb89 _ _ hs_y68)) (by decide)).trans emsh9)) ((hg438 b1 12 0 17 (qS93 _ _ (qb89 _ _ hk70)) (by decide)).trans ((hg433 b1 12 0 17 (qS93 _ _ (qb89 _ _ hk70)) (by decide)).trans exsp9)) ((hg438 b40 13 0 90 (qS93 _ _ (qb89 _ _ hs_y68)) (by decide)).trans ((hg433 b40 13 0 90 (qS93 _ _ (qb89 _ _ hs_y68)) (by decide)).trans emsp9)) ((hg438 b40 13 0 17 (qS93 _ _ (qb89 _ _ hs_y68)) (by decide)).trans ((hg433 b40 13 0 17 (qS93 _ _ (qb89 _ _ hs_y68)) (by decide)).trans emsm9)) ((hg438 b1 12 0 13 (qS93 _ _ (qb89 _ _ hk70)) (by decide)).trans ((hg433 b1 12 0 13 (qS93 _ _ (qb89 _ _ hk70)) (by decide)).trans exfa9)) ((hg438 b40 13 0 25 (qS93 _ _ (qb89 _ _ hs_y68)) (by decide)).trans ((hg433 b40 13 0 25 (qS93 _ _ (qb89 _ _ hs_y68)) (by decide)).trans emfa9)) ((hg438 b20 300 0 2 (qS93 _ _ (qb89 _ _ hk71)) (by decide)).trans ((hg433 b20 300 0 2 (qS93 _ _ (qb89 _ _ hk71)) (by decide)).trans extn9)) ((hg438 b40 13 0 39 (qS93 _ _ (qb89 _ _ hs_y68)) (by decide)).trans ((hg433 b40 13 0 39 (qS93 _ _ (qb89 _ _ hs_y68)) (by decide)).trans emtn9)) (xWn.m (xWn.m wn9 (qS93 _ _ (qb89 _ _ hk76)) (qS93 _ _ (qb89 _ _ hk83)) hg433 xLe.rf (by decide)) (qS93 _ _ (qb89 _ _ hk76)) (qS93 _ _ (qb89 _ _ hk83)) hg438 xLe.rf (by decide)) (by rw [(Eq.trans (xv_m hg438 (qS93 _ _ (qb89 _ _ hk74)) (by decide) (by decide)) (xv_m hg433 (qS93 _ _ (qb89 _ _ hk74)) (by decide) (by decide))), (Eq.trans (xv_m hg438 (qS93 _ _ (qb89 _ _ hk81)) (by decide) (by decide)) (xv_m hg433 (qS93 _ _ (qb89 _ _ hk81)) (by decide) (by decide)))]; exact wt9) (by rw [(Eq.trans (xv_m hg438 (qS93 _ _ (qb89 _ _ hk75)) (by decide) (by decide)) (xv_m hg433 (qS93 _ _ (qb89 _ _ hk75)) (by decide) (by decide))), (Eq.trans (xv_m hg438 (qS93 _ _ (qb89 _ _ hk82)) (by decide) (by decide)) (xv_m hg433 (qS93 _ _ (qb89 _ _ hk82)) (by decide) (by decide)))]; exact ld9) (by rw [(Eq.trans (xv_m hg438 (qS93 _ _ (qb89 _ _ hk73)) (by decide) (by decide)) (xv_m hg433 (qS93 _ _ (qb89 _ _ hk73)) (by decide) (by decide))), (Eq.trans (xv_m hg438 (qS93 _ _ (qb89 _ _ hs_b88)) (by decide) (by decide)) (xv_m hg433 (qS93 _ _ (qb89 _ _ hs_b88)) (by decide) (by decide)))]; exact sk9) (by rw [(Eq.trans (xv_m hg438 (qS93 _ _ (qb89 _ _ hs_b86)) (by decide) (by decide)) (xv_m hg433 (qS93 _ _ (qb89 _ _ hs_b86)) (by decide) (by decide))), (Eq.trans (xv_m hg438 (qS93 _ _ (qb89 _ _ hs_b87)) (by decide) (by decide)) (xv_m hg433 (qS93 _ _ (qb89 _ _ hs_b87)) (by decide) (by decide)))]; exact xTc.mono tc9 (by omega)) dc9 ds9 (by omega) (by omega) (by omega)
        · refine X_tableIn hK 1166 24 (by decide) c98 (by decide) (by decide) dL_law_40 rfl (by decide) ?_
          refine X_aloadn hK (i := 1) 3 dL_law_1166 rfl rfl ?_
          refine X_callV hK [] [] lk_L_129 (c_X11_expected _ _ _ _ _ S93 g94 b1 (qS93 _ _ (qb89 _ _ hk70))) (qS93 _ _ (qb89 _ _ hk70)) ⟨by decide, rfl⟩ dL_law_1167 rfl rfl (by simp [Value.category]) (by decide) (by omega) (by omega) (by decide) (fun r442 S444 g443 pr442 qr442 hg443 => ?_)
          obtain ⟨rfl, rfl, y445, rfl⟩ := pr442
          refine X_st [.long y445] rfl ?_
          refine X_pop2 hK dL_law_1170 rfl ?_
          refine X_aloadn hK (i := 2) 2 dL_law_1171 rfl rfl ?_
          refine X_callV hK [] [] lk_L_133 (c_X12_expected _ _ _ _ _ S93 g94 b40 (qS93 _ _ (qb89 _ _ hs_y68))) (qS93 _ _ (qb89 _ _ hs_y68)) ⟨by decide, rfl⟩ dL_law_1172 rfl rfl (by simp [Value.category]) (by decide) (by omega) (by omega) (by decide) (fun r446 S448 g447 pr446 qr446 hg447 => ?_)
          obtain ⟨rfl, y449, rfl⟩ := pr446
          refine X_st [.long y449] rfl ?_
          refine X_pop2 hK dL_law_1175 rfl ?_
          refine X_goto hK 1465 dL_law_1176 (by decide) ?_
          refine X_iinc hK (i := 4) (z := i9) (n := 6) 0 [(4, .int (iI (i9 + 6))), (3, .ref b89), (2, .ref b40), (1, .ref b1), (0, .ref b)] dL_law_1465 rfl (by decide) rfl ?_
          refine X_goto hK 23 dL_law_1468 (by decide) ?_
          exact ih9 S93 qS93 g447 (i9 + 6) k9 t9 c9 b9 sh9 sp9 sm9 fa9 tn9 (by omega) (by omega) (by omega) (by omega) (by omega) (by omega) (by omega) (by omega) (by omega) (by omega) (xLs_mod al9 hg447 (by decide)) si9 (xPi_m pi9 hg447 xLe.rf (by decide)) (xMp_m mp9 hg447 xLe.rf (by decide)) (xTw_m tw9 hg447 xLe.rf (by decide)) ((hg447 b1 12 0 0 (qS93 _ _ (qb89 _ _ hk70)) (by decide)).trans el09) ((hg447 b1 12 0 3 (qS93 _ _ (qb89 _ _ hk70)) (by decide)).trans el19) ((hg447 b1 12 0 1 (qS93 _ _ (qb89 _ _ hk70)) (by decide)).trans el29) ((hg447 b38 6 0 1 (qS93 _ _ (qb89 _ _ hk79)) (by decide)).trans el39) ((hg447 b1 12 0 2 (qS93 _ _ (qb89 _ _ hk70)) (by decide)).trans el49) ((hg447 b21 4 0 0 (qS93 _ _ (qb89 _ _ hk72)) (by decide)).trans el59) ((hg447 b21 4 0 2 (qS93 _ _ (qb89 _ _ hk72)) (by decide)).trans el69) ((hg447 b21 4 0 3 (qS93 _ _ (qb89 _ _ hk72)) (by decide)).trans el79) ((hg447 b21 4 0 4 (qS93 _ _ (qb89 _ _ hk72)) (by decide)).trans el89) ((hg447 b1 12 0 4 (qS93 _ _ (qb89 _ _ hk70)) (by decide)).trans el99) ((hg447 b36 10 0 0 (qS93 _ _ (qb89 _ _ hk77)) (by decide)).trans el109) ((hg447 b40 13 0 1 (qS93 _ _ (qb89 _ _ hs_y68)) (by decide)).trans el119) ((hg447 b40 13 0 10 (qS93 _ _ (qb89 _ _ hs_y68)) (by decide)).trans el129) ((hg447 b40 13 0 13 (qS93 _ _ (qb89 _ _ hs_y68)) (by decide)).trans el139) ((hg447 b40 13 0 14 (qS93 _ _ (qb89 _ _ hs_y68)) (by decide)).trans el149) ((hg447 b40 13 0 12 (qS93 _ _ (qb89 _ _ hs_y68)) (by decide)).trans el159) ((hg447 b36 10 0 1 (qS93 _ _ (qb89 _ _ hk77)) (by decide)).trans exk9) ((hg447 b40 13 0 2 (qS93 _ _ (qb89 _ _ hs_y68)) (by decide)).trans emk9) ((hg447 b1 12 0 12 (qS93 _ _ (qb89 _ _ hk70)) (by decide)).trans ext9) ((hg447 b40 13 0 3 (qS93 _ _ (qb89 _ _ hs_y68)) (by decide)).trans emt9) ((hg447 b37 5 0 3 (qS93 _ _ (qb89 _ _ hk78)) (by decide)).trans exc9) ((hg447 b40 13 0 69 (qS93 _ _ (qb89 _ _ hs_y68)) (by decide)).trans emc9) ((hg447 b39 0 0 2 (qS93 _ _ (qb89 _ _ hk80)) (by decide)).trans exb9) ((hg447 b40 13 0 16 (qS93 _ _ (qb89 _ _ hs_y68)) (by decide)).trans emb9) ((hg447 b1 12 0 16 (qS93 _ _ (qb89 _ _ hk70)) (by decide)).trans exsh9) ((hg447 b40 13 0 89 (qS93 _ _ (qb89 _ _ hs_y68)) (by decide)).trans emsh9) ((hg447 b1 12 0 17 (qS93 _ _ (qb89 _ _ hk70)) (by decide)).trans exsp9) ((hg447 b40 13 0 90 (qS93 _ _ (qb89 _ _ hs_y68)) (by decide)).trans emsp9) ((hg447 b40 13 0 17 (qS93 _ _ (qb89 _ _ hs_y68)) (by decide)).trans emsm9) ((hg447 b1 12 0 13 (qS93 _ _ (qb89 _ _ hk70)) (by decide)).trans exfa9) ((hg447 b40 13 0 25 (qS93 _ _ (qb89 _ _ hs_y68)) (by decide)).trans emfa9) ((hg447 b20 300 0 2 (qS93 _ _ (qb89 _ _ hk71)) (by decide)).trans extn9) ((hg447 b40 13 0 39 (qS93 _ _ (qb89 _ _ hs_y68)) (by decide)).trans emtn9) (xWn.m wn9 (qS93 _ _ (qb89 _ _ hk76)) (qS93 _ _ (qb89 _ _ hk83)) hg447 xLe.rf (by decide)) (by rw [(xv_m hg447 (qS93 _ _ (qb89 _ _ hk74)) (by decide) (by decide)), (xv_m hg447 (qS93 _ _ (qb89 _ _ hk81)) (by decide) (by decide))]; exact wt9) (by rw [(xv_m hg447 (qS93 _ _ (qb89 _ _ hk75)) (by decide) (by decide)), (xv_m hg447 (qS93 _ _ (qb89 _ _ hk82)) (by decide) (by decide))]; exact ld9) (by rw [(xv_m hg447 (qS93 _ _ (qb89 _ _ hk73)) (by decide) (by decide)), (xv_m hg447 (qS93 _ _ (qb89 _ _ hs_b88)) (by decide) (by decide))]; exact sk9) (by rw [(xv_m hg447 (qS93 _ _ (qb89 _ _ hs_b86)) (by decide) (by decide)), (xv_m hg447 (qS93 _ _ (qb89 _ _ hs_b87)) (by decide) (by decide))]; exact xTc.mono tc9 (by omega)) dc9 ds9 (by omega) (by omega) (by omega)
        · refine X_tableIn hK 1179 25 (by decide) c98 (by decide) (by decide) dL_law_40 rfl (by decide) ?_
          refine X_aloadn hK (i := 1) 3 dL_law_1179 rfl rfl ?_
          refine X_callVU hK [] [] lk_L_134 (c_X11_tried _ _ _ _ _ S93 g94 b1 b36 k9 b86 (qS93 _ _ (qb89 _ _ hk70)) el09 (qS93 _ _ (qb89 _ _ hk77)) (by omega) exk9 el109 (qS93 _ _ (qb89 _ _ hs_b86)) al9 si9) (qS93 _ _ (qb89 _ _ hk70)) ⟨by decide, rfl⟩ dL_law_1180 rfl rfl (by simp [Value.category]) (by decide) (by omega) (by omega) (by decide) (fun r450 S452 g451 dcr450 dsr450 pr450 qr450 hg451 => ?_)
          obtain ⟨wr450, z453, rfl, lz453, uz453, k454, k455, k456, k457, k458⟩ := pr450
          refine X_st [.int (iI z453)] rfl ?_
          refine X_pop hK dL_law_1183 rfl ?_
          refine X_aloadn hK (i := 2) 2 dL_law_1184 rfl rfl ?_
          refine X_callV hK [] [] lk_L_137 (c_X12_tried _ _ _ _ _ S452 g451 b40 k9 b87 (qr450 _ _ (qS93 _ _ (qb89 _ _ hs_y68))) (by omega) ((hg451 b40 13 0 2 (qS93 _ _ (qb89 _ _ hs_y68)) (by decide)).trans emk9) ((hg451 b40 13 0 1 (qS93 _ _ (qb89 _ _ hs_y68)) (by decide)).trans el119) (qr450 _ _ (qS93 _ _ (qb89 _ _ hs_b87))) (xTw_m tw9 hg451 qr450 (by decide))) (qr450 _ _ (qS93 _ _ (qb89 _ _ hs_y68))) ⟨by decide, rfl⟩ dL_law_1185 rfl rfl (by simp [Value.category]) (by decide) (by omega) (by omega) (by decide) (fun r459 S461 g460 pr459 qr459 hg460 => ?_)
          obtain ⟨rfl, z462, rfl, lz462, uz462, k463, k464, k465⟩ := pr459
          refine X_st [.int (iI z462)] rfl ?_
          obtain ⟨Fq466, eFq466, rFq466, mq466, qq466, tq466⟩ := k458
          obtain ⟨Gq466, eGq466, rGq466, mmq466, qqq466, uq466⟩ := k465
          have hcq466 : xTc (xv g94 b86) (xv g451 b87) k9 := (by rw [(xv_m hg451 (qS93 _ _ (qb89 _ _ hs_b87)) (by decide) (by decide))]; exact tc9)
          have hFq466 := (xTX.det (xTX.cg (fun i9 q1 q2 => hcq466 i9 q1 q2) tq466) uq466).1
          refine X_pop hK dL_law_1188 rfl ?_
          refine X_goto hK 1465 dL_law_1189 (by decide) ?_
          refine X_iinc hK (i := 4) (z := i9) (n := 6) 0 [(4, .int (iI (i9 + 6))), (3, .ref b89), (2, .ref b40), (1, .ref b1), (0, .ref b)] dL_law_1465 rfl (by decide) rfl ?_
          refine X_goto hK 23 dL_law_1468 (by decide) ?_
          exact ih9 S452 (xLe.tr qS93 qr450) g460 (i9 + 6) (0) t9 c9 b9 sh9 sp9 sm9 Fq466 tn9 (by omega) (by omega) (by omega) (by omega) (by omega) (by omega) (by omega) (by omega) (by omega) (by omega) (xLs_mod k454 hg460 (by decide)) k455 (xPi_m (xPi_m pi9 hg451 qr450 (by decide)) hg460 xLe.rf (by decide)) (xMp_m (xMp_m mp9 hg451 qr450 (by decide)) hg460 xLe.rf (by decide)) k464 ((hg460 b1 12 0 0 (qr450 _ _ (qS93 _ _ (qb89 _ _ hk70))) (by decide)).trans ((hg451 b1 12 0 0 (qS93 _ _ (qb89 _ _ hk70)) (by decide)).trans el09)) ((hg460 b1 12 0 3 (qr450 _ _ (qS93 _ _ (qb89 _ _ hk70))) (by decide)).trans ((hg451 b1 12 0 3 (qS93 _ _ (qb89 _ _ hk70)) (by decide)).trans el19)) ((hg460 b1 12 0 1 (qr450 _ _ (qS93 _ _ (qb89 _ _ hk70))) (by decide)).trans ((hg451 b1 12 0 1 (qS93 _ _ (qb89 _ _ hk70)) (by decide)).trans el29)) ((hg460 b38 6 0 1 (qr450 _ _ (qS93 _ _ (qb89 _ _ hk79))) (by decide)).trans ((hg451 b38 6 0 1 (qS93 _ _ (qb89 _ _ hk79)) (by decide)).trans el39)) ((hg460 b1 12 0 2 (qr450 _ _ (qS93 _ _ (qb89 _ _ hk70))) (by decide)).trans ((hg451 b1 12 0 2 (qS93 _ _ (qb89 _ _ hk70)) (by decide)).trans el49)) ((hg460 b21 4 0 0 (qr450 _ _ (qS93 _ _ (qb89 _ _ hk72))) (by decide)).trans ((hg451 b21 4 0 0 (qS93 _ _ (qb89 _ _ hk72)) (by decide)).trans el59)) ((hg460 b21 4 0 2 (qr450 _ _ (qS93 _ _ (qb89 _ _ hk72))) (by decide)).trans ((hg451 b21 4 0 2 (qS93 _ _ (qb89 _ _ hk72)) (by decide)).trans el69)) ((hg460 b21 4 0 3 (qr450 _ _ (qS93 _ _ (qb89 _ _ hk72))) (by decide)).trans ((hg451 b21 4 0 3 (qS93 _ _ (qb89 _ _ hk72)) (by decide)).trans el79)) ((hg460 b21 4 0 4 (qr450 _ _ (qS93 _ _ (qb89 _ _ hk72))) (by decide)).trans ((hg451 b21 4 0 4 (qS93 _ _ (qb89 _ _ hk72)) (by decide)).trans el89)) ((hg460 b1 12 0 4 (qr450 _ _ (qS93 _ _ (qb89 _ _ hk70))) (by decide)).trans ((hg451 b1 12 0 4 (qS93 _ _ (qb89 _ _ hk70)) (by decide)).trans el99)) ((hg460 b36 10 0 0 (qr450 _ _ (qS93 _ _ (qb89 _ _ hk77))) (by decide)).trans ((hg451 b36 10 0 0 (qS93 _ _ (qb89 _ _ hk77)) (by decide)).trans el109)) ((hg460 b40 13 0 1 (qr450 _ _ (qS93 _ _ (qb89 _ _ hs_y68))) (by decide)).trans ((hg451 b40 13 0 1 (qS93 _ _ (qb89 _ _ hs_y68)) (by decide)).trans el119)) ((hg460 b40 13 0 10 (qr450 _ _ (qS93 _ _ (qb89 _ _ hs_y68))) (by decide)).trans ((hg451 b40 13 0 10 (qS93 _ _ (qb89 _ _ hs_y68)) (by decide)).trans el129)) ((hg460 b40 13 0 13 (qr450 _ _ (qS93 _ _ (qb89 _ _ hs_y68))) (by decide)).trans ((hg451 b40 13 0 13 (qS93 _ _ (qb89 _ _ hs_y68)) (by decide)).trans el139)) ((hg460 b40 13 0 14 (qr450 _ _ (qS93 _ _ (qb89 _ _ hs_y68))) (by decide)).trans ((hg451 b40 13 0 14 (qS93 _ _ (qb89 _ _ hs_y68)) (by decide)).trans el149)) ((hg460 b40 13 0 12 (qr450 _ _ (qS93 _ _ (qb89 _ _ hs_y68))) (by decide)).trans ((hg451 b40 13 0 12 (qS93 _ _ (qb89 _ _ hs_y68)) (by decide)).trans el159)) ((hg460 b36 10 0 1 (qr450 _ _ (qS93 _ _ (qb89 _ _ hk77))) (by decide)).trans k457) k463 ((hg460 b1 12 0 12 (qr450 _ _ (qS93 _ _ (qb89 _ _ hk70))) (by decide)).trans ((hg451 b1 12 0 12 (qS93 _ _ (qb89 _ _ hk70)) (by decide)).trans ext9)) ((hg460 b40 13 0 3 (qr450 _ _ (qS93 _ _ (qb89 _ _ hs_y68))) (by decide)).trans ((hg451 b40 13 0 3 (qS93 _ _ (qb89 _ _ hs_y68)) (by decide)).trans emt9)) ((hg460 b37 5 0 3 (qr450 _ _ (qS93 _ _ (qb89 _ _ hk78))) (by decide)).trans ((hg451 b37 5 0 3 (qS93 _ _ (qb89 _ _ hk78)) (by decide)).trans exc9)) ((hg460 b40 13 0 69 (qr450 _ _ (qS93 _ _ (qb89 _ _ hs_y68))) (by decide)).trans ((hg451 b40 13 0 69 (qS93 _ _ (qb89 _ _ hs_y68)) (by decide)).trans emc9)) ((hg460 b39 0 0 2 (qr450 _ _ (qS93 _ _ (qb89 _ _ hk80))) (by decide)).trans ((hg451 b39 0 0 2 (qS93 _ _ (qb89 _ _ hk80)) (by decide)).trans exb9)) ((hg460 b40 13 0 16 (qr450 _ _ (qS93 _ _ (qb89 _ _ hs_y68))) (by decide)).trans ((hg451 b40 13 0 16 (qS93 _ _ (qb89 _ _ hs_y68)) (by decide)).trans emb9)) ((hg460 b1 12 0 16 (qr450 _ _ (qS93 _ _ (qb89 _ _ hk70))) (by decide)).trans ((hg451 b1 12 0 16 (qS93 _ _ (qb89 _ _ hk70)) (by decide)).trans exsh9)) ((hg460 b40 13 0 89 (qr450 _ _ (qS93 _ _ (qb89 _ _ hs_y68))) (by decide)).trans ((hg451 b40 13 0 89 (qS93 _ _ (qb89 _ _ hs_y68)) (by decide)).trans emsh9)) ((hg460 b1 12 0 17 (qr450 _ _ (qS93 _ _ (qb89 _ _ hk70))) (by decide)).trans ((hg451 b1 12 0 17 (qS93 _ _ (qb89 _ _ hk70)) (by decide)).trans exsp9)) ((hg460 b40 13 0 90 (qr450 _ _ (qS93 _ _ (qb89 _ _ hs_y68))) (by decide)).trans ((hg451 b40 13 0 90 (qS93 _ _ (qb89 _ _ hs_y68)) (by decide)).trans emsp9)) ((hg460 b40 13 0 17 (qr450 _ _ (qS93 _ _ (qb89 _ _ hs_y68))) (by decide)).trans ((hg451 b40 13 0 17 (qS93 _ _ (qb89 _ _ hs_y68)) (by decide)).trans emsm9)) ((hg460 b1 12 0 13 (qr450 _ _ (qS93 _ _ (qb89 _ _ hk70))) (by decide)).trans eFq466) (eGq466.trans (by rw [hFq466])) ((hg460 b20 300 0 2 (qr450 _ _ (qS93 _ _ (qb89 _ _ hk71))) (by decide)).trans ((hg451 b20 300 0 2 (qS93 _ _ (qb89 _ _ hk71)) (by decide)).trans extn9)) ((hg460 b40 13 0 39 (qr450 _ _ (qS93 _ _ (qb89 _ _ hs_y68))) (by decide)).trans ((hg451 b40 13 0 39 (qS93 _ _ (qb89 _ _ hs_y68)) (by decide)).trans emtn9)) (xWn.m (xWn.m wn9 (qS93 _ _ (qb89 _ _ hk76)) (qS93 _ _ (qb89 _ _ hk83)) hg451 qr450 (by decide)) (qr450 _ _ (qS93 _ _ (qb89 _ _ hk76))) (qr450 _ _ (qS93 _ _ (qb89 _ _ hk83))) hg460 xLe.rf (by decide)) (by rw [(Eq.trans (xv_m hg460 (qr450 _ _ (qS93 _ _ (qb89 _ _ hk74))) (by decide) (by decide)) (xv_m hg451 (qS93 _ _ (qb89 _ _ hk74)) (by decide) (by decide))), (Eq.trans (xv_m hg460 (qr450 _ _ (qS93 _ _ (qb89 _ _ hk81))) (by decide) (by decide)) (xv_m hg451 (qS93 _ _ (qb89 _ _ hk81)) (by decide) (by decide)))]; exact wt9) (by rw [(Eq.trans (xv_m hg460 (qr450 _ _ (qS93 _ _ (qb89 _ _ hk75))) (by decide) (by decide)) (xv_m hg451 (qS93 _ _ (qb89 _ _ hk75)) (by decide) (by decide))), (Eq.trans (xv_m hg460 (qr450 _ _ (qS93 _ _ (qb89 _ _ hk82))) (by decide) (by decide)) (xv_m hg451 (qS93 _ _ (qb89 _ _ hk82)) (by decide) (by decide)))]; exact ld9) (by rw [(Eq.trans (xv_m hg460 (qr450 _ _ (qS93 _ _ (qb89 _ _ hk73))) (by decide) (by decide)) (xv_m hg451 (qS93 _ _ (qb89 _ _ hk73)) (by decide) (by decide))), (Eq.trans (xv_m hg460 (qr450 _ _ (qS93 _ _ (qb89 _ _ hs_b88))) (by decide) (by decide)) (xv_m hg451 (qS93 _ _ (qb89 _ _ hs_b88)) (by decide) (by decide)))]; exact sk9) (by rw [(Eq.trans (xv_m hg460 (qr450 _ _ (qS93 _ _ (qb89 _ _ hs_b86))) (by decide) (by decide)) (xv_m hg451 (qS93 _ _ (qb89 _ _ hs_b86)) (by decide) (by decide))), (Eq.trans (xv_m hg460 (qr450 _ _ (qS93 _ _ (qb89 _ _ hs_b87))) (by decide) (by decide)) (xv_m hg451 (qS93 _ _ (qb89 _ _ hs_b87)) (by decide) (by decide)))]; exact xTc.mono tc9 (by omega)) (dc9 + dcr450) (ds9 + dsr450) (by omega) (by omega) (by omega)
        · refine X_tableIn hK 1192 26 (by decide) c98 (by decide) (by decide) dL_law_40 rfl (by decide) ?_
          refine X_aloadn hK (i := 1) 3 dL_law_1192 rfl rfl ?_
          refine X_callV hK [] [] lk_L_138 (c_X11_triedEaten _ _ _ _ _ S93 g94 b1 (qS93 _ _ (qb89 _ _ hk70))) (qS93 _ _ (qb89 _ _ hk70)) ⟨by decide, rfl⟩ dL_law_1193 rfl rfl (by simp [Value.category]) (by decide) (by omega) (by omega) (by decide) (fun r467 S469 g468 pr467 qr467 hg468 => ?_)
          obtain ⟨rfl, rfl, z470, rfl, lz470, uz470⟩ := pr467
          refine X_st [.int (iI z470)] rfl ?_
          refine X_pop hK dL_law_1196 rfl ?_
          refine X_aloadn hK (i := 2) 2 dL_law_1197 rfl rfl ?_
          refine X_callV hK [] [] lk_L_141 (c_X12_triedEaten _ _ _ _ _ S93 g94 b40 (qS93 _ _ (qb89 _ _ hs_y68))) (qS93 _ _ (qb89 _ _ hs_y68)) ⟨by decide, rfl⟩ dL_law_1198 rfl rfl (by simp [Value.category]) (by decide) (by omega) (by omega) (by decide) (fun r471 S473 g472 pr471 qr471 hg472 => ?_)
          obtain ⟨rfl, z474, rfl, lz474, uz474⟩ := pr471
          refine X_st [.int (iI z474)] rfl ?_
          refine X_pop hK dL_law_1201 rfl ?_
          refine X_goto hK 1465 dL_law_1202 (by decide) ?_
          refine X_iinc hK (i := 4) (z := i9) (n := 6) 0 [(4, .int (iI (i9 + 6))), (3, .ref b89), (2, .ref b40), (1, .ref b1), (0, .ref b)] dL_law_1465 rfl (by decide) rfl ?_
          refine X_goto hK 23 dL_law_1468 (by decide) ?_
          exact ih9 S93 qS93 g472 (i9 + 6) k9 t9 c9 b9 sh9 sp9 sm9 fa9 tn9 (by omega) (by omega) (by omega) (by omega) (by omega) (by omega) (by omega) (by omega) (by omega) (by omega) (xLs_mod al9 hg472 (by decide)) si9 (xPi_m pi9 hg472 xLe.rf (by decide)) (xMp_m mp9 hg472 xLe.rf (by decide)) (xTw_m tw9 hg472 xLe.rf (by decide)) ((hg472 b1 12 0 0 (qS93 _ _ (qb89 _ _ hk70)) (by decide)).trans el09) ((hg472 b1 12 0 3 (qS93 _ _ (qb89 _ _ hk70)) (by decide)).trans el19) ((hg472 b1 12 0 1 (qS93 _ _ (qb89 _ _ hk70)) (by decide)).trans el29) ((hg472 b38 6 0 1 (qS93 _ _ (qb89 _ _ hk79)) (by decide)).trans el39) ((hg472 b1 12 0 2 (qS93 _ _ (qb89 _ _ hk70)) (by decide)).trans el49) ((hg472 b21 4 0 0 (qS93 _ _ (qb89 _ _ hk72)) (by decide)).trans el59) ((hg472 b21 4 0 2 (qS93 _ _ (qb89 _ _ hk72)) (by decide)).trans el69) ((hg472 b21 4 0 3 (qS93 _ _ (qb89 _ _ hk72)) (by decide)).trans el79) ((hg472 b21 4 0 4 (qS93 _ _ (qb89 _ _ hk72)) (by decide)).trans el89) ((hg472 b1 12 0 4 (qS93 _ _ (qb89 _ _ hk70)) (by decide)).trans el99) ((hg472 b36 10 0 0 (qS93 _ _ (qb89 _ _ hk77)) (by decide)).trans el109) ((hg472 b40 13 0 1 (qS93 _ _ (qb89 _ _ hs_y68)) (by decide)).trans el119) ((hg472 b40 13 0 10 (qS93 _ _ (qb89 _ _ hs_y68)) (by decide)).trans el129) ((hg472 b40 13 0 13 (qS93 _ _ (qb89 _ _ hs_y68)) (by decide)).trans el139) ((hg472 b40 13 0 14 (qS93 _ _ (qb89 _ _ hs_y68)) (by decide)).trans el149) ((hg472 b40 13 0 12 (qS93 _ _ (qb89 _ _ hs_y68)) (by decide)).trans el159) ((hg472 b36 10 0 1 (qS93 _ _ (qb89 _ _ hk77)) (by decide)).trans exk9) ((hg472 b40 13 0 2 (qS93 _ _ (qb89 _ _ hs_y68)) (by decide)).trans emk9) ((hg472 b1 12 0 12 (qS93 _ _ (qb89 _ _ hk70)) (by decide)).trans ext9) ((hg472 b40 13 0 3 (qS93 _ _ (qb89 _ _ hs_y68)) (by decide)).trans emt9) ((hg472 b37 5 0 3 (qS93 _ _ (qb89 _ _ hk78)) (by decide)).trans exc9) ((hg472 b40 13 0 69 (qS93 _ _ (qb89 _ _ hs_y68)) (by decide)).trans emc9) ((hg472 b39 0 0 2 (qS93 _ _ (qb89 _ _ hk80)) (by decide)).trans exb9) ((hg472 b40 13 0 16 (qS93 _ _ (qb89 _ _ hs_y68)) (by decide)).trans emb9) ((hg472 b1 12 0 16 (qS93 _ _ (qb89 _ _ hk70)) (by decide)).trans exsh9) ((hg472 b40 13 0 89 (qS93 _ _ (qb89 _ _ hs_y68)) (by decide)).trans emsh9) ((hg472 b1 12 0 17 (qS93 _ _ (qb89 _ _ hk70)) (by decide)).trans exsp9) ((hg472 b40 13 0 90 (qS93 _ _ (qb89 _ _ hs_y68)) (by decide)).trans emsp9) ((hg472 b40 13 0 17 (qS93 _ _ (qb89 _ _ hs_y68)) (by decide)).trans emsm9) ((hg472 b1 12 0 13 (qS93 _ _ (qb89 _ _ hk70)) (by decide)).trans exfa9) ((hg472 b40 13 0 25 (qS93 _ _ (qb89 _ _ hs_y68)) (by decide)).trans emfa9) ((hg472 b20 300 0 2 (qS93 _ _ (qb89 _ _ hk71)) (by decide)).trans extn9) ((hg472 b40 13 0 39 (qS93 _ _ (qb89 _ _ hs_y68)) (by decide)).trans emtn9) (xWn.m wn9 (qS93 _ _ (qb89 _ _ hk76)) (qS93 _ _ (qb89 _ _ hk83)) hg472 xLe.rf (by decide)) (by rw [(xv_m hg472 (qS93 _ _ (qb89 _ _ hk74)) (by decide) (by decide)), (xv_m hg472 (qS93 _ _ (qb89 _ _ hk81)) (by decide) (by decide))]; exact wt9) (by rw [(xv_m hg472 (qS93 _ _ (qb89 _ _ hk75)) (by decide) (by decide)), (xv_m hg472 (qS93 _ _ (qb89 _ _ hk82)) (by decide) (by decide))]; exact ld9) (by rw [(xv_m hg472 (qS93 _ _ (qb89 _ _ hk73)) (by decide) (by decide)), (xv_m hg472 (qS93 _ _ (qb89 _ _ hs_b88)) (by decide) (by decide))]; exact sk9) (by rw [(xv_m hg472 (qS93 _ _ (qb89 _ _ hs_b86)) (by decide) (by decide)), (xv_m hg472 (qS93 _ _ (qb89 _ _ hs_b87)) (by decide) (by decide))]; exact xTc.mono tc9 (by omega)) dc9 ds9 (by omega) (by omega) (by omega)
        · refine X_tableIn hK 1205 27 (by decide) c98 (by decide) (by decide) dL_law_40 rfl (by decide) ?_
          refine X_aloadn hK (i := 1) 3 dL_law_1205 rfl rfl ?_
          refine X_aloadn hK (i := 0) 4 dL_law_1206 rfl rfl ?_
          refine X_iload hK (i := 4) 0 dL_law_1207 rfl ?_
          refine X_iconst hK dL_law_1209 ?_
          refine X_iadd hK dL_law_1210 ?_
          refine X_scr hK hX hbl hbA hL (by omega) (by omega) dL_law_1211 (fun z475 ez475 lz475 uz475 => ?_)
          refine X_aloadn hK (i := 0) 4 dL_law_1212 rfl rfl ?_
          refine X_iload hK (i := 4) 0 dL_law_1213 rfl ?_
          refine X_iconst hK dL_law_1215 ?_
          refine X_iadd hK dL_law_1216 ?_
          refine X_scr hK hX hbl hbA hL (by omega) (by omega) dL_law_1217 (fun z476 ez476 lz476 uz476 => ?_)
          refine X_aloadn hK (i := 0) 4 dL_law_1218 rfl rfl ?_
          refine X_iload hK (i := 4) 0 dL_law_1219 rfl ?_
          refine X_iconst hK dL_law_1221 ?_
          refine X_iadd hK dL_law_1222 ?_
          refine X_scr hK hX hbl hbA hL (by omega) (by omega) dL_law_1223 (fun z477 ez477 lz477 uz477 => ?_)
          refine X_callV hK [.int (iI z475), .int (iI z476), .int (iI z477)] [] lk_L_142 (c_X11_parted _ _ _ _ _ S93 g94 b1 z475 z476 z477 b36 k9 (qS93 _ _ (qb89 _ _ hk70)) (by omega) (by omega) (by omega) el09 (qS93 _ _ (qb89 _ _ hk77)) (by omega) exk9 pi9) (qS93 _ _ (qb89 _ _ hk70)) ⟨by decide, rfl⟩ dL_law_1224 rfl rfl (by simp [Value.category]) (by decide) (by omega) (by omega) (by decide) (fun r478 S480 g479 pr478 qr478 hg479 => ?_)
          obtain ⟨rfl, z481, rfl, lz481, uz481, k482, k483⟩ := pr478
          refine X_st [.int (iI z481)] rfl ?_
          refine X_pop hK dL_law_1227 rfl ?_
          refine X_aloadn hK (i := 2) 2 dL_law_1228 rfl rfl ?_
          refine X_aloadn hK (i := 0) 4 dL_law_1229 rfl rfl ?_
          refine X_iload hK (i := 4) 0 dL_law_1230 rfl ?_
          refine X_iconst hK dL_law_1232 ?_
          refine X_iadd hK dL_law_1233 ?_
          refine X_scrK hK hX hbl hbA hL (by omega) (by omega) ez475 dL_law_1234 ?_
          refine X_aloadn hK (i := 0) 4 dL_law_1235 rfl rfl ?_
          refine X_iload hK (i := 4) 0 dL_law_1236 rfl ?_
          refine X_iconst hK dL_law_1238 ?_
          refine X_iadd hK dL_law_1239 ?_
          refine X_scrK hK hX hbl hbA hL (by omega) (by omega) ez476 dL_law_1240 ?_
          refine X_aloadn hK (i := 0) 4 dL_law_1241 rfl rfl ?_
          refine X_iload hK (i := 4) 0 dL_law_1242 rfl ?_
          refine X_iconst hK dL_law_1244 ?_
          refine X_iadd hK dL_law_1245 ?_
          refine X_scrK hK hX hbl hbA hL (by omega) (by omega) ez477 dL_law_1246 ?_
          refine X_callV hK [.int (iI z475), .int (iI z476), .int (iI z477)] [] lk_L_146 (c_X12_parted _ _ _ _ _ S93 g479 b40 z475 z476 z477 k9 (qS93 _ _ (qb89 _ _ hs_y68)) (by omega) (by omega) (by omega) (by omega) ((hg479 b40 13 0 2 (qS93 _ _ (qb89 _ _ hs_y68)) (by decide)).trans emk9) (xMp_m mp9 hg479 xLe.rf (by decide))) (qS93 _ _ (qb89 _ _ hs_y68)) ⟨by decide, rfl⟩ dL_law_1247 rfl rfl (by simp [Value.category]) (by decide) (by omega) (by omega) (by decide) (fun r484 S486 g485 pr484 qr484 hg485 => ?_)
          obtain ⟨rfl, z487, rfl, lz487, uz487, k488, k489⟩ := pr484
          refine X_st [.int (iI z487)] rfl ?_
          refine X_pop hK dL_law_1250 rfl ?_
          refine X_goto hK 1465 dL_law_1251 (by decide) ?_
          refine X_iinc hK (i := 4) (z := i9) (n := 6) 0 [(4, .int (iI (i9 + 6))), (3, .ref b89), (2, .ref b40), (1, .ref b1), (0, .ref b)] dL_law_1465 rfl (by decide) rfl ?_
          refine X_goto hK 23 dL_law_1468 (by decide) ?_
          exact ih9 S93 qS93 g485 (i9 + 6) (0) t9 c9 b9 sh9 sp9 sm9 fa9 tn9 (by omega) (by omega) (by omega) (by omega) (by omega) (by omega) (by omega) (by omega) (by omega) (by omega) (xLs_mod (xLs_mod al9 hg479 (by decide)) hg485 (by decide)) si9 (xPi_m k483 hg485 xLe.rf (by decide)) k489 (xTw_m (xTw_m tw9 hg479 xLe.rf (by decide)) hg485 xLe.rf (by decide)) ((hg485 b1 12 0 0 (qS93 _ _ (qb89 _ _ hk70)) (by decide)).trans ((hg479 b1 12 0 0 (qS93 _ _ (qb89 _ _ hk70)) (by decide)).trans el09)) ((hg485 b1 12 0 3 (qS93 _ _ (qb89 _ _ hk70)) (by decide)).trans ((hg479 b1 12 0 3 (qS93 _ _ (qb89 _ _ hk70)) (by decide)).trans el19)) ((hg485 b1 12 0 1 (qS93 _ _ (qb89 _ _ hk70)) (by decide)).trans ((hg479 b1 12 0 1 (qS93 _ _ (qb89 _ _ hk70)) (by decide)).trans el29)) ((hg485 b38 6 0 1 (qS93 _ _ (qb89 _ _ hk79)) (by decide)).trans ((hg479 b38 6 0 1 (qS93 _ _ (qb89 _ _ hk79)) (by decide)).trans el39)) ((hg485 b1 12 0 2 (qS93 _ _ (qb89 _ _ hk70)) (by decide)).trans ((hg479 b1 12 0 2 (qS93 _ _ (qb89 _ _ hk70)) (by decide)).trans el49)) ((hg485 b21 4 0 0 (qS93 _ _ (qb89 _ _ hk72)) (by decide)).trans ((hg479 b21 4 0 0 (qS93 _ _ (qb89 _ _ hk72)) (by decide)).trans el59)) ((hg485 b21 4 0 2 (qS93 _ _ (qb89 _ _ hk72)) (by decide)).trans ((hg479 b21 4 0 2 (qS93 _ _ (qb89 _ _ hk72)) (by decide)).trans el69)) ((hg485 b21 4 0 3 (qS93 _ _ (qb89 _ _ hk72)) (by decide)).trans ((hg479 b21 4 0 3 (qS93 _ _ (qb89 _ _ hk72)) (by decide)).trans el79)) ((hg485 b21 4 0 4 (qS93 _ _ (qb89 _ _ hk72)) (by decide)).trans ((hg479 b21 4 0 4 (qS93 _ _ (qb89 _ _ hk72)) (by decide)).trans el89)) ((hg485 b1 12 0 4 (qS93 _ _ (qb89 _ _ hk70)) (by decide)).trans ((hg479 b1 12 0 4 (qS93 _ _ (qb89 _ _ hk70)) (by decide)).trans el99)) ((hg485 b36 10 0 0 (qS93 _ _ (qb89 _ _ hk77)) (by decide)).trans ((hg479 b36 10 0 0 (qS93 _ _ (qb89 _ _ hk77)) (by decide)).trans el109)) ((hg485 b40 13 0 1 (qS93 _ _ (qb89 _ _ hs_y68)) (by decide)).trans ((hg479 b40 13 0 1 (qS93 _ _ (qb89 _ _ hs_y68)) (by decide)).trans el119)) ((hg485 b40 13 0 10 (qS93 _ _ (qb89 _ _ hs_y68)) (by decide)).trans ((hg479 b40 13 0 10 (qS93 _ _ (qb89 _ _ hs_y68)) (by decide)).trans el129)) ((hg485 b40 13 0 13 (qS93 _ _ (qb89 _ _ hs_y68)) (by decide)).trans ((hg479 b40 13 0 13 (qS93 _ _ (qb89 _ _ hs_y68)) (by decide)).trans el139)) ((hg485 b40 13 0 14 (qS93 _ _ (qb89 _ _ hs_y68)) (by decide)).trans ((hg479 b40 13 0 14 (qS93 _ _ (qb89 _ _ hs_y68)) (by decide)).trans el149)) ((hg485 b40 13 0 12 (qS93 _ _ (qb89 _ _ hs_y68)) (by decide)).trans ((hg479 b40 13 0 12 (qS93 _ _ (qb89 _ _ hs_y68)) (by decide)).trans el159)) ((hg485 b36 10 0 1 (qS93 _ _ (qb89 _ _ hk77)) (by decide)).trans k482) k488 ((hg485 b1 12 0 12 (qS93 _ _ (qb89 _ _ hk70)) (by decide)).trans ((hg479 b1 12 0 12 (qS93 _ _ (qb89 _ _ hk70)) (by decide)).trans ext9)) ((hg485 b40 13 0 3 (qS93 _ _ (qb89 _ _ hs_y68)) (by decide)).trans ((hg479 b40 13 0 3 (qS93 _ _ (qb89 _ _ hs_y68)) (by decide)).trans emt9)) ((hg485 b37 5 0 3 (qS93 _ _ (qb89 _ _ hk78)) (by decide)).trans ((hg479 b37 5 0 3 (qS93 _ _ (qb89 _ _ hk78)) (by decide)).trans exc9)) ((hg485 b40 13 0 69 (qS93 _ _ (qb89 _ _ hs_y68)) (by decide)).trans ((hg479 b40 13 0 69 (qS93 _ _ (qb89 _ _ hs_y68)) (by decide)).trans emc9)) ((hg485 b39 0 0 2 (qS93 _ _ (qb89 _ _ hk80)) (by decide)).trans ((hg479 b39 0 0 2 (qS93 _ _ (qb89 _ _ hk80)) (by decide)).trans exb9)) ((hg485 b40 13 0 16 (qS93 _ _ (qb89 _ _ hs_y68)) (by decide)).trans ((hg479 b40 13 0 16 (qS93 _ _ (qb89 _ _ hs_y68)) (by decide)).trans emb9)) ((hg485 b1 12 0 16 (qS93 _ _ (qb89 _ _ hk70)) (by decide)).trans ((hg479 b1 12 0 16 (qS93 _ _ (qb89 _ _ hk70)) (by decide)).trans exsh9)) ((hg485 b40 13 0 89 (qS93 _ _ (qb89 _ _ hs_y68)) (by decide)).trans ((hg479 b40 13 0 89 (qS93 _ _ (qb89 _ _ hs_y68)) (by decide)).trans emsh9)) ((hg485 b1 12 0 17 (qS93 _ _ (qb89 _ _ hk70)) (by decide)).trans ((hg479 b1 12 0 17 (qS93 _ _ (qb89 _ _ hk70)) (by decide)).trans exsp9)) ((hg485 b40 13 0 90 (qS93 _ _ (qb89 _ _ hs_y68)) (by decide)).trans ((hg479 b40 13 0 90 (qS93 _ _ (qb89 _ _ hs_y68)) (by decide)).trans emsp9)) ((hg485 b40 13 0 17 (qS93 _ _ (qb89 _ _ hs_y68)) (by decide)).trans ((hg479 b40 13 0 17 (qS93 _ _ (qb89 _ _ hs_y68)) (by decide)).trans emsm9)) ((hg485 b1 12 0 13 (qS93 _ _ (qb89 _ _ hk70)) (by decide)).trans ((hg479 b1 12 0 13 (qS93 _ _ (qb89 _ _ hk70)) (by decide)).trans exfa9)) ((hg485 b40 13 0 25 (qS93 _ _ (qb89 _ _ hs_y68)) (by decide)).trans ((hg479 b40 13 0 25 (qS93 _ _ (qb89 _ _ hs_y68)) (by decide)).trans emfa9)) ((hg485 b20 300 0 2 (qS93 _ _ (qb89 _ _ hk71)) (by decide)).trans ((hg479 b20 300 0 2 (qS93 _ _ (qb89 _ _ hk71)) (by decide)).trans extn9)) ((hg485 b40 13 0 39 (qS93 _ _ (qb89 _ _ hs_y68)) (by decide)).trans ((hg479 b40 13 0 39 (qS93 _ _ (qb89 _ _ hs_y68)) (by decide)).trans emtn9)) (xWn.m (xWn.m wn9 (qS93 _ _ (qb89 _ _ hk76)) (qS93 _ _ (qb89 _ _ hk83)) hg479 xLe.rf (by decide)) (qS93 _ _ (qb89 _ _ hk76)) (qS93 _ _ (qb89 _ _ hk83)) hg485 xLe.rf (by decide)) (by rw [(Eq.trans (xv_m hg485 (qS93 _ _ (qb89 _ _ hk74)) (by decide) (by decide)) (xv_m hg479 (qS93 _ _ (qb89 _ _ hk74)) (by decide) (by decide))), (Eq.trans (xv_m hg485 (qS93 _ _ (qb89 _ _ hk81)) (by decide) (by decide)) (xv_m hg479 (qS93 _ _ (qb89 _ _ hk81)) (by decide) (by decide)))]; exact wt9) (by rw [(Eq.trans (xv_m hg485 (qS93 _ _ (qb89 _ _ hk75)) (by decide) (by decide)) (xv_m hg479 (qS93 _ _ (qb89 _ _ hk75)) (by decide) (by decide))), (Eq.trans (xv_m hg485 (qS93 _ _ (qb89 _ _ hk82)) (by decide) (by decide)) (xv_m hg479 (qS93 _ _ (qb89 _ _ hk82)) (by decide) (by decide)))]; exact ld9) (by rw [(Eq.trans (xv_m hg485 (qS93 _ _ (qb89 _ _ hk73)) (by decide) (by decide)) (xv_m hg479 (qS93 _ _ (qb89 _ _ hk73)) (by decide) (by decide))), (Eq.trans (xv_m hg485 (qS93 _ _ (qb89 _ _ hs_b88)) (by decide) (by decide)) (xv_m hg479 (qS93 _ _ (qb89 _ _ hs_b88)) (by decide) (by decide)))]; exact sk9) (by rw [(Eq.trans (xv_m hg485 (qS93 _ _ (qb89 _ _ hs_b86)) (by decide) (by decide)) (xv_m hg479 (qS93 _ _ (qb89 _ _ hs_b86)) (by decide) (by decide))), (Eq.trans (xv_m hg485 (qS93 _ _ (qb89 _ _ hs_b87)) (by decide) (by decide)) (xv_m hg479 (qS93 _ _ (qb89 _ _ hs_b87)) (by decide) (by decide)))]; exact xTc.mono tc9 (by omega)) dc9 ds9 (by omega) (by omega) (by omega)
        · refine X_tableIn hK 1254 28 (by decide) c98 (by decide) (by decide) dL_law_40 rfl (by decide) ?_
          refine X_aloadn hK (i := 1) 3 dL_law_1254 rfl rfl ?_
          refine X_aloadn hK (i := 0) 4 dL_law_1255 rfl rfl ?_
          refine X_iload hK (i := 4) 0 dL_law_1256 rfl ?_
          refine X_iconst hK dL_law_1258 ?_
          refine X_iadd hK dL_law_1259 ?_
          refine X_scr hK hX hbl hbA hL (by omega) (by omega) dL_law_1260 (fun z490 ez490 lz490 uz490 => ?_)
          refine X_callV hK [.int (iI z490)] [] lk_L_147 (c_X11_partedAt _ _ _ _ _ S93 g94 b1 z490 (qS93 _ _ (qb89 _ _ hk70)) (by omega)) (qS93 _ _ (qb89 _ _ hk70)) ⟨by decide, rfl⟩ dL_law_1261 rfl rfl (by simp [Value.category]) (by decide) (by omega) (by omega) (by decide) (fun r491 S493 g492 pr491 qr491 hg492 => ?_)
          obtain ⟨rfl, rfl, z494, rfl, lz494, uz494⟩ := pr491
          refine X_st [.int (iI z494)] rfl ?_
          refine X_pop hK dL_law_1264 rfl ?_
          refine X_aloadn hK (i := 2) 2 dL_law_1265 rfl rfl ?_
          refine X_aloadn hK (i := 0) 4 dL_law_1266 rfl rfl ?_
          refine X_iload hK (i := 4) 0 dL_law_1267 rfl ?_
          refine X_iconst hK dL_law_1269 ?_
          refine X_iadd hK dL_law_1270 ?_
          refine X_scrK hK hX hbl hbA hL (by omega) (by omega) ez490 dL_law_1271 ?_
          refine X_callV hK [.int (iI z490)] [] lk_L_150 (c_X12_partedAt _ _ _ _ _ S93 g94 b40 z490 (qS93 _ _ (qb89 _ _ hs_y68)) (by omega)) (qS93 _ _ (qb89 _ _ hs_y68)) ⟨by decide, rfl⟩ dL_law_1272 rfl rfl (by simp [Value.category]) (by decide) (by omega) (by omega) (by decide) (fun r495 S497 g496 pr495 qr495 hg496 => ?_)
          obtain ⟨rfl, z498, rfl, lz498, uz498⟩ := pr495
          refine X_st [.int (iI z498)] rfl ?_
          refine X_pop hK dL_law_1275 rfl ?_
          refine X_goto hK 1465 dL_law_1276 (by decide) ?_
          refine X_iinc hK (i := 4) (z := i9) (n := 6) 0 [(4, .int (iI (i9 + 6))), (3, .ref b89), (2, .ref b40), (1, .ref b1), (0, .ref b)] dL_law_1465 rfl (by decide) rfl ?_
          refine X_goto hK 23 dL_law_1468 (by decide) ?_
          exact ih9 S93 qS93 g496 (i9 + 6) k9 t9 c9 b9 sh9 sp9 sm9 fa9 tn9 (by omega) (by omega) (by omega) (by omega) (by omega) (by omega) (by omega) (by omega) (by omega) (by omega) (xLs_mod al9 hg496 (by decide)) si9 (xPi_m pi9 hg496 xLe.rf (by decide)) (xMp_m mp9 hg496 xLe.rf (by decide)) (xTw_m tw9 hg496 xLe.rf (by decide)) ((hg496 b1 12 0 0 (qS93 _ _ (qb89 _ _ hk70)) (by decide)).trans el09) ((hg496 b1 12 0 3 (qS93 _ _ (qb89 _ _ hk70)) (by decide)).trans el19) ((hg496 b1 12 0 1 (qS93 _ _ (qb89 _ _ hk70)) (by decide)).trans el29) ((hg496 b38 6 0 1 (qS93 _ _ (qb89 _ _ hk79)) (by decide)).trans el39) ((hg496 b1 12 0 2 (qS93 _ _ (qb89 _ _ hk70)) (by decide)).trans el49) ((hg496 b21 4 0 0 (qS93 _ _ (qb89 _ _ hk72)) (by decide)).trans el59) ((hg496 b21 4 0 2 (qS93 _ _ (qb89 _ _ hk72)) (by decide)).trans el69) ((hg496 b21 4 0 3 (qS93 _ _ (qb89 _ _ hk72)) (by decide)).trans el79) ((hg496 b21 4 0 4 (qS93 _ _ (qb89 _ _ hk72)) (by decide)).trans el89) ((hg496 b1 12 0 4 (qS93 _ _ (qb89 _ _ hk70)) (by decide)).trans el99) ((hg496 b36 10 0 0 (qS93 _ _ (qb89 _ _ hk77)) (by decide)).trans el109) ((hg496 b40 13 0 1 (qS93 _ _ (qb89 _ _ hs_y68)) (by decide)).trans el119) ((hg496 b40 13 0 10 (qS93 _ _ (qb89 _ _ hs_y68)) (by decide)).trans el129) ((hg496 b40 13 0 13 (qS93 _ _ (qb89 _ _ hs_y68)) (by decide)).trans el139) ((hg496 b40 13 0 14 (qS93 _ _ (qb89 _ _ hs_y68)) (by decide)).trans el149) ((hg496 b40 13 0 12 (qS93 _ _ (qb89 _ _ hs_y68)) (by decide)).trans el159) ((hg496 b36 10 0 1 (qS93 _ _ (qb89 _ _ hk77)) (by decide)).trans exk9) ((hg496 b40 13 0 2 (qS93 _ _ (qb89 _ _ hs_y68)) (by decide)).trans emk9) ((hg496 b1 12 0 12 (qS93 _ _ (qb89 _ _ hk70)) (by decide)).trans ext9) ((hg496 b40 13 0 3 (qS93 _ _ (qb89 _ _ hs_y68)) (by decide)).trans emt9) ((hg496 b37 5 0 3 (qS93 _ _ (qb89 _ _ hk78)) (by decide)).trans exc9) ((hg496 b40 13 0 69 (qS93 _ _ (qb89 _ _ hs_y68)) (by decide)).trans emc9) ((hg496 b39 0 0 2 (qS93 _ _ (qb89 _ _ hk80)) (by decide)).trans exb9) ((hg496 b40 13 0 16 (qS93 _ _ (qb89 _ _ hs_y68)) (by decide)).trans emb9) ((hg496 b1 12 0 16 (qS93 _ _ (qb89 _ _ hk70)) (by decide)).trans exsh9) ((hg496 b40 13 0 89 (qS93 _ _ (qb89 _ _ hs_y68)) (by decide)).trans emsh9) ((hg496 b1 12 0 17 (qS93 _ _ (qb89 _ _ hk70)) (by decide)).trans exsp9) ((hg496 b40 13 0 90 (qS93 _ _ (qb89 _ _ hs_y68)) (by decide)).trans emsp9) ((hg496 b40 13 0 17 (qS93 _ _ (qb89 _ _ hs_y68)) (by decide)).trans emsm9) ((hg496 b1 12 0 13 (qS93 _ _ (qb89 _ _ hk70)) (by decide)).trans exfa9) ((hg496 b40 13 0 25 (qS93 _ _ (qb89 _ _ hs_y68)) (by decide)).trans emfa9) ((hg496 b20 300 0 2 (qS93 _ _ (qb89 _ _ hk71)) (by decide)).trans extn9) ((hg496 b40 13 0 39 (qS93 _ _ (qb89 _ _ hs_y68)) (by decide)).trans emtn9) (xWn.m wn9 (qS93 _ _ (qb89 _ _ hk76)) (qS93 _ _ (qb89 _ _ hk83)) hg496 xLe.rf (by decide)) (by rw [(xv_m hg496 (qS93 _ _ (qb89 _ _ hk74)) (by decide) (by decide)), (xv_m hg496 (qS93 _ _ (qb89 _ _ hk81)) (by decide) (by decide))]; exact wt9) (by rw [(xv_m hg496 (qS93 _ _ (qb89 _ _ hk75)) (by decide) (by decide)), (xv_m hg496 (qS93 _ _ (qb89 _ _ hk82)) (by decide) (by decide))]; exact ld9) (by rw [(xv_m hg496 (qS93 _ _ (qb89 _ _ hk73)) (by decide) (by decide)), (xv_m hg496 (qS93 _ _ (qb89 _ _ hs_b88)) (by decide) (by decide))]; exact sk9) (by rw [(xv_m hg496 (qS93 _ _ (qb89 _ _ hs_b86)) (by decide) (by decide)), (xv_m hg496 (qS93 _ _ (qb89 _ _ hs_b87)) (by decide) (by decide))]; exact xTc.mono tc9 (by omega)) dc9 ds9 (by omega) (by omega) (by omega)
        · refine X_tableIn hK 1279 29 (by decide) c98 (by decide) (by decide) dL_law_40 rfl (by decide) ?_
          refine X_aloadn hK (i := 1) 3 dL_law_1279 rfl rfl ?_
          refine X_aloadn hK (i := 0) 4 dL_law_1280 rfl rfl ?_
          refine X_iload hK (i := 4) 0 dL_law_1281 rfl ?_
          refine X_iconst hK dL_law_1283 ?_
          refine X_iadd hK dL_law_1284 ?_
          refine X_scr hK hX hbl hbA hL (by omega) (by omega) dL_law_1285 (fun z499 ez499 lz499 uz499 => ?_)
          refine X_callV hK [.int (iI z499)] [] lk_L_151 (c_X11_peace _ _ _ _ _ S93 g94 b1 z499 (qS93 _ _ (qb89 _ _ hk70)) (by omega) pi9) (qS93 _ _ (qb89 _ _ hk70)) ⟨by decide, rfl⟩ dL_law_1286 rfl rfl (by simp [Value.category]) (by decide) (by omega) (by omega) (by decide) (fun r500 S502 g501 pr500 qr500 hg501 => ?_)
          obtain ⟨rfl, rfl, z503, rfl, lz503, uz503⟩ := pr500
          refine X_st [.int (iI z503)] rfl ?_
          refine X_pop hK dL_law_1289 rfl ?_
          refine X_aloadn hK (i := 2) 2 dL_law_1290 rfl rfl ?_
          refine X_aloadn hK (i := 0) 4 dL_law_1291 rfl rfl ?_
          refine X_iload hK (i := 4) 0 dL_law_1292 rfl ?_
          refine X_iconst hK dL_law_1294 ?_
          refine X_iadd hK dL_law_1295 ?_
          refine X_scrK hK hX hbl hbA hL (by omega) (by omega) ez499 dL_law_1296 ?_
          refine X_callV hK [.int (iI z499)] [] lk_L_154 (c_X12_peace _ _ _ _ _ S93 g94 b40 z499 (qS93 _ _ (qb89 _ _ hs_y68)) (by omega) mp9) (qS93 _ _ (qb89 _ _ hs_y68)) ⟨by decide, rfl⟩ dL_law_1297 rfl rfl (by simp [Value.category]) (by decide) (by omega) (by omega) (by decide) (fun r504 S506 g505 pr504 qr504 hg505 => ?_)
          obtain ⟨rfl, z507, rfl, lz507, uz507⟩ := pr504
          refine X_st [.int (iI z507)] rfl ?_
          refine X_pop hK dL_law_1300 rfl ?_
          refine X_goto hK 1465 dL_law_1301 (by decide) ?_
          refine X_iinc hK (i := 4) (z := i9) (n := 6) 0 [(4, .int (iI (i9 + 6))), (3, .ref b89), (2, .ref b40), (1, .ref b1), (0, .ref b)] dL_law_1465 rfl (by decide) rfl ?_
          refine X_goto hK 23 dL_law_1468 (by decide) ?_
          exact ih9 S93 qS93 g505 (i9 + 6) k9 t9 c9 b9 sh9 sp9 sm9 fa9 tn9 (by omega) (by omega) (by omega) (by omega) (by omega) (by omega) (by omega) (by omega) (by omega) (by omega) (xLs_mod al9 hg505 (by decide)) si9 (xPi_m pi9 hg505 xLe.rf (by decide)) (xMp_m mp9 hg505 xLe.rf (by decide)) (xTw_m tw9 hg505 xLe.rf (by decide)) ((hg505 b1 12 0 0 (qS93 _ _ (qb89 _ _ hk70)) (by decide)).trans el09) ((hg505 b1 12 0 3 (qS93 _ _ (qb89 _ _ hk70)) (by decide)).trans el19) ((hg505 b1 12 0 1 (qS93 _ _ (qb89 _ _ hk70)) (by decide)).trans el29) ((hg505 b38 6 0 1 (qS93 _ _ (qb89 _ _ hk79)) (by decide)).trans el39) ((hg505 b1 12 0 2 (qS93 _ _ (qb89 _ _ hk70)) (by decide)).trans el49) ((hg505 b21 4 0 0 (qS93 _ _ (qb89 _ _ hk72)) (by decide)).trans el59) ((hg505 b21 4 0 2 (qS93 _ _ (qb89 _ _ hk72)) (by decide)).trans el69) ((hg505 b21 4 0 3 (qS93 _ _ (qb89 _ _ hk72)) (by decide)).trans el79) ((hg505 b21 4 0 4 (qS93 _ _ (qb89 _ _ hk72)) (by decide)).trans el89) ((hg505 b1 12 0 4 (qS93 _ _ (qb89 _ _ hk70)) (by decide)).trans el99) ((hg505 b36 10 0 0 (qS93 _ _ (qb89 _ _ hk77)) (by decide)).trans el109) ((hg505 b40 13 0 1 (qS93 _ _ (qb89 _ _ hs_y68)) (by decide)).trans el119) ((hg505 b40 13 0 10 (qS93 _ _ (qb89 _ _ hs_y68)) (by decide)).trans el129) ((hg505 b40 13 0 13 (qS93 _ _ (qb89 _ _ hs_y68)) (by decide)).trans el139) ((hg505 b40 13 0 14 (qS93 _ _ (qb89 _ _ hs_y68)) (by decide)).trans el149) ((hg505 b40 13 0 12 (qS93 _ _ (qb89 _ _ hs_y68)) (by decide)).trans el159) ((hg505 b36 10 0 1 (qS93 _ _ (qb89 _ _ hk77)) (by decide)).trans exk9) ((hg505 b40 13 0 2 (qS93 _ _ (qb89 _ _ hs_y68)) (by decide)).trans emk9) ((hg505 b1 12 0 12 (qS93 _ _ (qb89 _ _ hk70)) (by decide)).trans ext9) ((hg505 b40 13 0 3 (qS93 _ _ (qb89 _ _ hs_y68)) (by decide)).trans emt9) ((hg505 b37 5 0 3 (qS93 _ _ (qb89 _ _ hk78)) (by decide)).trans exc9) ((hg505 b40 13 0 69 (qS93 _ _ (qb89 _ _ hs_y68)) (by decide)).trans emc9) ((hg505 b39 0 0 2 (qS93 _ _ (qb89 _ _ hk80)) (by decide)).trans exb9) ((hg505 b40 13 0 16 (qS93 _ _ (qb89 _ _ hs_y68)) (by decide)).trans emb9) ((hg505 b1 12 0 16 (qS93 _ _ (qb89 _ _ hk70)) (by decide)).trans exsh9) ((hg505 b40 13 0 89 (qS93 _ _ (qb89 _ _ hs_y68)) (by decide)).trans emsh9) ((hg505 b1 12 0 17 (qS93 _ _ (qb89 _ _ hk70)) (by decide)).trans exsp9) ((hg505 b40 13 0 90 (qS93 _ _ (qb89 _ _ hs_y68)) (by decide)).trans emsp9) ((hg505 b40 13 0 17 (qS93 _ _ (qb89 _ _ hs_y68)) (by decide)).trans emsm9) ((hg505 b1 12 0 13 (qS93 _ _ (qb89 _ _ hk70)) (by decide)).trans exfa9) ((hg505 b40 13 0 25 (qS93 _ _ (qb89 _ _ hs_y68)) (by decide)).trans emfa9) ((hg505 b20 300 0 2 (qS93 _ _ (qb89 _ _ hk71)) (by decide)).trans extn9) ((hg505 b40 13 0 39 (qS93 _ _ (qb89 _ _ hs_y68)) (by decide)).trans emtn9) (xWn.m wn9 (qS93 _ _ (qb89 _ _ hk76)) (qS93 _ _ (qb89 _ _ hk83)) hg505 xLe.rf (by decide)) (by rw [(xv_m hg505 (qS93 _ _ (qb89 _ _ hk74)) (by decide) (by decide)), (xv_m hg505 (qS93 _ _ (qb89 _ _ hk81)) (by decide) (by decide))]; exact wt9) (by rw [(xv_m hg505 (qS93 _ _ (qb89 _ _ hk75)) (by decide) (by decide)), (xv_m hg505 (qS93 _ _ (qb89 _ _ hk82)) (by decide) (by decide))]; exact ld9) (by rw [(xv_m hg505 (qS93 _ _ (qb89 _ _ hk73)) (by decide) (by decide)), (xv_m hg505 (qS93 _ _ (qb89 _ _ hs_b88)) (by decide) (by decide))]; exact sk9) (by rw [(xv_m hg505 (qS93 _ _ (qb89 _ _ hs_b86)) (by decide) (by decide)), (xv_m hg505 (qS93 _ _ (qb89 _ _ hs_b87)) (by decide) (by decide))]; exact xTc.mono tc9 (by omega)) dc9 ds9 (by omega) (by omega) (by omega)
        · refine X_tableIn hK 1304 30 (by decide) c98 (by decide) (by decide) dL_law_40 rfl (by decide) ?_
          refine X_aloadn hK (i := 1) 3 dL_law_1304 rfl rfl ?_
          refine X_callVU hK [] [] lk_L_155 (c_X11_truck _ _ _ _ _ S93 g94 b1 b36 k9 (qS93 _ _ (qb89 _ _ hk70)) el09 (qS93 _ _ (qb89 _ _ hk77)) (by omega) exk9 si9) (qS93 _ _ (qb89 _ _ hk70)) ⟨by decide, rfl⟩ dL_law_1305 rfl rfl (by simp [Value.category]) (by decide) (by omega) (by omega) (by decide) (fun r508 S510 g509 dcr508 dsr508 pr508 qr508 hg509 => ?_)
          obtain ⟨wr508, z511, rfl, lz511, uz511, k512, k513, k514⟩ := pr508
          have A515 : xLs S510 g509 := xLs_al al9 hg509 (by decide) qr508 wr508 (by decide)
          refine X_st [.int (iI z511)] rfl ?_
          refine X_pop hK dL_law_1308 rfl ?_
          refine X_aloadn hK (i := 2) 2 dL_law_1309 rfl rfl ?_
          refine X_knowr 19100 10 (qr508 _ _ (qS93 _ _ (qb89 _ _ hs_y68))) (by decide) sl_13_85 (fun b516 eb516 hs_b516 => ?_)
          refine X_callV hK [] [] lk_L_158 (c_X12_truck _ _ _ _ _ S510 g509 b40 k9 b516 (qr508 _ _ (qS93 _ _ (qb89 _ _ hs_y68))) (by omega) ((hg509 b40 13 0 2 (qS93 _ _ (qb89 _ _ hs_y68)) (by decide)).trans emk9) eb516 hs_b516) (qr508 _ _ (qS93 _ _ (qb89 _ _ hs_y68))) ⟨by decide, rfl⟩ dL_law_1310 rfl rfl (by simp [Value.category]) (by decide) (by omega) (by omega) (by decide) (fun r517 S519 g518 pr517 qr517 hg518 => ?_)
          obtain ⟨rfl, z520, rfl, lz520, uz520, k521⟩ := pr517
          refine X_st [.int (iI z520)] rfl ?_
          refine X_pop hK dL_law_1313 rfl ?_
          refine X_goto hK 1465 dL_law_1314 (by decide) ?_
          refine X_iinc hK (i := 4) (z := i9) (n := 6) 0 [(4, .int (iI (i9 + 6))), (3, .ref b89), (2, .ref b40), (1, .ref b1), (0, .ref b)] dL_law_1465 rfl (by decide) rfl ?_
          refine X_goto hK 23 dL_law_1468 (by decide) ?_
          exact ih9 S510 (xLe.tr qS93 qr508) g518 (i9 + 6) (0) t9 c9 b9 sh9 sp9 sm9 fa9 tn9 (by omega) (by omega) (by omega) (by omega) (by omega) (by omega) (by omega) (by omega) (by omega) (by omega) (xLs_mod A515 hg518 (by decide)) k512 (xPi_m (xPi_m pi9 hg509 qr508 (by decide)) hg518 xLe.rf (by decide)) (xMp_m (xMp_m mp9 hg509 qr508 (by decide)) hg518 xLe.rf (by decide)) (xTw_m (xTw_m tw9 hg509 qr508 (by decide)) hg518 xLe.rf (by decide)) ((hg518 b1 12 0 0 (qr508 _ _ (qS93 _ _ (qb89 _ _ hk70))) (by decide)).trans ((hg509 b1 12 0 0 (qS93 _ _ (qb89 _ _ hk70)) (by decide)).trans el09)) ((hg518 b1 12 0 3 (qr508 _ _ (qS93 _ _ (qb89 _ _ hk70))) (by decide)).trans ((hg509 b1 12 0 3 (qS93 _ _ (qb89 _ _ hk70)) (by decide)).trans el19)) ((hg518 b1 12 0 1 (qr508 _ _ (qS93 _ _ (qb89 _ _ hk70))) (by decide)).trans ((hg509 b1 12 0 1 (qS93 _ _ (qb89 _ _ hk70)) (by decide)).trans el29)) ((hg518 b38 6 0 1 (qr508 _ _ (qS93 _ _ (qb89 _ _ hk79))) (by decide)).trans ((hg509 b38 6 0 1 (qS93 _ _ (qb89 _ _ hk79)) (by decide)).trans el39)) ((hg518 b1 12 0 2 (qr508 _ _ (qS93 _ _ (qb89 _ _ hk70))) (by decide)).trans ((hg509 b1 12 0 2 (qS93 _ _ (qb89 _ _ hk70)) (by decide)).trans el49)) ((hg518 b21 4 0 0 (qr508 _ _ (qS93 _ _ (qb89 _ _ hk72))) (by decide)).trans ((hg509 b21 4 0 0 (qS93 _ _ (qb89 _ _ hk72)) (by decide)).trans el59)) ((hg518 b21 4 0 2 (qr508 _ _ (qS93 _ _ (qb89 _ _ hk72))) (by decide)).trans ((hg509 b21 4 0 2 (qS93 _ _ (qb89 _ _ hk72)) (by decide)).trans el69)) ((hg518 b21 4 0 3 (qr508 _ _ (qS93 _ _ (qb89 _ _ hk72))) (by decide)).trans ((hg509 b21 4 0 3 (qS93 _ _ (qb89 _ _ hk72)) (by decide)).trans el79)) ((hg518 b21 4 0 4 (qr508 _ _ (qS93 _ _ (qb89 _ _ hk72))) (by decide)).trans ((hg509 b21 4 0 4 (qS93 _ _ (qb89 _ _ hk72)) (by decide)).trans el89)) ((hg518 b1 12 0 4 (qr508 _ _ (qS93 _ _ (qb89 _ _ hk70))) (by decide)).trans ((hg509 b1 12 0 4 (qS93 _ _ (qb89 _ _ hk70)) (by decide)).trans el99)) ((hg518 b36 10 0 0 (qr508 _ _ (qS93 _ _ (qb89 _ _ hk77))) (by decide)).trans ((hg509 b36 10 0 0 (qS93 _ _ (qb89 _ _ hk77)) (by decide)).trans el109)) ((hg518 b40 13 0 1 (qr508 _ _ (qS93 _ _ (qb89 _ _ hs_y68))) (by decide)).trans ((hg509 b40 13 0 1 (qS93 _ _ (qb89 _ _ hs_y68)) (by decide)).trans el119)) ((hg518 b40 13 0 10 (qr508 _ _ (qS93 _ _ (qb89 _ _ hs_y68))) (by decide)).trans ((hg509 b40 13 0 10 (qS93 _ _ (qb89 _ _ hs_y68)) (by decide)).trans el129)) ((hg518 b40 13 0 13 (qr508 _ _ (qS93 _ _ (qb89 _ _ hs_y68))) (by decide)).trans ((hg509 b40 13 0 13 (qS93 _ _ (qb89 _ _ hs_y68)) (by decide)).trans el139)) ((hg518 b40 13 0 14 (qr508 _ _ (qS93 _ _ (qb89 _ _ hs_y68))) (by decide)).trans ((hg509 b40 13 0 14 (qS93 _ _ (qb89 _ _ hs_y68)) (by decide)).trans el149)) ((hg518 b40 13 0 12 (qr508 _ _ (qS93 _ _ (qb89 _ _ hs_y68))) (by decide)).trans ((hg509 b40 13 0 12 (qS93 _ _ (qb89 _ _ hs_y68)) (by decide)).trans el159)) ((hg518 b36 10 0 1 (qr508 _ _ (qS93 _ _ (qb89 _ _ hk77))) (by decide)).trans k514) k521 ((hg518 b1 12 0 12 (qr508 _ _ (qS93 _ _ (qb89 _ _ hk70))) (by decide)).trans ((hg509 b1 12 0 12 (qS93 _ _ (qb89 _ _ hk70)) (by decide)).trans ext9)) ((hg518 b40 13 0 3 (qr508 _ _ (qS93 _ _ (qb89 _ _ hs_y68))) (by decide)).trans ((hg509 b40 13 0 3 (qS93 _ _ (qb89 _ _ hs_y68)) (by decide)).trans emt9)) ((hg518 b37 5 0 3 (qr508 _ _ (qS93 _ _ (qb89 _ _ hk78))) (by decide)).trans ((hg509 b37 5 0 3 (qS93 _ _ (qb89 _ _ hk78)) (by decide)).trans exc9)) ((hg518 b40 13 0 69 (qr508 _ _ (qS93 _ _ (qb89 _ _ hs_y68))) (by decide)).trans ((hg509 b40 13 0 69 (qS93 _ _ (qb89 _ _ hs_y68)) (by decide)).trans emc9)) ((hg518 b39 0 0 2 (qr508 _ _ (qS93 _ _ (qb89 _ _ hk80))) (by decide)).trans ((hg509 b39 0 0 2 (qS93 _ _ (qb89 _ _ hk80)) (by decide)).trans exb9)) ((hg518 b40 13 0 16 (qr508 _ _ (qS93 _ _ (qb89 _ _ hs_y68))) (by decide)).trans ((hg509 b40 13 0 16 (qS93 _ _ (qb89 _ _ hs_y68)) (by decide)).trans emb9)) ((hg518 b1 12 0 16 (qr508 _ _ (qS93 _ _ (qb89 _ _ hk70))) (by decide)).trans ((hg509 b1 12 0 16 (qS93 _ _ (qb89 _ _ hk70)) (by decide)).trans exsh9)) ((hg518 b40 13 0 89 (qr508 _ _ (qS93 _ _ (qb89 _ _ hs_y68))) (by decide)).trans ((hg509 b40 13 0 89 (qS93 _ _ (qb89 _ _ hs_y68)) (by decide)).trans emsh9)) ((hg518 b1 12 0 17 (qr508 _ _ (qS93 _ _ (qb89 _ _ hk70))) (by decide)).trans ((hg509 b1 12 0 17 (qS93 _ _ (qb89 _ _ hk70)) (by decide)).trans exsp9)) ((hg518 b40 13 0 90 (qr508 _ _ (qS93 _ _ (qb89 _ _ hs_y68))) (by decide)).trans ((hg509 b40 13 0 90 (qS93 _ _ (qb89 _ _ hs_y68)) (by decide)).trans emsp9)) ((hg518 b40 13 0 17 (qr508 _ _ (qS93 _ _ (qb89 _ _ hs_y68))) (by decide)).trans ((hg509 b40 13 0 17 (qS93 _ _ (qb89 _ _ hs_y68)) (by decide)).trans emsm9)) ((hg518 b1 12 0 13 (qr508 _ _ (qS93 _ _ (qb89 _ _ hk70))) (by decide)).trans ((hg509 b1 12 0 13 (qS93 _ _ (qb89 _ _ hk70)) (by decide)).trans exfa9)) ((hg518 b40 13 0 25 (qr508 _ _ (qS93 _ _ (qb89 _ _ hs_y68))) (by decide)).trans ((hg509 b40 13 0 25 (qS93 _ _ (qb89 _ _ hs_y68)) (by decide)).trans emfa9)) ((hg518 b20 300 0 2 (qr508 _ _ (qS93 _ _ (qb89 _ _ hk71))) (by decide)).trans ((hg509 b20 300 0 2 (qS93 _ _ (qb89 _ _ hk71)) (by decide)).trans extn9)) ((hg518 b40 13 0 39 (qr508 _ _ (qS93 _ _ (qb89 _ _ hs_y68))) (by decide)).trans ((hg509 b40 13 0 39 (qS93 _ _ (qb89 _ _ hs_y68)) (by decide)).trans emtn9)) (xWn.m (xWn.m wn9 (qS93 _ _ (qb89 _ _ hk76)) (qS93 _ _ (qb89 _ _ hk83)) hg509 qr508 (by decide)) (qr508 _ _ (qS93 _ _ (qb89 _ _ hk76))) (qr508 _ _ (qS93 _ _ (qb89 _ _ hk83))) hg518 xLe.rf (by decide)) (by rw [(Eq.trans (xv_m hg518 (qr508 _ _ (qS93 _ _ (qb89 _ _ hk74))) (by decide) (by decide)) (xv_m hg509 (qS93 _ _ (qb89 _ _ hk74)) (by decide) (by decide))), (Eq.trans (xv_m hg518 (qr508 _ _ (qS93 _ _ (qb89 _ _ hk81))) (by decide) (by decide)) (xv_m hg509 (qS93 _ _ (qb89 _ _ hk81)) (by decide) (by decide)))]; exact wt9) (by rw [(Eq.trans (xv_m hg518 (qr508 _ _ (qS93 _ _ (qb89 _ _ hk75))) (by decide) (by decide)) (xv_m hg509 (qS93 _ _ (qb89 _ _ hk75)) (by decide) (by decide))), (Eq.trans (xv_m hg518 (qr508 _ _ (qS93 _ _ (qb89 _ _ hk82))) (by decide) (by decide)) (xv_m hg509 (qS93 _ _ (qb89 _ _ hk82)) (by decide) (by decide)))]; exact ld9) (by rw [(Eq.trans (xv_m hg518 (qr508 _ _ (qS93 _ _ (qb89 _ _ hk73))) (by decide) (by decide)) (xv_m hg509 (qS93 _ _ (qb89 _ _ hk73)) (by decide) (by decide))), (Eq.trans (xv_m hg518 (qr508 _ _ (qS93 _ _ (qb89 _ _ hs_b88))) (by decide) (by decide)) (xv_m hg509 (qS93 _ _ (qb89 _ _ hs_b88)) (by decide) (by decide)))]; exact sk9) (by rw [(Eq.trans (xv_m hg518 (qr508 _ _ (qS93 _ _ (qb89 _ _ hs_b86))) (by decide) (by decide)) (xv_m hg509 (qS93 _ _ (qb89 _ _ hs_b86)) (by decide) (by decide))), (Eq.trans (xv_m hg518 (qr508 _ _ (qS93 _ _ (qb89 _ _ hs_b87))) (by decide) (by decide)) (xv_m hg509 (qS93 _ _ (qb89 _ _ hs_b87)) (by decide) (by decide)))]; exact xTc.mono tc9 (by omega)) (dc9 + dcr508) (ds9 + dsr508) (by omega) (by omega) (by omega)
        · refine X_tableIn hK 1317 31 (by decide) c98 (by decide) (by decide) dL_law_40 rfl (by decide) ?_
          refine X_aloadn hK (i := 1) 3 dL_law_1317 rfl rfl ?_
          refine X_aloadn hK (i := 0) 4 dL_law_1318 rfl rfl ?_
          refine X_iload hK (i := 4) 0 dL_law_1319 rfl ?_
          refine X_iconst hK dL_law_1321 ?_
          refine X_iadd hK dL_law_1322 ?_
          refine X_scr hK hX hbl hbA hL (by omega) (by omega) dL_law_1323 (fun z522 ez522 lz522 uz522 => ?_)
          refine X_callV hK [.int (iI z522)] [] lk_L_159 (c_X11_truckAt _ _ _ _ _ S93 g94 b1 z522 (qS93 _ _ (qb89 _ _ hk70)) (by omega)) (qS93 _ _ (qb89 _ _ hk70)) ⟨by decide, rfl⟩ dL_law_1324 rfl rfl (by simp [Value.category]) (by decide) (by omega) (by omega) (by decide) (fun r523 S525 g524 pr523 qr523 hg524 => ?_)
          obtain ⟨rfl, rfl, z526, rfl, lz526, uz526⟩ := pr523
          refine X_st [.int (iI z526)] rfl ?_
          refine X_pop hK dL_law_1327 rfl ?_
          refine X_aloadn hK (i := 2) 2 dL_law_1328 rfl rfl ?_
          refine X_aloadn hK (i := 0) 4 dL_law_1329 rfl rfl ?_
          refine X_iload hK (i := 4) 0 dL_law_1330 rfl ?_
          refine X_iconst hK dL_law_1332 ?_
          refine X_iadd hK dL_law_1333 ?_
          refine X_scrK hK hX hbl hbA hL (by omega) (by omega) ez522 dL_law_1334 ?_
          refine X_callV hK [.int (iI z522)] [] lk_L_162 (c_X12_truckAt _ _ _ _ _ S93 g94 b40 z522 (qS93 _ _ (qb89 _ _ hs_y68)) (by omega)) (qS93 _ _ (qb89 _ _ hs_y68)) ⟨by decide, rfl⟩ dL_law_1335 rfl rfl (by simp [Value.category]) (by decide) (by omega) (by omega) (by decide) (fun r527 S529 g528 pr527 qr527 hg528 => ?_)
          obtain ⟨rfl, z530, rfl, lz530, uz530⟩ := pr527
          refine X_st [.int (iI z530)] rfl ?_
          refine X_pop hK dL_law_1338 rfl ?_
          refine X_goto hK 1465 dL_law_1339 (by decide) ?_
          refine X_iinc hK (i := 4) (z := i9) (n := 6) 0 [(4, .int (iI (i9 + 6))), (3, .ref b89), (2, .ref b40), (1, .ref b1), (0, .ref b)] dL_law_1465 rfl (by decide) rfl ?_
          refine X_goto hK 23 dL_law_1468 (by decide) ?_
          exact ih9 S93 qS93 g528 (i9 + 6) k9 t9 c9 b9 sh9 sp9 sm9 fa9 tn9 (by omega) (by omega) (by omega) (by omega) (by omega) (by omega) (by omega) (by omega) (by omega) (by omega) (xLs_mod al9 hg528 (by decide)) si9 (xPi_m pi9 hg528 xLe.rf (by decide)) (xMp_m mp9 hg528 xLe.rf (by decide)) (xTw_m tw9 hg528 xLe.rf (by decide)) ((hg528 b1 12 0 0 (qS93 _ _ (qb89 _ _ hk70)) (by decide)).trans el09) ((hg528 b1 12 0 3 (qS93 _ _ (qb89 _ _ hk70)) (by decide)).trans el19) ((hg528 b1 12 0 1 (qS93 _ _ (qb89 _ _ hk70)) (by decide)).trans el29) ((hg528 b38 6 0 1 (qS93 _ _ (qb89 _ _ hk79)) (by decide)).trans el39) ((hg528 b1 12 0 2 (qS93 _ _ (qb89 _ _ hk70)) (by decide)).trans el49) ((hg528 b21 4 0 0 (qS93 _ _ (qb89 _ _ hk72)) (by decide)).trans el59) ((hg528 b21 4 0 2 (qS93 _ _ (qb89 _ _ hk72)) (by decide)).trans el69) ((hg528 b21 4 0 3 (qS93 _ _ (qb89 _ _ hk72)) (by decide)).trans el79) ((hg528 b21 4 0 4 (qS93 _ _ (qb89 _ _ hk72)) (by decide)).trans el89) ((hg528 b1 12 0 4 (qS93 _ _ (qb89 _ _ hk70)) (by decide)).trans el99) ((hg528 b36 10 0 0 (qS93 _ _ (qb89 _ _ hk77)) (by decide)).trans el109) ((hg528 b40 13 0 1 (qS93 _ _ (qb89 _ _ hs_y68)) (by decide)).trans el119) ((hg528 b40 13 0 10 (qS93 _ _ (qb89 _ _ hs_y68)) (by decide)).trans el129) ((hg528 b40 13 0 13 (qS93 _ _ (qb89 _ _ hs_y68)) (by decide)).trans el139) ((hg528 b40 13 0 14 (qS93 _ _ (qb89 _ _ hs_y68)) (by decide)).trans el149) ((hg528 b40 13 0 12 (qS93 _ _ (qb89 _ _ hs_y68)) (by decide)).trans el159) ((hg528 b36 10 0 1 (qS93 _ _ (qb89 _ _ hk77)) (by decide)).trans exk9) ((hg528 b40 13 0 2 (qS93 _ _ (qb89 _ _ hs_y68)) (by decide)).trans emk9) ((hg528 b1 12 0 12 (qS93 _ _ (qb89 _ _ hk70)) (by decide)).trans ext9) ((hg528 b40 13 0 3 (qS93 _ _ (qb89 _ _ hs_y68)) (by decide)).trans emt9) ((hg528 b37 5 0 3 (qS93 _ _ (qb89 _ _ hk78)) (by decide)).trans exc9) ((hg528 b40 13 0 69 (qS93 _ _ (qb89 _ _ hs_y68)) (by decide)).trans emc9) ((hg528 b39 0 0 2 (qS93 _ _ (qb89 _ _ hk80)) (by decide)).trans exb9) ((hg528 b40 13 0 16 (qS93 _ _ (qb89 _ _ hs_y68)) (by decide)).trans emb9) ((hg528 b1 12 0 16 (qS93 _ _ (qb89 _ _ hk70)) (by decide)).trans exsh9) ((hg528 b40 13 0 89 (qS93 _ _ (qb89 _ _ hs_y68)) (by decide)).trans emsh9) ((hg528 b1 12 0 17 (qS93 _ _ (qb89 _ _ hk70)) (by decide)).trans exsp9) ((hg528 b40 13 0 90 (qS93 _ _ (qb89 _ _ hs_y68)) (by decide)).trans emsp9) ((hg528 b40 13 0 17 (qS93 _ _ (qb89 _ _ hs_y68)) (by decide)).trans emsm9) ((hg528 b1 12 0 13 (qS93 _ _ (qb89 _ _ hk70)) (by decide)).trans exfa9) ((hg528 b40 13 0 25 (qS93 _ _ (qb89 _ _ hs_y68)) (by decide)).trans emfa9) ((hg528 b20 300 0 2 (qS93 _ _ (qb89 _ _ hk71)) (by decide)).trans extn9) ((hg528 b40 13 0 39 (qS93 _ _ (qb89 _ _ hs_y68)) (by decide)).trans emtn9) (xWn.m wn9 (qS93 _ _ (qb89 _ _ hk76)) (qS93 _ _ (qb89 _ _ hk83)) hg528 xLe.rf (by decide)) (by rw [(xv_m hg528 (qS93 _ _ (qb89 _ _ hk74)) (by decide) (by decide)), (xv_m hg528 (qS93 _ _ (qb89 _ _ hk81)) (by decide) (by decide))]; exact wt9) (by rw [(xv_m hg528 (qS93 _ _ (qb89 _ _ hk75)) (by decide) (by decide)), (xv_m hg528 (qS93 _ _ (qb89 _ _ hk82)) (by decide) (by decide))]; exact ld9) (by rw [(xv_m hg528 (qS93 _ _ (qb89 _ _ hk73)) (by decide) (by decide)), (xv_m hg528 (qS93 _ _ (qb89 _ _ hs_b88)) (by decide) (by decide))]; exact sk9) (by rw [(xv_m hg528 (qS93 _ _ (qb89 _ _ hs_b86)) (by decide) (by decide)), (xv_m hg528 (qS93 _ _ (qb89 _ _ hs_b87)) (by decide) (by decide))]; exact xTc.mono tc9 (by omega)) dc9 ds9 (by omega) (by omega) (by omega)
        · refine X_tableIn hK 1342 32 (by decide) c98 (by decide) (by decide) dL_law_40 rfl (by decide) ?_
          refine X_aloadn hK (i := 1) 3 dL_law_1342 rfl rfl ?_
          refine X_aloadn hK (i := 0) 4 dL_law_1343 rfl rfl ?_
          refine X_iload hK (i := 4) 0 dL_law_1344 rfl ?_
          refine X_iconst hK dL_law_1346 ?_
          refine X_iadd hK dL_law_1347 ?_
          refine X_scr hK hX hbl hbA hL (by omega) (by omega) dL_law_1348 (fun z531 ez531 lz531 uz531 => ?_)
          refine X_aloadn hK (i := 0) 4 dL_law_1349 rfl rfl ?_
          refine X_iload hK (i := 4) 0 dL_law_1350 rfl ?_
          refine X_iconst hK dL_law_1352 ?_
          refine X_iadd hK dL_law_1353 ?_
          refine X_scr hK hX hbl hbA hL (by omega) (by omega) dL_law_1354 (fun z532 ez532 lz532 uz532 => ?_)
          refine X_aloadn hK (i := 0) 4 dL_law_1355 rfl rfl ?_
          refine X_iload hK (i := 4) 0 dL_law_1356 rfl ?_
          refine X_iconst hK dL_law_1358 ?_
          refine X_iadd hK dL_law_1359 ?_
          refine X_scr hK hX hbl hbA hL (by omega) (by omega) dL_law_1360 (fun z533 ez533 lz533 uz533 => ?_)
          refine X_aloadn hK (i := 0) 4 dL_law_1361 rfl rfl ?_
          refine X_iload hK (i := 4) 0 dL_law_1362 rfl ?_
          refine X_iconst hK dL_law_1364 ?_
          refine X_iadd hK dL_law_1365 ?_
          refine X_scr hK hX hbl hbA hL (by omega) (by omega) dL_law_1366 (fun z534 ez534 lz534 uz534 => ?_)
          refine X_aloadn hK (i := 0) 4 dL_law_1367 rfl rfl ?_
          refine X_iload hK (i := 4) 0 dL_law_1368 rfl ?_
          refine X_iconst hK dL_law_1370 ?_
          refine X_iadd hK dL_law_1371 ?_
          refine X_scr hK hX hbl hbA hL (by omega) (by omega) dL_law_1372 (fun z535 ez535 lz535 uz535 => ?_)
          refine X_callV hK [.int (iI z531), .int (iI z532), .int (iI z533), .int (iI z534), .int (iI z535)] [] lk_L_163 (c_X11_strike _ _ _ _ _ S93 g94 b1 z531 z532 z533 z534 z535 b36 k9 b86 sh9 sp9 (qS93 _ _ (qb89 _ _ hk70)) (by omega) (by omega) (by omega) (by omega) (by omega) el09 (qS93 _ _ (qb89 _ _ hk77)) (by omega) exk9 el109 (qS93 _ _ (qb89 _ _ hs_b86)) (by omega) exsh9 (by omega) exsp9) (qS93 _ _ (qb89 _ _ hk70)) ⟨by decide, rfl⟩ dL_law_1373 rfl rfl (by simp [Value.category]) (by decide) (by omega) (by omega) (by decide) (fun r536 S538 g537 pr536 qr536 hg537 => ?_)
          obtain ⟨rfl, z539, rfl, lz539, uz539, k540, k541⟩ := pr536
          refine X_st [.int (iI z539)] rfl ?_
          obtain ⟨z542, z543, ez542, ez543, rz542, rz543, kz542⟩ := k541
          refine X_pop hK dL_law_1376 rfl ?_
          refine X_aloadn hK (i := 2) 2 dL_law_1377 rfl rfl ?_
          refine X_aloadn hK (i := 0) 4 dL_law_1378 rfl rfl ?_
          refine X_iload hK (i := 4) 0 dL_law_1379 rfl ?_
          refine X_iconst hK dL_law_1381 ?_
          refine X_iadd hK dL_law_1382 ?_
          refine X_scrK hK hX hbl hbA hL (by omega) (by omega) ez531 dL_law_1383 ?_
          refine X_aloadn hK (i := 0) 4 dL_law_1384 rfl rfl ?_
          refine X_iload hK (i := 4) 0 dL_law_1385 rfl ?_
          refine X_iconst hK dL_law_1387 ?_
          refine X_iadd hK dL_law_1388 ?_
          refine X_scrK hK hX hbl hbA hL (by omega) (by omega) ez532 dL_law_1389 ?_
          refine X_aloadn hK (i := 0) 4 dL_law_1390 rfl rfl ?_
          refine X_iload hK (i := 4) 0 dL_law_1391 rfl ?_
          refine X_iconst hK dL_law_1393 ?_
          refine X_iadd hK dL_law_1394 ?_
          refine X_scrK hK hX hbl hbA hL (by omega) (by omega) ez533 dL_law_1395 ?_
          refine X_aloadn hK (i := 0) 4 dL_law_1396 rfl rfl ?_
          refine X_iload hK (i := 4) 0 dL_law_1397 rfl ?_
          refine X_iconst hK dL_law_1399 ?_
          refine X_iadd hK dL_law_1400 ?_
          refine X_scrK hK hX hbl hbA hL (by omega) (by omega) ez534 dL_law_1401 ?_
          refine X_aloadn hK (i := 0) 4 dL_law_1402 rfl rfl ?_
          refine X_iload hK (i := 4) 0 dL_law_1403 rfl ?_
          refine X_iconst hK dL_law_1405 ?_
          refine X_iadd hK dL_law_1406 ?_
          refine X_scrK hK hX hbl hbA hL (by omega) (by omega) ez535 dL_law_1407 ?_
          refine X_callV hK [.int (iI z531), .int (iI z532), .int (iI z533), .int (iI z534), .int (iI z535)] [] lk_L_166 (c3_strike _ _ _ _ _ S93 g537 b40 z531 z532 z533 z534 z535 k9 b87 sh9 sp9 (qS93 _ _ (qb89 _ _ hs_y68)) (by omega) (by omega) (by omega) (by omega) (by omega) (by omega) ((hg537 b40 13 0 2 (qS93 _ _ (qb89 _ _ hs_y68)) (by decide)).trans emk9) ((hg537 b40 13 0 1 (qS93 _ _ (qb89 _ _ hs_y68)) (by decide)).trans el119) (qS93 _ _ (qb89 _ _ hs_b87)) (by omega) ((hg537 b40 13 0 89 (qS93 _ _ (qb89 _ _ hs_y68)) (by decide)).trans emsh9) (by omega) ((hg537 b40 13 0 90 (qS93 _ _ (qb89 _ _ hs_y68)) (by decide)).trans emsp9)) (qS93 _ _ (qb89 _ _ hs_y68)) ⟨by decide, rfl⟩ dL_law_1408 rfl rfl (by simp [Value.category]) (by decide) (by omega) (by omega) (by decide) (fun r544 S546 g545 pr544 qr544 hg545 => ?_)
          obtain ⟨rfl, z547, rfl, lz547, uz547, k548, k549⟩ := pr544
          refine X_st [.int (iI z547)] rfl ?_
          obtain ⟨z550, z551, ez550, ez551, rz550, rz551, kz550⟩ := k549
          obtain ⟨hq9, hhz550, hhz551⟩ := xSkr.det (by rw [(xv_m hg537 (qS93 _ _ (qb89 _ _ hs_b87)) (by decide) (by decide))]; exact tc9) kz542 kz550
          refine X_pop hK dL_law_1411 rfl ?_
          refine X_goto hK 1465 dL_law_1412 (by decide) ?_
          refine X_iinc hK (i := 4) (z := i9) (n := 6) 0 [(4, .int (iI (i9 + 6))), (3, .ref b89), (2, .ref b40), (1, .ref b1), (0, .ref b)] dL_law_1465 rfl (by decide) rfl ?_
          refine X_goto hK 23 dL_law_1468 (by decide) ?_
          exact ih9 S93 qS93 g545 (i9 + 6) (0) t9 c9 b9 z542 z543 sm9 fa9 tn9 (by omega) (by omega) (by omega) (by omega) (by omega) (by omega) (by omega) (by omega) (by omega) (by omega) (xLs_mod (xLs_mod al9 hg537 (by decide)) hg545 (by decide)) si9 (xPi_m (xPi_m pi9 hg537 xLe.rf (by decide)) hg545 xLe.rf (by decide)) (xMp_m (xMp_m mp9 hg537 xLe.rf (by decide)) hg545 xLe.rf (by decide)) (xTw_m (xTw_m tw9 hg537 xLe.rf (by decide)) hg545 xLe.rf (by decide)) ((hg545 b1 12 0 0 (qS93 _ _ (qb89 _ _ hk70)) (by decide)).trans ((hg537 b1 12 0 0 (qS93 _ _ (qb89 _ _ hk70)) (by decide)).trans el09)) ((hg545 b1 12 0 3 (qS93 _ _ (qb89 _ _ hk70)) (by decide)).trans ((hg537 b1 12 0 3 (qS93 _ _ (qb89 _ _ hk70)) (by decide)).trans el19)) ((hg545 b1 12 0 1 (qS93 _ _ (qb89 _ _ hk70)) (by decide)).trans ((hg537 b1 12 0 1 (qS93 _ _ (qb89 _ _ hk70)) (by decide)).trans el29)) ((hg545 b38 6 0 1 (qS93 _ _ (qb89 _ _ hk79)) (by decide)).trans ((hg537 b38 6 0 1 (qS93 _ _ (qb89 _ _ hk79)) (by decide)).trans el39)) ((hg545 b1 12 0 2 (qS93 _ _ (qb89 _ _ hk70)) (by decide)).trans ((hg537 b1 12 0 2 (qS93 _ _ (qb89 _ _ hk70)) (by decide)).trans el49)) ((hg545 b21 4 0 0 (qS93 _ _ (qb89 _ _ hk72)) (by decide)).trans ((hg537 b21 4 0 0 (qS93 _ _ (qb89 _ _ hk72)) (by decide)).trans el59)) ((hg545 b21 4 0 2 (qS93 _ _ (qb89 _ _ hk72)) (by decide)).trans ((hg537 b21 4 0 2 (qS93 _ _ (qb89 _ _ hk72)) (by decide)).trans el69)) ((hg545 b21 4 0 3 (qS93 _ _ (qb89 _ _ hk72)) (by decide)).trans ((hg537 b21 4 0 3 (qS93 _ _ (qb89 _ _ hk72)) (by decide)).trans el79)) ((hg545 b21 4 0 4 (qS93 _ _ (qb89 _ _ hk72)) (by decide)).trans ((hg537 b21 4 0 4 (qS93 _ _ (qb89 _ _ hk72)) (by decide)).trans el89)) ((hg545 b1 12 0 4 (qS93 _ _ (qb89 _ _ hk70)) (by decide)).trans ((hg537 b1 12 0 4 (qS93 _ _ (qb89 _ _ hk70)) (by decide)).trans el99)) ((hg545 b36 10 0 0 (qS93 _ _ (qb89 _ _ hk77)) (by decide)).trans ((hg537 b36 10 0 0 (qS93 _ _ (qb89 _ _ hk77)) (by decide)).trans el109)) ((hg545 b40 13 0 1 (qS93 _ _ (qb89 _ _ hs_y68)) (by decide)).trans ((hg537 b40 13 0 1 (qS93 _ _ (qb89 _ _ hs_y68)) (by decide)).trans el119)) ((hg545 b40 13 0 10 (qS93 _ _ (qb89 _ _ hs_y68)) (by decide)).trans ((hg537 b40 13 0 10 (qS93 _ _ (qb89 _ _ hs_y68)) (by decide)).trans el129)) ((hg545 b40 13 0 13 (qS93 _ _ (qb89 _ _ hs_y68)) (by decide)).trans ((hg537 b40 13 0 13 (qS93 _ _ (qb89 _ _ hs_y68)) (by decide)).trans el139)) ((hg545 b40 13 0 14 (qS93 _ _ (qb89 _ _ hs_y68)) (by decide)).trans ((hg537 b40 13 0 14 (qS93 _ _ (qb89 _ _ hs_y68)) (by decide)).trans el149)) ((hg545 b40 13 0 12 (qS93 _ _ (qb89 _ _ hs_y68)) (by decide)).trans ((hg537 b40 13 0 12 (qS93 _ _ (qb89 _ _ hs_y68)) (by decide)).trans el159)) ((hg545 b36 10 0 1 (qS93 _ _ (qb89 _ _ hk77)) (by decide)).trans k540) k548 ((hg545 b1 12 0 12 (qS93 _ _ (qb89 _ _ hk70)) (by decide)).trans ((hg537 b1 12 0 12 (qS93 _ _ (qb89 _ _ hk70)) (by decide)).trans ext9)) ((hg545 b40 13 0 3 (qS93 _ _ (qb89 _ _ hs_y68)) (by decide)).trans ((hg537 b40 13 0 3 (qS93 _ _ (qb89 _ _ hs_y68)) (by decide)).trans emt9)) ((hg545 b37 5 0 3 (qS93 _ _ (qb89 _ _ hk78)) (by decide)).trans ((hg537 b37 5 0 3 (qS93 _ _ (qb89 _ _ hk78)) (by decide)).trans exc9)) ((hg545 b40 13 0 69 (qS93 _ _ (qb89 _ _ hs_y68)) (by decide)).trans ((hg537 b40 13 0 69 (qS93 _ _ (qb89 _ _ hs_y68)) (by decide)).trans emc9)) ((hg545 b39 0 0 2 (qS93 _ _ (qb89 _ _ hk80)) (by decide)).trans ((hg537 b39 0 0 2 (qS93 _ _ (qb89 _ _ hk80)) (by decide)).trans exb9)) ((hg545 b40 13 0 16 (qS93 _ _ (qb89 _ _ hs_y68)) (by decide)).trans ((hg537 b40 13 0 16 (qS93 _ _ (qb89 _ _ hs_y68)) (by decide)).trans emb9)) ((hg545 b1 12 0 16 (qS93 _ _ (qb89 _ _ hk70)) (by decide)).trans ez542) (ez550.trans (by rw [hhz550])) ((hg545 b1 12 0 17 (qS93 _ _ (qb89 _ _ hk70)) (by decide)).trans ez543) (ez551.trans (by rw [hhz551])) ((hg545 b40 13 0 17 (qS93 _ _ (qb89 _ _ hs_y68)) (by decide)).trans ((hg537 b40 13 0 17 (qS93 _ _ (qb89 _ _ hs_y68)) (by decide)).trans emsm9)) ((hg545 b1 12 0 13 (qS93 _ _ (qb89 _ _ hk70)) (by decide)).trans ((hg537 b1 12 0 13 (qS93 _ _ (qb89 _ _ hk70)) (by decide)).trans exfa9)) ((hg545 b40 13 0 25 (qS93 _ _ (qb89 _ _ hs_y68)) (by decide)).trans ((hg537 b40 13 0 25 (qS93 _ _ (qb89 _ _ hs_y68)) (by decide)).trans emfa9)) ((hg545 b20 300 0 2 (qS93 _ _ (qb89 _ _ hk71)) (by decide)).trans ((hg537 b20 300 0 2 (qS93 _ _ (qb89 _ _ hk71)) (by decide)).trans extn9)) ((hg545 b40 13 0 39 (qS93 _ _ (qb89 _ _ hs_y68)) (by decide)).trans ((hg537 b40 13 0 39 (qS93 _ _ (qb89 _ _ hs_y68)) (by decide)).trans emtn9)) (xWn.m (xWn.m wn9 (qS93 _ _ (qb89 _ _ hk76)) (qS93 _ _ (qb89 _ _ hk83)) hg537 xLe.rf (by decide)) (qS93 _ _ (qb89 _ _ hk76)) (qS93 _ _ (qb89 _ _ hk83)) hg545 xLe.rf (by decide)) (by rw [(Eq.trans (xv_m hg545 (qS93 _ _ (qb89 _ _ hk74)) (by decide) (by decide)) (xv_m hg537 (qS93 _ _ (qb89 _ _ hk74)) (by decide) (by decide))), (Eq.trans (xv_m hg545 (qS93 _ _ (qb89 _ _ hk81)) (by decide) (by decide)) (xv_m hg537 (qS93 _ _ (qb89 _ _ hk81)) (by decide) (by decide)))]; exact wt9) (by rw [(Eq.trans (xv_m hg545 (qS93 _ _ (qb89 _ _ hk75)) (by decide) (by decide)) (xv_m hg537 (qS93 _ _ (qb89 _ _ hk75)) (by decide) (by decide))), (Eq.trans (xv_m hg545 (qS93 _ _ (qb89 _ _ hk82)) (by decide) (by decide)) (xv_m hg537 (qS93 _ _ (qb89 _ _ hk82)) (by decide) (by decide)))]; exact ld9) (by rw [(Eq.trans (xv_m hg545 (qS93 _ _ (qb89 _ _ hk73)) (by decide) (by decide)) (xv_m hg537 (qS93 _ _ (qb89 _ _ hk73)) (by decide) (by decide))), (Eq.trans (xv_m hg545 (qS93 _ _ (qb89 _ _ hs_b88)) (by decide) (by decide)) (xv_m hg537 (qS93 _ _ (qb89 _ _ hs_b88)) (by decide) (by decide)))]; exact sk9) (by rw [(Eq.trans (xv_m hg545 (qS93 _ _ (qb89 _ _ hs_b86)) (by decide) (by decide)) (xv_m hg537 (qS93 _ _ (qb89 _ _ hs_b86)) (by decide) (by decide))), (Eq.trans (xv_m hg545 (qS93 _ _ (qb89 _ _ hs_b87)) (by decide) (by decide)) (xv_m hg537 (qS93 _ _ (qb89 _ _ hs_b87)) (by decide) (by decide)))]; exact xTc.mono tc9 (by omega)) dc9 ds9 (by omega) (by omega) (by omega)
        · refine X_tableIn hK 1415 33 (by decide) c98 (by decide) (by decide) dL_law_40 rfl (by decide) ?_
          refine X_aloadn hK (i := 1) 3 dL_law_1415 rfl rfl ?_
          refine X_aloadn hK (i := 0) 4 dL_law_1416 rfl rfl ?_
          refine X_iload hK (i := 4) 0 dL_law_1417 rfl ?_
          refine X_iconst hK dL_law_1419 ?_
          refine X_iadd hK dL_law_1420 ?_
          refine X_scr hK hX hbl hbA hL (by omega) (by omega) dL_law_1421 (fun z552 ez552 lz552 uz552 => ?_)
          refine X_callV hK [.int (iI z552)] [] lk_L_167 (c_X11_struck _ _ _ _ _ S93 g94 b1 z552 sh9 sp9 (qS93 _ _ (qb89 _ _ hk70)) (by omega) (by omega) exsh9 (by omega) exsp9) (qS93 _ _ (qb89 _ _ hk70)) ⟨by decide, rfl⟩ dL_law_1422 rfl rfl (by simp [Value.category]) (by decide) (by omega) (by omega) (by decide) (fun r553 S555 g554 pr553 qr553 hg554 => ?_)
          obtain ⟨rfl, rfl, z556, rfl, lz556, uz556, k557⟩ := pr553
          refine X_st [.int (iI z556)] rfl ?_
          refine X_pop hK dL_law_1425 rfl ?_
          refine X_aloadn hK (i := 2) 2 dL_law_1426 rfl rfl ?_
          refine X_aloadn hK (i := 0) 4 dL_law_1427 rfl rfl ?_
          refine X_iload hK (i := 4) 0 dL_law_1428 rfl ?_
          refine X_iconst hK dL_law_1430 ?_
          refine X_iadd hK dL_law_1431 ?_
          refine X_scrK hK hX hbl hbA hL (by omega) (by omega) ez552 dL_law_1432 ?_
          refine X_callV hK [.int (iI z552)] [] lk_L_170 (c_X12_struck _ _ _ _ _ S93 g94 b40 z552 sh9 sp9 (qS93 _ _ (qb89 _ _ hs_y68)) (by omega) (by omega) emsh9 (by omega) emsp9) (qS93 _ _ (qb89 _ _ hs_y68)) ⟨by decide, rfl⟩ dL_law_1433 rfl rfl (by simp [Value.category]) (by decide) (by omega) (by omega) (by decide) (fun r558 S560 g559 pr558 qr558 hg559 => ?_)
          obtain ⟨rfl, z561, rfl, lz561, uz561, k562⟩ := pr558
          refine X_st [.int (iI z561)] rfl ?_
          refine X_pop hK dL_law_1436 rfl ?_
          refine X_goto hK 1465 dL_law_1437 (by decide) ?_
          refine X_iinc hK (i := 4) (z := i9) (n := 6) 0 [(4, .int (iI (i9 + 6))), (3, .ref b89), (2, .ref b40), (1, .ref b1), (0, .ref b)] dL_law_1465 rfl (by decide) rfl ?_
          refine X_goto hK 23 dL_law_1468 (by decide) ?_
          exact ih9 S93 qS93 g559 (i9 + 6) k9 t9 c9 b9 sh9 sp9 sm9 fa9 tn9 (by omega) (by omega) (by omega) (by omega) (by omega) (by omega) (by omega) (by omega) (by omega) (by omega) (xLs_mod al9 hg559 (by decide)) si9 (xPi_m pi9 hg559 xLe.rf (by decide)) (xMp_m mp9 hg559 xLe.rf (by decide)) (xTw_m tw9 hg559 xLe.rf (by decide)) ((hg559 b1 12 0 0 (qS93 _ _ (qb89 _ _ hk70)) (by decide)).trans el09) ((hg559 b1 12 0 3 (qS93 _ _ (qb89 _ _ hk70)) (by decide)).trans el19) ((hg559 b1 12 0 1 (qS93 _ _ (qb89 _ _ hk70)) (by decide)).trans el29) ((hg559 b38 6 0 1 (qS93 _ _ (qb89 _ _ hk79)) (by decide)).trans el39) ((hg559 b1 12 0 2 (qS93 _ _ (qb89 _ _ hk70)) (by decide)).trans el49) ((hg559 b21 4 0 0 (qS93 _ _ (qb89 _ _ hk72)) (by decide)).trans el59) ((hg559 b21 4 0 2 (qS93 _ _ (qb89 _ _ hk72)) (by decide)).trans el69) ((hg559 b21 4 0 3 (qS93 _ _ (qb89 _ _ hk72)) (by decide)).trans el79) ((hg559 b21 4 0 4 (qS93 _ _ (qb89 _ _ hk72)) (by decide)).trans el89) ((hg559 b1 12 0 4 (qS93 _ _ (qb89 _ _ hk70)) (by decide)).trans el99) ((hg559 b36 10 0 0 (qS93 _ _ (qb89 _ _ hk77)) (by decide)).trans el109) ((hg559 b40 13 0 1 (qS93 _ _ (qb89 _ _ hs_y68)) (by decide)).trans el119) ((hg559 b40 13 0 10 (qS93 _ _ (qb89 _ _ hs_y68)) (by decide)).trans el129) ((hg559 b40 13 0 13 (qS93 _ _ (qb89 _ _ hs_y68)) (by decide)).trans el139) ((hg559 b40 13 0 14 (qS93 _ _ (qb89 _ _ hs_y68)) (by decide)).trans el149) ((hg559 b40 13 0 12 (qS93 _ _ (qb89 _ _ hs_y68)) (by decide)).trans el159) ((hg559 b36 10 0 1 (qS93 _ _ (qb89 _ _ hk77)) (by decide)).trans exk9) ((hg559 b40 13 0 2 (qS93 _ _ (qb89 _ _ hs_y68)) (by decide)).trans emk9) ((hg559 b1 12 0 12 (qS93 _ _ (qb89 _ _ hk70)) (by decide)).trans ext9) ((hg559 b40 13 0 3 (qS93 _ _ (qb89 _ _ hs_y68)) (by decide)).trans emt9) ((hg559 b37 5 0 3 (qS93 _ _ (qb89 _ _ hk78)) (by decide)).trans exc9) ((hg559 b40 13 0 69 (qS93 _ _ (qb89 _ _ hs_y68)) (by decide)).trans emc9) ((hg559 b39 0 0 2 (qS93 _ _ (qb89 _ _ hk80)) (by decide)).trans exb9) ((hg559 b40 13 0 16 (qS93 _ _ (qb89 _ _ hs_y68)) (by decide)).trans emb9) ((hg559 b1 12 0 16 (qS93 _ _ (qb89 _ _ hk70)) (by decide)).trans exsh9) ((hg559 b40 13 0 89 (qS93 _ _ (qb89 _ _ hs_y68)) (by decide)).trans emsh9) ((hg559 b1 12 0 17 (qS93 _ _ (qb89 _ _ hk70)) (by decide)).trans exsp9) ((hg559 b40 13 0 90 (qS93 _ _ (qb89 _ _ hs_y68)) (by decide)).trans emsp9) ((hg559 b40 13 0 17 (qS93 _ _ (qb89 _ _ hs_y68)) (by decide)).trans emsm9) ((hg559 b1 12 0 13 (qS93 _ _ (qb89 _ _ hk70)) (by decide)).trans exfa9) ((hg559 b40 13 0 25 (qS93 _ _ (qb89 _ _ hs_y68)) (by decide)).trans emfa9) ((hg559 b20 300 0 2 (qS93 _ _ (qb89 _ _ hk71)) (by decide)).trans extn9) ((hg559 b40 13 0 39 (qS93 _ _ (qb89 _ _ hs_y68)) (by decide)).trans emtn9) (xWn.m wn9 (qS93 _ _ (qb89 _ _ hk76)) (qS93 _ _ (qb89 _ _ hk83)) hg559 xLe.rf (by decide)) (by rw [(xv_m hg559 (qS93 _ _ (qb89 _ _ hk74)) (by decide) (by decide)), (xv_m hg559 (qS93 _ _ (qb89 _ _ hk81)) (by decide) (by decide))]; exact wt9) (by rw [(xv_m hg559 (qS93 _ _ (qb89 _ _ hk75)) (by decide) (by decide)), (xv_m hg559 (qS93 _ _ (qb89 _ _ hk82)) (by decide) (by decide))]; exact ld9) (by rw [(xv_m hg559 (qS93 _ _ (qb89 _ _ hk73)) (by decide) (by decide)), (xv_m hg559 (qS93 _ _ (qb89 _ _ hs_b88)) (by decide) (by decide))]; exact sk9) (by rw [(xv_m hg559 (qS93 _ _ (qb89 _ _ hs_b86)) (by decide) (by decide)), (xv_m hg559 (qS93 _ _ (qb89 _ _ hs_b87)) (by decide) (by decide))]; exact xTc.mono tc9 (by omega)) dc9 ds9 (by omega) (by omega) (by omega)
        · refine X_tableIn hK 1440 34 (by decide) c98 (by decide) (by decide) dL_law_40 rfl (by decide) ?_
          refine X_aloadn hK (i := 1) 3 dL_law_1440 rfl rfl ?_
          refine X_aloadn hK (i := 0) 4 dL_law_1441 rfl rfl ?_
          refine X_iload hK (i := 4) 0 dL_law_1442 rfl ?_
          refine X_iconst hK dL_law_1444 ?_
          refine X_iadd hK dL_law_1445 ?_
          refine X_scr hK hX hbl hbA hL (by omega) (by omega) dL_law_1446 (fun z563 ez563 lz563 uz563 => ?_)
          refine X_callV hK [.int (iI z563)] [] lk_L_171 (c_X11_count _ _ _ _ _ S93 g94 b1 z563 (qS93 _ _ (qb89 _ _ hk70)) (by omega) al9) (qS93 _ _ (qb89 _ _ hk70)) ⟨by decide, rfl⟩ dL_law_1447 rfl rfl (by simp [Value.category]) (by decide) (by omega) (by omega) (by decide) (fun r564 S566 g565 pr564 qr564 hg565 => ?_)
          obtain ⟨rfl, rfl, z567, rfl, lz567, uz567⟩ := pr564
          refine X_st [.int (iI z567)] rfl ?_
          refine X_pop hK dL_law_1450 rfl ?_
          refine X_aloadn hK (i := 2) 2 dL_law_1451 rfl rfl ?_
          refine X_aloadn hK (i := 0) 4 dL_law_1452 rfl rfl ?_
          refine X_iload hK (i := 4) 0 dL_law_1453 rfl ?_
          refine X_iconst hK dL_law_1455 ?_
          refine X_iadd hK dL_law_1456 ?_
          refine X_scrK hK hX hbl hbA hL (by omega) (by omega) ez563 dL_law_1457 ?_
          refine X_callV hK [.int (iI z563)] [] lk_L_174 (c_X12_count _ _ _ _ _ S93 g94 b40 z563 (qS93 _ _ (qb89 _ _ hs_y68)) (by omega)) (qS93 _ _ (qb89 _ _ hs_y68)) ⟨by decide, rfl⟩ dL_law_1458 rfl rfl (by simp [Value.category]) (by decide) (by omega) (by omega) (by decide) (fun r568 S570 g569 pr568 qr568 hg569 => ?_)
          obtain ⟨rfl, z571, rfl, lz571, uz571⟩ := pr568
          refine X_st [.int (iI z571)] rfl ?_
          refine X_pop hK dL_law_1461 rfl ?_
          refine X_goto hK 1465 dL_law_1462 (by decide) ?_
          refine X_iinc hK (i := 4) (z := i9) (n := 6) 0 [(4, .int (iI (i9 + 6))), (3, .ref b89), (2, .ref b40), (1, .ref b1), (0, .ref b)] dL_law_1465 rfl (by decide) rfl ?_
          refine X_goto hK 23 dL_law_1468 (by decide) ?_
          exact ih9 S93 qS93 g569 (i9 + 6) k9 t9 c9 b9 sh9 sp9 sm9 fa9 tn9 (by omega) (by omega) (by omega) (by omega) (by omega) (by omega) (by omega) (by omega) (by omega) (by omega) (xLs_mod al9 hg569 (by decide)) si9 (xPi_m pi9 hg569 xLe.rf (by decide)) (xMp_m mp9 hg569 xLe.rf (by decide)) (xTw_m tw9 hg569 xLe.rf (by decide)) ((hg569 b1 12 0 0 (qS93 _ _ (qb89 _ _ hk70)) (by decide)).trans el09) ((hg569 b1 12 0 3 (qS93 _ _ (qb89 _ _ hk70)) (by decide)).trans el19) ((hg569 b1 12 0 1 (qS93 _ _ (qb89 _ _ hk70)) (by decide)).trans el29) ((hg569 b38 6 0 1 (qS93 _ _ (qb89 _ _ hk79)) (by decide)).trans el39) ((hg569 b1 12 0 2 (qS93 _ _ (qb89 _ _ hk70)) (by decide)).trans el49) ((hg569 b21 4 0 0 (qS93 _ _ (qb89 _ _ hk72)) (by decide)).trans el59) ((hg569 b21 4 0 2 (qS93 _ _ (qb89 _ _ hk72)) (by decide)).trans el69) ((hg569 b21 4 0 3 (qS93 _ _ (qb89 _ _ hk72)) (by decide)).trans el79) ((hg569 b21 4 0 4 (qS93 _ _ (qb89 _ _ hk72)) (by decide)).trans el89) ((hg569 b1 12 0 4 (qS93 _ _ (qb89 _ _ hk70)) (by decide)).trans el99) ((hg569 b36 10 0 0 (qS93 _ _ (qb89 _ _ hk77)) (by decide)).trans el109) ((hg569 b40 13 0 1 (qS93 _ _ (qb89 _ _ hs_y68)) (by decide)).trans el119) ((hg569 b40 13 0 10 (qS93 _ _ (qb89 _ _ hs_y68)) (by decide)).trans el129) ((hg569 b40 13 0 13 (qS93 _ _ (qb89 _ _ hs_y68)) (by decide)).trans el139) ((hg569 b40 13 0 14 (qS93 _ _ (qb89 _ _ hs_y68)) (by decide)).trans el149) ((hg569 b40 13 0 12 (qS93 _ _ (qb89 _ _ hs_y68)) (by decide)).trans el159) ((hg569 b36 10 0 1 (qS93 _ _ (qb89 _ _ hk77)) (by decide)).trans exk9) ((hg569 b40 13 0 2 (qS93 _ _ (qb89 _ _ hs_y68)) (by decide)).trans emk9) ((hg569 b1 12 0 12 (qS93 _ _ (qb89 _ _ hk70)) (by decide)).trans ext9) ((hg569 b40 13 0 3 (qS93 _ _ (qb89 _ _ hs_y68)) (by decide)).trans emt9) ((hg569 b37 5 0 3 (qS93 _ _ (qb89 _ _ hk78)) (by decide)).trans exc9) ((hg569 b40 13 0 69 (qS93 _ _ (qb89 _ _ hs_y68)) (by decide)).trans emc9) ((hg569 b39 0 0 2 (qS93 _ _ (qb89 _ _ hk80)) (by decide)).trans exb9) ((hg569 b40 13 0 16 (qS93 _ _ (qb89 _ _ hs_y68)) (by decide)).trans emb9) ((hg569 b1 12 0 16 (qS93 _ _ (qb89 _ _ hk70)) (by decide)).trans exsh9) ((hg569 b40 13 0 89 (qS93 _ _ (qb89 _ _ hs_y68)) (by decide)).trans emsh9) ((hg569 b1 12 0 17 (qS93 _ _ (qb89 _ _ hk70)) (by decide)).trans exsp9) ((hg569 b40 13 0 90 (qS93 _ _ (qb89 _ _ hs_y68)) (by decide)).trans emsp9) ((hg569 b40 13 0 17 (qS93 _ _ (qb89 _ _ hs_y68)) (by decide)).trans emsm9) ((hg569 b1 12 0 13 (qS93 _ _ (qb89 _ _ hk70)) (by decide)).trans exfa9) ((hg569 b40 13 0 25 (qS93 _ _ (qb89 _ _ hs_y68)) (by decide)).trans emfa9) ((hg569 b20 300 0 2 (qS93 _ _ (qb89 _ _ hk71)) (by decide)).trans extn9) ((hg569 b40 13 0 39 (qS93 _ _ (qb89 _ _ hs_y68)) (by decide)).trans emtn9) (xWn.m wn9 (qS93 _ _ (qb89 _ _ hk76)) (qS93 _ _ (qb89 _ _ hk83)) hg569 xLe.rf (by decide)) (by rw [(xv_m hg569 (qS93 _ _ (qb89 _ _ hk74)) (by decide) (by decide)), (xv_m hg569 (qS93 _ _ (qb89 _ _ hk81)) (by decide) (by decide))]; exact wt9) (by rw [(xv_m hg569 (qS93 _ _ (qb89 _ _ hk75)) (by decide) (by decide)), (xv_m hg569 (qS93 _ _ (qb89 _ _ hk82)) (by decide) (by decide))]; exact ld9) (by rw [(xv_m hg569 (qS93 _ _ (qb89 _ _ hk73)) (by decide) (by decide)), (xv_m hg569 (qS93 _ _ (qb89 _ _ hs_b88)) (by decide) (by decide))]; exact sk9) (by rw [(xv_m hg569 (qS93 _ _ (qb89 _ _ hs_b86)) (by decide) (by decide)), (xv_m hg569 (qS93 _ _ (qb89 _ _ hs_b87)) (by decide) (by decide))]; exact xTc.mono tc9 (by omega)) dc9 ds9 (by omega) (by omega) (by omega)
  exact P9 4001 S90 xLe.rf g91 0 0 0 0 0 (-1) (-1) 0 0 0 (by omega) (by omega) (by omega) (by omega) (by omega) (by omega) (by omega) (by omega) (by omega) (by omega) A92 (xSi.nw (xSi.nw (xSi.nw (xSi.nw (xSi.nw k9 (xNw2.one hSy27) (by decide)) (xNw2.one hSb40) (by decide)) wr48 (by decide)) (xNw2.one hSy68) (by decide)) (xNw2.one hSb89) (by decide)) (xPi_m pi84 (hg91 ▸ xM_new (L := []) xM.rf nb89) qb89 (by decide)) (xMp_m mm85.1 (hg91 ▸ xM_new (L := []) xM.rf nb89) qb89 (by decide)) (xTw_m mm85.2 (hg91 ▸ xM_new (L := []) xM.rf nb89) qb89 (by decide)) ((xs_n hg91 hk70 nb89).trans ((hg49 b1 12 0 0 (qb40 _ _ hs_y27) (by decide)).trans ((xs_n hg42 hs_y27 nb40).trans eb36))) ((xs_n hg91 hk70 nb89).trans ((hg49 b1 12 0 3 (qb40 _ _ hs_y27) (by decide)).trans ((xs_n hg42 hs_y27 nb40).trans eb37))) ((xs_n hg91 hk70 nb89).trans ((hg49 b1 12 0 1 (qb40 _ _ hs_y27) (by decide)).trans ((xs_n hg42 hs_y27 nb40).trans eb38))) ((xs_n hg91 hk79 nb89).trans ((hg49 b38 6 0 1 hk46 (by decide)).trans ((xs_n hg42 (xhs_seal hoy27 (qr5 _ _ hs_b1) hs_b38 (by decide)) nb40).trans eb39))) ((xs_n hg91 hk70 nb89).trans ((hg49 b1 12 0 2 (qb40 _ _ hs_y27) (by decide)).trans ((xs_n hg42 hs_y27 nb40).trans eb21))) ((xs_n hg91 hk72 nb89).trans ((hg49 b21 4 0 0 (qb40 _ _ hk30) (by decide)).trans ((xs_n hg42 hk30 nb40).trans eb22))) ((xs_n hg91 hk72 nb89).trans ((hg49 b21 4 0 2 (qb40 _ _ hk30) (by decide)).trans ((xs_n hg42 hk30 nb40).trans eb23))) ((xs_n hg91 hk72 nb89).trans ((hg49 b21 4 0 3 (qb40 _ _ hk30) (by decide)).trans ((xs_n hg42 hk30 nb40).trans eb24))) ((xs_n hg91 hk72 nb89).trans ((hg49 b21 4 0 4 (qb40 _ _ hk30) (by decide)).trans ((xs_n hg42 hk30 nb40).trans eb25))) ((xs_n hg91 hk70 nb89).trans ((hg49 b1 12 0 4 (qb40 _ _ hs_y27) (by decide)).trans ((xs_n hg42 hs_y27 nb40).trans eb20))) ((xs_n hg91 hk77 nb89).trans eb86) ((xs_n hg91 hs_y68 nb89).trans eb87) ((xs_n hg91 hs_y68 nb89).trans eb88) ((xs_n hg91 hs_y68 nb89).trans eb64) ((xs_n hg91 hs_y68 nb89).trans eb65) ((xs_n hg91 hs_y68 nb89).trans eb66) ((xs_n hg91 hk77 nb89).trans ((hg49 b36 10 0 1 hk44 (by decide)).trans ((xs_n hg42 (xhs_seal hoy27 (qr5 _ _ hs_b1) hs_b36 (by decide)) nb40).trans fb36))) ((xs_n hg91 hs_y68 nb89).trans tmm85) ((xs_n hg91 hk70 nb89).trans ((hg49 b1 12 0 12 (qb40 _ _ hs_y27) (by decide)).trans ((xs_n hg42 hs_y27 nb40).trans fb38))) ((xs_n hg91 hs_y68 nb89).trans k52) ((xs_n hg91 hk78 nb89).trans ((hg49 b37 5 0 3 hk45 (by decide)).trans ((xs_n hg42 (xhs_seal hoy27 (qr5 _ _ hs_b1) hs_b37 (by decide)) nb40).trans fb37))) ((xs_n hg91 hs_y68 nb89).trans k54) ((xs_n hg91 hk80 nb89).trans ((hg49 b39 0 0 2 hk47 (by decide)).trans ((xs_n hg42 (xhs_seal hoy27 (qr5 _ _ hs_b1) hs_b39 (by decide)) nb40).trans fb39))) ((xs_n hg91 hs_y68 nb89).trans k53) ((xs_n hg91 hk70 nb89).trans ((hg49 b1 12 0 16 (qb40 _ _ hs_y27) (by decide)).trans ((xs_n hg42 hs_y27 nb40).trans k12))) ((xs_n hg91 hs_y68 nb89).trans k55) ((xs_n hg91 hk70 nb89).trans ((hg49 b1 12 0 17 (qb40 _ _ hs_y27) (by decide)).trans ((xs_n hg42 hs_y27 nb40).trans k13))) ((xs_n hg91 hs_y68 nb89).trans k56) ((xs_n hg91 hs_y68 nb89).trans k57) ((xs_n hg91 hk70 nb89).trans ((hg49 b1 12 0 13 (qb40 _ _ hs_y27) (by decide)).trans ((xs_n hg42 hs_y27 nb40).trans k14))) ((xs_n hg91 hs_y68 nb89).trans k58) ((xs_n hg91 hk71 nb89).trans ((hg49 b20 300 0 2 (qb40 _ _ hk29) (by decide)).trans ((xs_n hg42 hk29 nb40).trans fb20))) ((xs_n hg91 hs_y68 nb89).trans k59) (xWn.of (by have lt573 := (xLt.seal (qr5 _ _ hs_b1) hSy27 (by decide)); have gr572 := xGr.n zb25 lt573 hk34 (by decide) hg42 nb40; have lt575 := xLt.tr lt573 (xLt.le qb40); have gr574 := xGr.m gr572 lt575 (qb40 _ _ hk34) (by decide) hg49 (by decide) (by decide); have lt577 := xLt.tr lt575 (xLt.le qr48); have lt578 := xLt.tr lt577 (xLt.seal (qr48 _ _ hs_b40) hSy68 (by decide)); have gr576 := xGr.n gr574 lt578 hk76 (by decide) hg91 nb89; exact gr576) (xLt.tr (xLt.tr (xLt.tr (xLt.tr (xLt.seal (qr5 _ _ hs_b1) hSy27 (by decide)) (xLt.le qb40)) (xLt.le qr48)) (xLt.seal (qr48 _ _ hs_b40) hSy68 (by decide))) (xLt.le qb89)) (by rw [(xv_n hg91 hk83 nb89)]; exact zb66)) (xTc.all (by rw [(Eq.trans (Eq.trans (xv_n hg91 hk74 nb89) (xv_m hg49 (qb40 _ _ hk32) (by decide) (by decide))) (xv_n hg42 hk32 nb40))]; exact zb23) (by rw [(xv_n hg91 hk81 nb89)]; exact zb64)) (xTc.all (by rw [(Eq.trans (Eq.trans (xv_n hg91 hk75 nb89) (xv_m hg49 (qb40 _ _ hk33) (by decide) (by decide))) (xv_n hg42 hk33 nb40))]; exact zb24) (by rw [(xv_n hg91 hk82 nb89)]; exact zb65)) (xSm.zero (by rw [(Eq.trans (Eq.trans (xv_n hg91 hk73 nb89) (xv_m hg49 (qb40 _ _ hk31) (by decide) (by decide))) (xv_n hg42 hk31 nb40))]; exact zb22)) xTc.zero (((((0 + 1) + dcr5) + 1) + dcr48) + 1) (((((0 + 18) + dsr5) + 91) + dsr48) + (1 : Int).toNat) (by omega) (by omega) (by omega)
