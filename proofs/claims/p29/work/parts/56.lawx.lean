theorem m_1_0 : Cond.classLink RL 8 RX11 ∈ wsL_law := ch_1 _ (List.mem_of_getElem? (i := 0) rfl)
theorem m_1_1 : Cond.instantiable RX11 18 ∈ wsL_law := ch_1 _ (List.mem_of_getElem? (i := 1) rfl)
theorem m_1_3 : Cond.classLink RL 20 RX12 ∈ wsL_law := ch_1 _ (List.mem_of_getElem? (i := 3) rfl)
theorem m_1_4 : Cond.instantiable RX12 91 ∈ wsL_law := ch_1 _ (List.mem_of_getElem? (i := 4) rfl)
theorem m_1_7 : Cond.methodLink RL 19 yX11_init ∈ wsL_law := ch_1 _ (List.mem_of_getElem? (i := 7) rfl)
theorem m_1_8 : Cond.instanceMethod yX11_init ∈ wsL_law := ch_1 _ (List.mem_of_getElem? (i := 8) rfl)
theorem m_1_9 : Cond.code yX11_init cX11_init 1 none ∈ wsL_law := ch_1 _ (List.mem_of_getElem? (i := 9) rfl)
theorem m_7_22 : Cond.methodLink RL 22 yX12_init ∈ wsL_law := ch_7 _ (List.mem_of_getElem? (i := 22) rfl)
theorem m_7_23 : Cond.instanceMethod yX12_init ∈ wsL_law := ch_7 _ (List.mem_of_getElem? (i := 23) rfl)
theorem m_8_0 : Cond.code yX12_init cX12_init 1 none ∈ wsL_law := ch_8 _ (List.mem_of_getElem? (i := 0) rfl)
theorem m_10_16 : Cond.methodLink RL 23 yX11_feed ∈ wsL_law := ch_10 _ (List.mem_of_getElem? (i := 16) rfl)
theorem m_10_17 : Cond.instanceMethod yX11_feed ∈ wsL_law := ch_10 _ (List.mem_of_getElem? (i := 17) rfl)
theorem m_10_18 : Cond.selects RX11 yX11_feed yX11_feed ∈ wsL_law := ch_10 _ (List.mem_of_getElem? (i := 18) rfl)
theorem m_10_19 : Cond.code yX11_feed cX11_feed 6 (some .int) ∈ wsL_law := ch_10 _ (List.mem_of_getElem? (i := 19) rfl)
theorem m_11_1 : Cond.methodLink RL 27 yX12_feed ∈ wsL_law := ch_11 _ (List.mem_of_getElem? (i := 1) rfl)
theorem m_11_2 : Cond.instanceMethod yX12_feed ∈ wsL_law := ch_11 _ (List.mem_of_getElem? (i := 2) rfl)
theorem m_11_3 : Cond.selects RX12 yX12_feed yX12_feed ∈ wsL_law := ch_11 _ (List.mem_of_getElem? (i := 3) rfl)
theorem m_11_4 : Cond.code yX12_feed cX12_feed 6 (some .int) ∈ wsL_law := ch_11 _ (List.mem_of_getElem? (i := 4) rfl)
theorem m_11_11 : Cond.methodLink RL 28 yX11_end ∈ wsL_law := ch_11 _ (List.mem_of_getElem? (i := 11) rfl)
theorem m_11_12 : Cond.instanceMethod yX11_end ∈ wsL_law := ch_11 _ (List.mem_of_getElem? (i := 12) rfl)
theorem m_11_13 : Cond.selects RX11 yX11_end yX11_end ∈ wsL_law := ch_11 _ (List.mem_of_getElem? (i := 13) rfl)
theorem m_11_14 : Cond.code yX11_end cX11_end 2 (some .boolean) ∈ wsL_law := ch_11 _ (List.mem_of_getElem? (i := 14) rfl)
theorem m_11_15 : Cond.methodLink RL 32 yX12_end ∈ wsL_law := ch_11 _ (List.mem_of_getElem? (i := 15) rfl)
theorem m_11_16 : Cond.instanceMethod yX12_end ∈ wsL_law := ch_11 _ (List.mem_of_getElem? (i := 16) rfl)
theorem m_11_17 : Cond.selects RX12 yX12_end yX12_end ∈ wsL_law := ch_11 _ (List.mem_of_getElem? (i := 17) rfl)
theorem m_11_18 : Cond.code yX12_end cX12_end 2 (some .boolean) ∈ wsL_law := ch_11 _ (List.mem_of_getElem? (i := 18) rfl)
theorem m_11_19 : Cond.methodLink RL 33 yX11_boy ∈ wsL_law := ch_11 _ (List.mem_of_getElem? (i := 19) rfl)
theorem m_11_20 : Cond.instanceMethod yX11_boy ∈ wsL_law := ch_11 _ (List.mem_of_getElem? (i := 20) rfl)
theorem m_11_21 : Cond.selects RX11 yX11_boy yX11_boy ∈ wsL_law := ch_11 _ (List.mem_of_getElem? (i := 21) rfl)
theorem m_11_22 : Cond.code yX11_boy cX11_boy 6 (some .int) ∈ wsL_law := ch_11 _ (List.mem_of_getElem? (i := 22) rfl)
theorem m_15_7 : Cond.methodLink RL 37 yX12_boy ∈ wsL_law := ch_15 _ (List.mem_of_getElem? (i := 7) rfl)
theorem m_15_8 : Cond.instanceMethod yX12_boy ∈ wsL_law := ch_15 _ (List.mem_of_getElem? (i := 8) rfl)
theorem m_15_9 : Cond.selects RX12 yX12_boy yX12_boy ∈ wsL_law := ch_15 _ (List.mem_of_getElem? (i := 9) rfl)
theorem m_15_10 : Cond.code yX12_boy cX12_boy 5 (some .int) ∈ wsL_law := ch_15 _ (List.mem_of_getElem? (i := 10) rfl)
theorem m_15_15 : Cond.methodLink RL 38 yX11_badge ∈ wsL_law := ch_15 _ (List.mem_of_getElem? (i := 15) rfl)
theorem m_15_16 : Cond.instanceMethod yX11_badge ∈ wsL_law := ch_15 _ (List.mem_of_getElem? (i := 16) rfl)
theorem m_15_17 : Cond.selects RX11 yX11_badge yX11_badge ∈ wsL_law := ch_15 _ (List.mem_of_getElem? (i := 17) rfl)
theorem m_15_18 : Cond.code yX11_badge cX11_badge 3 (some .boolean) ∈ wsL_law := ch_15 _ (List.mem_of_getElem? (i := 18) rfl)
theorem m_16_18 : Cond.methodLink RL 42 yX12_badge ∈ wsL_law := ch_16 _ (List.mem_of_getElem? (i := 18) rfl)
theorem m_16_19 : Cond.instanceMethod yX12_badge ∈ wsL_law := ch_16 _ (List.mem_of_getElem? (i := 19) rfl)
theorem m_16_20 : Cond.selects RX12 yX12_badge yX12_badge ∈ wsL_law := ch_16 _ (List.mem_of_getElem? (i := 20) rfl)
theorem m_16_21 : Cond.code yX12_badge cX12_badge 3 (some .boolean) ∈ wsL_law := ch_16 _ (List.mem_of_getElem? (i := 21) rfl)
theorem m_17_2 : Cond.methodLink RL 43 yX11_owner ∈ wsL_law := ch_17 _ (List.mem_of_getElem? (i := 2) rfl)
theorem m_17_3 : Cond.instanceMethod yX11_owner ∈ wsL_law := ch_17 _ (List.mem_of_getElem? (i := 3) rfl)
theorem m_17_4 : Cond.selects RX11 yX11_owner yX11_owner ∈ wsL_law := ch_17 _ (List.mem_of_getElem? (i := 4) rfl)
theorem m_17_5 : Cond.code yX11_owner cX11_owner 3 (some .boolean) ∈ wsL_law := ch_17 _ (List.mem_of_getElem? (i := 5) rfl)
theorem m_17_10 : Cond.methodLink RL 46 yX12_owner ∈ wsL_law := ch_17 _ (List.mem_of_getElem? (i := 10) rfl)
theorem m_17_11 : Cond.instanceMethod yX12_owner ∈ wsL_law := ch_17 _ (List.mem_of_getElem? (i := 11) rfl)
theorem m_17_12 : Cond.selects RX12 yX12_owner yX12_owner ∈ wsL_law := ch_17 _ (List.mem_of_getElem? (i := 12) rfl)
theorem m_17_13 : Cond.code yX12_owner cX12_owner 3 (some .boolean) ∈ wsL_law := ch_17 _ (List.mem_of_getElem? (i := 13) rfl)
theorem m_17_17 : Cond.methodLink RL 47 yX11_weather ∈ wsL_law := ch_17 _ (List.mem_of_getElem? (i := 17) rfl)
theorem m_17_18 : Cond.instanceMethod yX11_weather ∈ wsL_law := ch_17 _ (List.mem_of_getElem? (i := 18) rfl)
theorem m_17_19 : Cond.selects RX11 yX11_weather yX11_weather ∈ wsL_law := ch_17 _ (List.mem_of_getElem? (i := 19) rfl)
theorem m_17_20 : Cond.code yX11_weather cX11_weather 2 (some .boolean) ∈ wsL_law := ch_17 _ (List.mem_of_getElem? (i := 20) rfl)
theorem m_18_7 : Cond.methodLink RL 51 yX12_weather ∈ wsL_law := ch_18 _ (List.mem_of_getElem? (i := 7) rfl)
theorem m_18_8 : Cond.instanceMethod yX12_weather ∈ wsL_law := ch_18 _ (List.mem_of_getElem? (i := 8) rfl)
theorem m_18_9 : Cond.selects RX12 yX12_weather yX12_weather ∈ wsL_law := ch_18 _ (List.mem_of_getElem? (i := 9) rfl)
theorem m_18_10 : Cond.code yX12_weather cX12_weather 3 (some .boolean) ∈ wsL_law := ch_18 _ (List.mem_of_getElem? (i := 10) rfl)
theorem m_18_16 : Cond.methodLink RL 52 yX11_sky ∈ wsL_law := ch_18 _ (List.mem_of_getElem? (i := 16) rfl)
theorem m_18_17 : Cond.instanceMethod yX11_sky ∈ wsL_law := ch_18 _ (List.mem_of_getElem? (i := 17) rfl)
theorem m_18_18 : Cond.selects RX11 yX11_sky yX11_sky ∈ wsL_law := ch_18 _ (List.mem_of_getElem? (i := 18) rfl)
theorem m_18_19 : Cond.code yX11_sky cX11_sky 2 (some .int) ∈ wsL_law := ch_18 _ (List.mem_of_getElem? (i := 19) rfl)
theorem m_18_21 : Cond.methodLink RL 55 yX12_sky ∈ wsL_law := ch_18 _ (List.mem_of_getElem? (i := 21) rfl)
theorem m_18_22 : Cond.instanceMethod yX12_sky ∈ wsL_law := ch_18 _ (List.mem_of_getElem? (i := 22) rfl)
theorem m_18_23 : Cond.selects RX12 yX12_sky yX12_sky ∈ wsL_law := ch_18 _ (List.mem_of_getElem? (i := 23) rfl)
theorem m_19_0 : Cond.code yX12_sky cX12_sky 2 (some .int) ∈ wsL_law := ch_19 _ (List.mem_of_getElem? (i := 0) rfl)
theorem m_19_8 : Cond.methodLink RL 56 yX11_headline ∈ wsL_law := ch_19 _ (List.mem_of_getElem? (i := 8) rfl)
theorem m_19_9 : Cond.instanceMethod yX11_headline ∈ wsL_law := ch_19 _ (List.mem_of_getElem? (i := 9) rfl)
theorem m_19_10 : Cond.selects RX11 yX11_headline yX11_headline ∈ wsL_law := ch_19 _ (List.mem_of_getElem? (i := 10) rfl)
theorem m_19_11 : Cond.code yX11_headline cX11_headline 4 (some .boolean) ∈ wsL_law := ch_19 _ (List.mem_of_getElem? (i := 11) rfl)
theorem m_19_19 : Cond.methodLink RL 60 yX12_headline ∈ wsL_law := ch_19 _ (List.mem_of_getElem? (i := 19) rfl)
theorem m_19_20 : Cond.instanceMethod yX12_headline ∈ wsL_law := ch_19 _ (List.mem_of_getElem? (i := 20) rfl)
theorem m_19_21 : Cond.selects RX12 yX12_headline yX12_headline ∈ wsL_law := ch_19 _ (List.mem_of_getElem? (i := 21) rfl)
theorem m_19_22 : Cond.code yX12_headline cX12_headline 4 (some .boolean) ∈ wsL_law := ch_19 _ (List.mem_of_getElem? (i := 22) rfl)
theorem m_20_3 : Cond.methodLink RL 61 yX11_table ∈ wsL_law := ch_20 _ (List.mem_of_getElem? (i := 3) rfl)
theorem m_20_4 : Cond.instanceMethod yX11_table ∈ wsL_law := ch_20 _ (List.mem_of_getElem? (i := 4) rfl)
theorem m_20_5 : Cond.selects RX11 yX11_table yX11_table ∈ wsL_law := ch_20 _ (List.mem_of_getElem? (i := 5) rfl)
theorem m_20_6 : Cond.code yX11_table cX11_table 4 (some .boolean) ∈ wsL_law := ch_20 _ (List.mem_of_getElem? (i := 6) rfl)
theorem m_20_12 : Cond.methodLink RL 64 yX12_table ∈ wsL_law := ch_20 _ (List.mem_of_getElem? (i := 12) rfl)
theorem m_20_13 : Cond.instanceMethod yX12_table ∈ wsL_law := ch_20 _ (List.mem_of_getElem? (i := 13) rfl)
theorem m_20_14 : Cond.selects RX12 yX12_table yX12_table ∈ wsL_law := ch_20 _ (List.mem_of_getElem? (i := 14) rfl)
theorem m_20_15 : Cond.code yX12_table cX12_table 4 (some .boolean) ∈ wsL_law := ch_20 _ (List.mem_of_getElem? (i := 15) rfl)
theorem m_20_16 : Cond.methodLink RL 65 yX11_want ∈ wsL_law := ch_20 _ (List.mem_of_getElem? (i := 16) rfl)
theorem m_20_17 : Cond.instanceMethod yX11_want ∈ wsL_law := ch_20 _ (List.mem_of_getElem? (i := 17) rfl)
theorem m_20_18 : Cond.selects RX11 yX11_want yX11_want ∈ wsL_law := ch_20 _ (List.mem_of_getElem? (i := 18) rfl)
theorem m_20_19 : Cond.code yX11_want cX11_want 4 (some .boolean) ∈ wsL_law := ch_20 _ (List.mem_of_getElem? (i := 19) rfl)
theorem m_20_21 : Cond.methodLink RL 68 yX12_want ∈ wsL_law := ch_20 _ (List.mem_of_getElem? (i := 21) rfl)
theorem m_20_22 : Cond.instanceMethod yX12_want ∈ wsL_law := ch_20 _ (List.mem_of_getElem? (i := 22) rfl)
theorem m_20_23 : Cond.selects RX12 yX12_want yX12_want ∈ wsL_law := ch_20 _ (List.mem_of_getElem? (i := 23) rfl)
theorem m_21_0 : Cond.code yX12_want cX12_want 4 (some .boolean) ∈ wsL_law := ch_21 _ (List.mem_of_getElem? (i := 0) rfl)
theorem m_21_1 : Cond.methodLink RL 69 yX11_asked ∈ wsL_law := ch_21 _ (List.mem_of_getElem? (i := 1) rfl)
theorem m_21_2 : Cond.instanceMethod yX11_asked ∈ wsL_law := ch_21 _ (List.mem_of_getElem? (i := 2) rfl)
theorem m_21_3 : Cond.selects RX11 yX11_asked yX11_asked ∈ wsL_law := ch_21 _ (List.mem_of_getElem? (i := 3) rfl)
theorem m_21_4 : Cond.code yX11_asked cX11_asked 5 (some .int) ∈ wsL_law := ch_21 _ (List.mem_of_getElem? (i := 4) rfl)
theorem m_21_9 : Cond.methodLink RL 73 yX12_asked ∈ wsL_law := ch_21 _ (List.mem_of_getElem? (i := 9) rfl)
theorem m_21_10 : Cond.instanceMethod yX12_asked ∈ wsL_law := ch_21 _ (List.mem_of_getElem? (i := 10) rfl)
theorem m_21_11 : Cond.selects RX12 yX12_asked yX12_asked ∈ wsL_law := ch_21 _ (List.mem_of_getElem? (i := 11) rfl)
theorem m_21_12 : Cond.code yX12_asked cX12_asked 5 (some .int) ∈ wsL_law := ch_21 _ (List.mem_of_getElem? (i := 12) rfl)
theorem m_21_17 : Cond.methodLink RL 74 yX11_minutes ∈ wsL_law := ch_21 _ (List.mem_of_getElem? (i := 17) rfl)
theorem m_21_18 : Cond.instanceMethod yX11_minutes ∈ wsL_law := ch_21 _ (List.mem_of_getElem? (i := 18) rfl)
theorem m_21_19 : Cond.selects RX11 yX11_minutes yX11_minutes ∈ wsL_law := ch_21 _ (List.mem_of_getElem? (i := 19) rfl)
theorem m_21_20 : Cond.code yX11_minutes cX11_minutes 4 (some .boolean) ∈ wsL_law := ch_21 _ (List.mem_of_getElem? (i := 20) rfl)
theorem m_21_22 : Cond.methodLink RL 77 yX12_minutes ∈ wsL_law := ch_21 _ (List.mem_of_getElem? (i := 22) rfl)
theorem m_21_23 : Cond.instanceMethod yX12_minutes ∈ wsL_law := ch_21 _ (List.mem_of_getElem? (i := 23) rfl)
theorem m_22_0 : Cond.selects RX12 yX12_minutes yX12_minutes ∈ wsL_law := ch_22 _ (List.mem_of_getElem? (i := 0) rfl)
theorem m_22_1 : Cond.code yX12_minutes cX12_minutes 4 (some .boolean) ∈ wsL_law := ch_22 _ (List.mem_of_getElem? (i := 1) rfl)
theorem m_22_7 : Cond.methodLink RL 78 yX11_terms ∈ wsL_law := ch_22 _ (List.mem_of_getElem? (i := 7) rfl)
theorem m_22_8 : Cond.instanceMethod yX11_terms ∈ wsL_law := ch_22 _ (List.mem_of_getElem? (i := 8) rfl)
theorem m_22_9 : Cond.selects RX11 yX11_terms yX11_terms ∈ wsL_law := ch_22 _ (List.mem_of_getElem? (i := 9) rfl)
theorem m_22_10 : Cond.code yX11_terms cX11_terms 3 (some .int) ∈ wsL_law := ch_22 _ (List.mem_of_getElem? (i := 10) rfl)
theorem m_28_3 : Cond.methodLink RL 81 yX12_terms ∈ wsL_law := ch_28 _ (List.mem_of_getElem? (i := 3) rfl)
theorem m_28_4 : Cond.instanceMethod yX12_terms ∈ wsL_law := ch_28 _ (List.mem_of_getElem? (i := 4) rfl)
theorem m_28_5 : Cond.selects RX12 yX12_terms yX12_terms ∈ wsL_law := ch_28 _ (List.mem_of_getElem? (i := 5) rfl)
theorem m_28_6 : Cond.code yX12_terms cX12_terms 4 (some .int) ∈ wsL_law := ch_28 _ (List.mem_of_getElem? (i := 6) rfl)
theorem m_32_9 : Cond.methodLink RL 82 yX11_fault ∈ wsL_law := ch_32 _ (List.mem_of_getElem? (i := 9) rfl)
theorem m_32_10 : Cond.instanceMethod yX11_fault ∈ wsL_law := ch_32 _ (List.mem_of_getElem? (i := 10) rfl)
theorem m_32_11 : Cond.selects RX11 yX11_fault yX11_fault ∈ wsL_law := ch_32 _ (List.mem_of_getElem? (i := 11) rfl)
theorem m_32_12 : Cond.code yX11_fault cX11_fault 1 (some .int) ∈ wsL_law := ch_32 _ (List.mem_of_getElem? (i := 12) rfl)
theorem m_32_13 : Cond.methodLink RL 86 yX12_fault ∈ wsL_law := ch_32 _ (List.mem_of_getElem? (i := 13) rfl)
theorem m_32_14 : Cond.instanceMethod yX12_fault ∈ wsL_law := ch_32 _ (List.mem_of_getElem? (i := 14) rfl)
theorem m_32_15 : Cond.selects RX12 yX12_fault yX12_fault ∈ wsL_law := ch_32 _ (List.mem_of_getElem? (i := 15) rfl)
theorem m_32_16 : Cond.code yX12_fault cX12_fault 1 (some .int) ∈ wsL_law := ch_32 _ (List.mem_of_getElem? (i := 16) rfl)
theorem m_32_17 : Cond.methodLink RL 87 yX11_bundle ∈ wsL_law := ch_32 _ (List.mem_of_getElem? (i := 17) rfl)
theorem m_32_18 : Cond.instanceMethod yX11_bundle ∈ wsL_law := ch_32 _ (List.mem_of_getElem? (i := 18) rfl)
theorem m_32_19 : Cond.selects RX11 yX11_bundle yX11_bundle ∈ wsL_law := ch_32 _ (List.mem_of_getElem? (i := 19) rfl)
theorem m_32_20 : Cond.code yX11_bundle cX11_bundle 7 (some .int) ∈ wsL_law := ch_32 _ (List.mem_of_getElem? (i := 20) rfl)
theorem m_36_1 : Cond.methodLink RL 90 yX12_bundle ∈ wsL_law := ch_36 _ (List.mem_of_getElem? (i := 1) rfl)
theorem m_36_2 : Cond.instanceMethod yX12_bundle ∈ wsL_law := ch_36 _ (List.mem_of_getElem? (i := 2) rfl)
theorem m_36_3 : Cond.selects RX12 yX12_bundle yX12_bundle ∈ wsL_law := ch_36 _ (List.mem_of_getElem? (i := 3) rfl)
theorem m_36_4 : Cond.code yX12_bundle cX12_bundle 8 (some .int) ∈ wsL_law := ch_36 _ (List.mem_of_getElem? (i := 4) rfl)
theorem m_37_4 : Cond.methodLink RL 91 yX11_told ∈ wsL_law := ch_37 _ (List.mem_of_getElem? (i := 4) rfl)
theorem m_37_5 : Cond.instanceMethod yX11_told ∈ wsL_law := ch_37 _ (List.mem_of_getElem? (i := 5) rfl)
theorem m_37_6 : Cond.selects RX11 yX11_told yX11_told ∈ wsL_law := ch_37 _ (List.mem_of_getElem? (i := 6) rfl)
theorem m_37_7 : Cond.code yX11_told cX11_told 5 (some .int) ∈ wsL_law := ch_37 _ (List.mem_of_getElem? (i := 7) rfl)
theorem m_37_18 : Cond.methodLink RL 94 yX12_told ∈ wsL_law := ch_37 _ (List.mem_of_getElem? (i := 18) rfl)
theorem m_37_19 : Cond.instanceMethod yX12_told ∈ wsL_law := ch_37 _ (List.mem_of_getElem? (i := 19) rfl)
theorem m_37_20 : Cond.selects RX12 yX12_told yX12_told ∈ wsL_law := ch_37 _ (List.mem_of_getElem? (i := 20) rfl)
theorem m_37_21 : Cond.code yX12_told cX12_told 4 (some .int) ∈ wsL_law := ch_37 _ (List.mem_of_getElem? (i := 21) rfl)
theorem m_38_2 : Cond.methodLink RL 95 yX11_why ∈ wsL_law := ch_38 _ (List.mem_of_getElem? (i := 2) rfl)
theorem m_38_3 : Cond.instanceMethod yX11_why ∈ wsL_law := ch_38 _ (List.mem_of_getElem? (i := 3) rfl)
theorem m_38_4 : Cond.selects RX11 yX11_why yX11_why ∈ wsL_law := ch_38 _ (List.mem_of_getElem? (i := 4) rfl)
theorem m_38_5 : Cond.code yX11_why cX11_why 1 (some .int) ∈ wsL_law := ch_38 _ (List.mem_of_getElem? (i := 5) rfl)
theorem m_38_6 : Cond.methodLink RL 98 yX12_why ∈ wsL_law := ch_38 _ (List.mem_of_getElem? (i := 6) rfl)
theorem m_38_7 : Cond.instanceMethod yX12_why ∈ wsL_law := ch_38 _ (List.mem_of_getElem? (i := 7) rfl)
theorem m_38_8 : Cond.selects RX12 yX12_why yX12_why ∈ wsL_law := ch_38 _ (List.mem_of_getElem? (i := 8) rfl)
theorem m_38_9 : Cond.code yX12_why cX12_why 1 (some .int) ∈ wsL_law := ch_38 _ (List.mem_of_getElem? (i := 9) rfl)
theorem m_38_10 : Cond.methodLink RL 99 yX11_close ∈ wsL_law := ch_38 _ (List.mem_of_getElem? (i := 10) rfl)
theorem m_38_11 : Cond.instanceMethod yX11_close ∈ wsL_law := ch_38 _ (List.mem_of_getElem? (i := 11) rfl)
theorem m_38_12 : Cond.selects RX11 yX11_close yX11_close ∈ wsL_law := ch_38 _ (List.mem_of_getElem? (i := 12) rfl)
theorem m_38_13 : Cond.code yX11_close cX11_close 1 (some .int) ∈ wsL_law := ch_38 _ (List.mem_of_getElem? (i := 13) rfl)
theorem m_40_16 : Cond.methodLink RL 102 yX12_close ∈ wsL_law := ch_40 _ (List.mem_of_getElem? (i := 16) rfl)
theorem m_40_17 : Cond.instanceMethod yX12_close ∈ wsL_law := ch_40 _ (List.mem_of_getElem? (i := 17) rfl)
theorem m_40_18 : Cond.selects RX12 yX12_close yX12_close ∈ wsL_law := ch_40 _ (List.mem_of_getElem? (i := 18) rfl)
theorem m_40_19 : Cond.code yX12_close cX12_close 4 (some .int) ∈ wsL_law := ch_40 _ (List.mem_of_getElem? (i := 19) rfl)
theorem m_42_3 : Cond.methodLink RL 108 yX12_of ∈ wsL_law := ch_42 _ (List.mem_of_getElem? (i := 3) rfl)
theorem m_42_4 : Cond.instanceMethod yX12_of ∈ wsL_law := ch_42 _ (List.mem_of_getElem? (i := 4) rfl)
theorem m_42_5 : Cond.selects RX12 yX12_of yX12_of ∈ wsL_law := ch_42 _ (List.mem_of_getElem? (i := 5) rfl)
theorem m_42_6 : Cond.code yX12_of cX12_of 3 (some .int) ∈ wsL_law := ch_42 _ (List.mem_of_getElem? (i := 6) rfl)
theorem m_42_18 : Cond.methodLink RL 112 yX12_coin ∈ wsL_law := ch_42 _ (List.mem_of_getElem? (i := 18) rfl)
theorem m_42_19 : Cond.instanceMethod yX12_coin ∈ wsL_law := ch_42 _ (List.mem_of_getElem? (i := 19) rfl)
theorem m_42_20 : Cond.selects RX12 yX12_coin yX12_coin ∈ wsL_law := ch_42 _ (List.mem_of_getElem? (i := 20) rfl)
theorem m_42_21 : Cond.code yX12_coin cX12_coin 2 (some .int) ∈ wsL_law := ch_42 _ (List.mem_of_getElem? (i := 21) rfl)
theorem m_42_22 : Cond.methodLink RL 113 yX11_counted ∈ wsL_law := ch_42 _ (List.mem_of_getElem? (i := 22) rfl)
theorem m_43_0 : Cond.instanceMethod yX11_counted ∈ wsL_law := ch_43 _ (List.mem_of_getElem? (i := 0) rfl)
theorem m_43_1 : Cond.selects RX11 yX11_counted yX11_counted ∈ wsL_law := ch_43 _ (List.mem_of_getElem? (i := 1) rfl)
theorem m_43_2 : Cond.code yX11_counted cX11_counted 5 (some .int) ∈ wsL_law := ch_43 _ (List.mem_of_getElem? (i := 2) rfl)
theorem m_43_9 : Cond.methodLink RL 116 yX12_counted ∈ wsL_law := ch_43 _ (List.mem_of_getElem? (i := 9) rfl)
theorem m_43_10 : Cond.instanceMethod yX12_counted ∈ wsL_law := ch_43 _ (List.mem_of_getElem? (i := 10) rfl)
theorem m_43_11 : Cond.selects RX12 yX12_counted yX12_counted ∈ wsL_law := ch_43 _ (List.mem_of_getElem? (i := 11) rfl)
theorem m_43_12 : Cond.code yX12_counted cX12_counted 5 (some .int) ∈ wsL_law := ch_43 _ (List.mem_of_getElem? (i := 12) rfl)
theorem m_43_14 : Cond.methodLink RL 117 yX11_falseCounts ∈ wsL_law := ch_43 _ (List.mem_of_getElem? (i := 14) rfl)
theorem m_43_15 : Cond.instanceMethod yX11_falseCounts ∈ wsL_law := ch_43 _ (List.mem_of_getElem? (i := 15) rfl)
theorem m_43_16 : Cond.selects RX11 yX11_falseCounts yX11_falseCounts ∈ wsL_law := ch_43 _ (List.mem_of_getElem? (i := 16) rfl)
theorem m_43_17 : Cond.code yX11_falseCounts cX11_falseCounts 2 (some .int) ∈ wsL_law := ch_43 _ (List.mem_of_getElem? (i := 17) rfl)
theorem m_44_6 : Cond.methodLink RL 120 yX12_falseCounts ∈ wsL_law := ch_44 _ (List.mem_of_getElem? (i := 6) rfl)
theorem m_44_7 : Cond.instanceMethod yX12_falseCounts ∈ wsL_law := ch_44 _ (List.mem_of_getElem? (i := 7) rfl)
theorem m_44_8 : Cond.selects RX12 yX12_falseCounts yX12_falseCounts ∈ wsL_law := ch_44 _ (List.mem_of_getElem? (i := 8) rfl)
theorem m_44_9 : Cond.code yX12_falseCounts cX12_falseCounts 7 (some .int) ∈ wsL_law := ch_44 _ (List.mem_of_getElem? (i := 9) rfl)
theorem m_44_18 : Cond.methodLink RL 121 yX11_shortOf ∈ wsL_law := ch_44 _ (List.mem_of_getElem? (i := 18) rfl)
theorem m_44_19 : Cond.instanceMethod yX11_shortOf ∈ wsL_law := ch_44 _ (List.mem_of_getElem? (i := 19) rfl)
theorem m_44_20 : Cond.selects RX11 yX11_shortOf yX11_shortOf ∈ wsL_law := ch_44 _ (List.mem_of_getElem? (i := 20) rfl)
theorem m_44_21 : Cond.code yX11_shortOf cX11_shortOf 2 (some .int) ∈ wsL_law := ch_44 _ (List.mem_of_getElem? (i := 21) rfl)
theorem m_45_17 : Cond.methodLink RL 124 yX12_shortOf ∈ wsL_law := ch_45 _ (List.mem_of_getElem? (i := 17) rfl)
theorem m_45_18 : Cond.instanceMethod yX12_shortOf ∈ wsL_law := ch_45 _ (List.mem_of_getElem? (i := 18) rfl)
theorem m_45_19 : Cond.selects RX12 yX12_shortOf yX12_shortOf ∈ wsL_law := ch_45 _ (List.mem_of_getElem? (i := 19) rfl)
theorem m_45_20 : Cond.code yX12_shortOf cX12_shortOf 9 (some .int) ∈ wsL_law := ch_45 _ (List.mem_of_getElem? (i := 20) rfl)
theorem m_46_1 : Cond.methodLink RL 125 yX11_best ∈ wsL_law := ch_46 _ (List.mem_of_getElem? (i := 1) rfl)
theorem m_46_2 : Cond.instanceMethod yX11_best ∈ wsL_law := ch_46 _ (List.mem_of_getElem? (i := 2) rfl)
theorem m_46_3 : Cond.selects RX11 yX11_best yX11_best ∈ wsL_law := ch_46 _ (List.mem_of_getElem? (i := 3) rfl)
theorem m_46_4 : Cond.code yX11_best cX11_best 7 (some .int) ∈ wsL_law := ch_46 _ (List.mem_of_getElem? (i := 4) rfl)
theorem m_47_0 : Cond.methodLink RL 128 yX12_best ∈ wsL_law := ch_47 _ (List.mem_of_getElem? (i := 0) rfl)
theorem m_47_1 : Cond.instanceMethod yX12_best ∈ wsL_law := ch_47 _ (List.mem_of_getElem? (i := 1) rfl)
theorem m_47_2 : Cond.selects RX12 yX12_best yX12_best ∈ wsL_law := ch_47 _ (List.mem_of_getElem? (i := 2) rfl)
theorem m_47_3 : Cond.code yX12_best cX12_best 19 (some .int) ∈ wsL_law := ch_47 _ (List.mem_of_getElem? (i := 3) rfl)
theorem m_47_5 : Cond.methodLink RL 129 yX11_expected ∈ wsL_law := ch_47 _ (List.mem_of_getElem? (i := 5) rfl)
theorem m_47_6 : Cond.instanceMethod yX11_expected ∈ wsL_law := ch_47 _ (List.mem_of_getElem? (i := 6) rfl)
theorem m_47_7 : Cond.selects RX11 yX11_expected yX11_expected ∈ wsL_law := ch_47 _ (List.mem_of_getElem? (i := 7) rfl)
theorem m_47_8 : Cond.code yX11_expected cX11_expected 1 (some .long) ∈ wsL_law := ch_47 _ (List.mem_of_getElem? (i := 8) rfl)
theorem m_47_10 : Cond.methodLink RL 133 yX12_expected ∈ wsL_law := ch_47 _ (List.mem_of_getElem? (i := 10) rfl)
theorem m_47_11 : Cond.instanceMethod yX12_expected ∈ wsL_law := ch_47 _ (List.mem_of_getElem? (i := 11) rfl)
theorem m_47_12 : Cond.selects RX12 yX12_expected yX12_expected ∈ wsL_law := ch_47 _ (List.mem_of_getElem? (i := 12) rfl)
theorem m_47_13 : Cond.code yX12_expected cX12_expected 1 (some .long) ∈ wsL_law := ch_47 _ (List.mem_of_getElem? (i := 13) rfl)
theorem m_47_14 : Cond.methodLink RL 134 yX11_tried ∈ wsL_law := ch_47 _ (List.mem_of_getElem? (i := 14) rfl)
theorem m_47_15 : Cond.instanceMethod yX11_tried ∈ wsL_law := ch_47 _ (List.mem_of_getElem? (i := 15) rfl)
theorem m_47_16 : Cond.selects RX11 yX11_tried yX11_tried ∈ wsL_law := ch_47 _ (List.mem_of_getElem? (i := 16) rfl)
theorem m_47_17 : Cond.code yX11_tried cX11_tried 1 (some .int) ∈ wsL_law := ch_47 _ (List.mem_of_getElem? (i := 17) rfl)
theorem m_48_3 : Cond.methodLink RL 137 yX12_tried ∈ wsL_law := ch_48 _ (List.mem_of_getElem? (i := 3) rfl)
theorem m_48_4 : Cond.instanceMethod yX12_tried ∈ wsL_law := ch_48 _ (List.mem_of_getElem? (i := 4) rfl)
theorem m_48_5 : Cond.selects RX12 yX12_tried yX12_tried ∈ wsL_law := ch_48 _ (List.mem_of_getElem? (i := 5) rfl)
theorem m_48_6 : Cond.code yX12_tried cX12_tried 5 (some .int) ∈ wsL_law := ch_48 _ (List.mem_of_getElem? (i := 6) rfl)
theorem m_48_12 : Cond.methodLink RL 138 yX11_triedEaten ∈ wsL_law := ch_48 _ (List.mem_of_getElem? (i := 12) rfl)
theorem m_48_13 : Cond.instanceMethod yX11_triedEaten ∈ wsL_law := ch_48 _ (List.mem_of_getElem? (i := 13) rfl)
theorem m_48_14 : Cond.selects RX11 yX11_triedEaten yX11_triedEaten ∈ wsL_law := ch_48 _ (List.mem_of_getElem? (i := 14) rfl)
theorem m_48_15 : Cond.code yX11_triedEaten cX11_triedEaten 1 (some .int) ∈ wsL_law := ch_48 _ (List.mem_of_getElem? (i := 15) rfl)
theorem m_48_16 : Cond.methodLink RL 141 yX12_triedEaten ∈ wsL_law := ch_48 _ (List.mem_of_getElem? (i := 16) rfl)
theorem m_48_17 : Cond.instanceMethod yX12_triedEaten ∈ wsL_law := ch_48 _ (List.mem_of_getElem? (i := 17) rfl)
theorem m_48_18 : Cond.selects RX12 yX12_triedEaten yX12_triedEaten ∈ wsL_law := ch_48 _ (List.mem_of_getElem? (i := 18) rfl)
theorem m_48_19 : Cond.code yX12_triedEaten cX12_triedEaten 1 (some .int) ∈ wsL_law := ch_48 _ (List.mem_of_getElem? (i := 19) rfl)
theorem m_48_20 : Cond.methodLink RL 142 yX11_parted ∈ wsL_law := ch_48 _ (List.mem_of_getElem? (i := 20) rfl)
theorem m_48_21 : Cond.instanceMethod yX11_parted ∈ wsL_law := ch_48 _ (List.mem_of_getElem? (i := 21) rfl)
theorem m_48_22 : Cond.selects RX11 yX11_parted yX11_parted ∈ wsL_law := ch_48 _ (List.mem_of_getElem? (i := 22) rfl)
theorem m_48_23 : Cond.code yX11_parted cX11_parted 6 (some .int) ∈ wsL_law := ch_48 _ (List.mem_of_getElem? (i := 23) rfl)
theorem m_51_16 : Cond.methodLink RL 146 yX12_parted ∈ wsL_law := ch_51 _ (List.mem_of_getElem? (i := 16) rfl)
theorem m_51_17 : Cond.instanceMethod yX12_parted ∈ wsL_law := ch_51 _ (List.mem_of_getElem? (i := 17) rfl)
theorem m_51_18 : Cond.selects RX12 yX12_parted yX12_parted ∈ wsL_law := ch_51 _ (List.mem_of_getElem? (i := 18) rfl)
theorem m_51_19 : Cond.code yX12_parted cX12_parted 7 (some .int) ∈ wsL_law := ch_51 _ (List.mem_of_getElem? (i := 19) rfl)
theorem m_52_16 : Cond.methodLink RL 147 yX11_partedAt ∈ wsL_law := ch_52 _ (List.mem_of_getElem? (i := 16) rfl)
theorem m_52_17 : Cond.instanceMethod yX11_partedAt ∈ wsL_law := ch_52 _ (List.mem_of_getElem? (i := 17) rfl)
theorem m_52_18 : Cond.selects RX11 yX11_partedAt yX11_partedAt ∈ wsL_law := ch_52 _ (List.mem_of_getElem? (i := 18) rfl)
theorem m_52_19 : Cond.code yX11_partedAt cX11_partedAt 2 (some .int) ∈ wsL_law := ch_52 _ (List.mem_of_getElem? (i := 19) rfl)
theorem m_52_22 : Cond.methodLink RL 150 yX12_partedAt ∈ wsL_law := ch_52 _ (List.mem_of_getElem? (i := 22) rfl)
theorem m_52_23 : Cond.instanceMethod yX12_partedAt ∈ wsL_law := ch_52 _ (List.mem_of_getElem? (i := 23) rfl)
theorem m_53_0 : Cond.selects RX12 yX12_partedAt yX12_partedAt ∈ wsL_law := ch_53 _ (List.mem_of_getElem? (i := 0) rfl)
theorem m_53_1 : Cond.code yX12_partedAt cX12_partedAt 2 (some .int) ∈ wsL_law := ch_53 _ (List.mem_of_getElem? (i := 1) rfl)
theorem m_53_2 : Cond.methodLink RL 151 yX11_peace ∈ wsL_law := ch_53 _ (List.mem_of_getElem? (i := 2) rfl)
theorem m_53_3 : Cond.instanceMethod yX11_peace ∈ wsL_law := ch_53 _ (List.mem_of_getElem? (i := 3) rfl)
theorem m_53_4 : Cond.selects RX11 yX11_peace yX11_peace ∈ wsL_law := ch_53 _ (List.mem_of_getElem? (i := 4) rfl)
theorem m_53_5 : Cond.code yX11_peace cX11_peace 2 (some .int) ∈ wsL_law := ch_53 _ (List.mem_of_getElem? (i := 5) rfl)
theorem m_53_10 : Cond.methodLink RL 154 yX12_peace ∈ wsL_law := ch_53 _ (List.mem_of_getElem? (i := 10) rfl)
theorem m_53_11 : Cond.instanceMethod yX12_peace ∈ wsL_law := ch_53 _ (List.mem_of_getElem? (i := 11) rfl)
theorem m_53_12 : Cond.selects RX12 yX12_peace yX12_peace ∈ wsL_law := ch_53 _ (List.mem_of_getElem? (i := 12) rfl)
theorem m_53_13 : Cond.code yX12_peace cX12_peace 2 (some .int) ∈ wsL_law := ch_53 _ (List.mem_of_getElem? (i := 13) rfl)
theorem m_53_14 : Cond.methodLink RL 155 yX11_truck ∈ wsL_law := ch_53 _ (List.mem_of_getElem? (i := 14) rfl)
theorem m_53_15 : Cond.instanceMethod yX11_truck ∈ wsL_law := ch_53 _ (List.mem_of_getElem? (i := 15) rfl)
theorem m_53_16 : Cond.selects RX11 yX11_truck yX11_truck ∈ wsL_law := ch_53 _ (List.mem_of_getElem? (i := 16) rfl)
theorem m_53_17 : Cond.code yX11_truck cX11_truck 2 (some .int) ∈ wsL_law := ch_53 _ (List.mem_of_getElem? (i := 17) rfl)
theorem m_55_10 : Cond.methodLink RL 158 yX12_truck ∈ wsL_law := ch_55 _ (List.mem_of_getElem? (i := 10) rfl)
theorem m_55_11 : Cond.instanceMethod yX12_truck ∈ wsL_law := ch_55 _ (List.mem_of_getElem? (i := 11) rfl)
theorem m_55_12 : Cond.selects RX12 yX12_truck yX12_truck ∈ wsL_law := ch_55 _ (List.mem_of_getElem? (i := 12) rfl)
theorem m_55_13 : Cond.code yX12_truck cX12_truck 7 (some .int) ∈ wsL_law := ch_55 _ (List.mem_of_getElem? (i := 13) rfl)
theorem m_56_2 : Cond.methodLink RL 159 yX11_truckAt ∈ wsL_law := ch_56 _ (List.mem_of_getElem? (i := 2) rfl)
theorem m_56_3 : Cond.instanceMethod yX11_truckAt ∈ wsL_law := ch_56 _ (List.mem_of_getElem? (i := 3) rfl)
theorem m_56_4 : Cond.selects RX11 yX11_truckAt yX11_truckAt ∈ wsL_law := ch_56 _ (List.mem_of_getElem? (i := 4) rfl)
theorem m_56_5 : Cond.code yX11_truckAt cX11_truckAt 2 (some .int) ∈ wsL_law := ch_56 _ (List.mem_of_getElem? (i := 5) rfl)
theorem m_56_8 : Cond.methodLink RL 162 yX12_truckAt ∈ wsL_law := ch_56 _ (List.mem_of_getElem? (i := 8) rfl)
theorem m_56_9 : Cond.instanceMethod yX12_truckAt ∈ wsL_law := ch_56 _ (List.mem_of_getElem? (i := 9) rfl)
theorem m_56_10 : Cond.selects RX12 yX12_truckAt yX12_truckAt ∈ wsL_law := ch_56 _ (List.mem_of_getElem? (i := 10) rfl)
theorem m_56_11 : Cond.code yX12_truckAt cX12_truckAt 2 (some .int) ∈ wsL_law := ch_56 _ (List.mem_of_getElem? (i := 11) rfl)
theorem m_56_12 : Cond.methodLink RL 163 yX11_strike ∈ wsL_law := ch_56 _ (List.mem_of_getElem? (i := 12) rfl)
theorem m_56_13 : Cond.instanceMethod yX11_strike ∈ wsL_law := ch_56 _ (List.mem_of_getElem? (i := 13) rfl)
theorem m_56_14 : Cond.selects RX11 yX11_strike yX11_strike ∈ wsL_law := ch_56 _ (List.mem_of_getElem? (i := 14) rfl)
theorem m_56_15 : Cond.code yX11_strike cX11_strike 7 (some .int) ∈ wsL_law := ch_56 _ (List.mem_of_getElem? (i := 15) rfl)
theorem m_57_5 : Cond.methodLink RL 166 yX12_strike ∈ wsL_law := ch_57 _ (List.mem_of_getElem? (i := 5) rfl)
theorem m_57_6 : Cond.instanceMethod yX12_strike ∈ wsL_law := ch_57 _ (List.mem_of_getElem? (i := 6) rfl)
theorem m_57_7 : Cond.selects RX12 yX12_strike yX12_strike ∈ wsL_law := ch_57 _ (List.mem_of_getElem? (i := 7) rfl)
theorem m_57_8 : Cond.code yX12_strike cX12_strike 13 (some .int) ∈ wsL_law := ch_57 _ (List.mem_of_getElem? (i := 8) rfl)
theorem m_57_12 : Cond.methodLink RL 167 yX11_struck ∈ wsL_law := ch_57 _ (List.mem_of_getElem? (i := 12) rfl)
theorem m_57_13 : Cond.instanceMethod yX11_struck ∈ wsL_law := ch_57 _ (List.mem_of_getElem? (i := 13) rfl)
theorem m_57_14 : Cond.selects RX11 yX11_struck yX11_struck ∈ wsL_law := ch_57 _ (List.mem_of_getElem? (i := 14) rfl)
theorem m_57_15 : Cond.code yX11_struck cX11_struck 2 (some .int) ∈ wsL_law := ch_57 _ (List.mem_of_getElem? (i := 15) rfl)
theorem m_57_16 : Cond.methodLink RL 170 yX12_struck ∈ wsL_law := ch_57 _ (List.mem_of_getElem? (i := 16) rfl)
theorem m_57_17 : Cond.instanceMethod yX12_struck ∈ wsL_law := ch_57 _ (List.mem_of_getElem? (i := 17) rfl)
theorem m_57_18 : Cond.selects RX12 yX12_struck yX12_struck ∈ wsL_law := ch_57 _ (List.mem_of_getElem? (i := 18) rfl)
theorem m_57_19 : Cond.code yX12_struck cX12_struck 2 (some .int) ∈ wsL_law := ch_57 _ (List.mem_of_getElem? (i := 19) rfl)
theorem m_57_20 : Cond.methodLink RL 171 yX11_count ∈ wsL_law := ch_57 _ (List.mem_of_getElem? (i := 20) rfl)
theorem m_57_21 : Cond.instanceMethod yX11_count ∈ wsL_law := ch_57 _ (List.mem_of_getElem? (i := 21) rfl)
theorem m_57_22 : Cond.selects RX11 yX11_count yX11_count ∈ wsL_law := ch_57 _ (List.mem_of_getElem? (i := 22) rfl)
theorem m_57_23 : Cond.code yX11_count cX11_count 2 (some .int) ∈ wsL_law := ch_57 _ (List.mem_of_getElem? (i := 23) rfl)
theorem m_58_0 : Cond.methodLink RL 174 yX12_count ∈ wsL_law := ch_58 _ (List.mem_of_getElem? (i := 0) rfl)
theorem m_58_1 : Cond.instanceMethod yX12_count ∈ wsL_law := ch_58 _ (List.mem_of_getElem? (i := 1) rfl)
theorem m_58_2 : Cond.selects RX12 yX12_count yX12_count ∈ wsL_law := ch_58 _ (List.mem_of_getElem? (i := 2) rfl)
theorem m_58_3 : Cond.code yX12_count cX12_count 2 (some .int) ∈ wsL_law := ch_58 _ (List.mem_of_getElem? (i := 3) rfl)
theorem dL_law_0 : decode cL_law 0 = .ok (.new 8, 3) := by decide +kernel
theorem dL_law_3 : decode cL_law 3 = .ok (.dup, 1) := by decide +kernel
theorem dL_law_4 : decode cL_law 4 = .ok (.invokespecial 19, 3) := by decide +kernel
theorem dL_law_7 : decode cL_law 7 = .ok (.astore_n 1, 1) := by decide +kernel
theorem dL_law_8 : decode cL_law 8 = .ok (.new 20, 3) := by decide +kernel
theorem dL_law_11 : decode cL_law 11 = .ok (.dup, 1) := by decide +kernel
theorem dL_law_12 : decode cL_law 12 = .ok (.invokespecial 22, 3) := by decide +kernel
theorem dL_law_15 : decode cL_law 15 = .ok (.astore_n 2, 1) := by decide +kernel
theorem dL_law_16 : decode cL_law 16 = .ok (.iconst 1, 1) := by decide +kernel
theorem dL_law_17 : decode cL_law 17 = .ok (.newarray .long, 2) := by decide +kernel
theorem dL_law_19 : decode cL_law 19 = .ok (.astore_n 3, 1) := by decide +kernel
theorem dL_law_20 : decode cL_law 20 = .ok (.iconst 0, 1) := by decide +kernel
theorem dL_law_21 : decode cL_law 21 = .ok (.istore 4, 2) := by decide +kernel
theorem dL_law_23 : decode cL_law 23 = .ok (.iload 4, 2) := by decide +kernel
theorem dL_law_25 : decode cL_law 25 = .ok (.aload_n 0, 1) := by decide +kernel
theorem dL_law_26 : decode cL_law 26 = .ok (.arraylength, 1) := by decide +kernel
theorem dL_law_27 : decode cL_law 27 = .ok (.bipush 6, 2) := by decide +kernel
theorem dL_law_29 : decode cL_law 29 = .ok (.isub, 1) := by decide +kernel
theorem dL_law_30 : decode cL_law 30 = .ok (.if_icmp .gt 1441, 3) := by decide +kernel
theorem dL_law_33 : decode cL_law 33 = .ok (.aload_n 0, 1) := by decide +kernel
theorem dL_law_34 : decode cL_law 34 = .ok (.iload 4, 2) := by decide +kernel
theorem dL_law_36 : decode cL_law 36 = .ok (.iaload, 1) := by decide +kernel
theorem dL_law_37 : decode cL_law 37 = .ok (.bipush 63, 2) := by decide +kernel
theorem dL_law_39 : decode cL_law 39 = .ok (.iand, 1) := by decide +kernel
theorem dL_law_40 : decode cL_law 40 = .ok (.tableswitch 1425 0 34 #[156, 229, 254, 331, 368, 405, 418, 443, 492, 541, 590, 651, 700, 725, 738, 811, 848, 861, 874, 914, 942, 1003, 1028, 1053, 1126, 1139, 1152, 1165, 1214, 1239, 1264, 1277, 1302, 1375, 1400], 156) := by decide +kernel
theorem dL_law_196 : decode cL_law 196 = .ok (.aload_n 1, 1) := by decide +kernel
theorem dL_law_197 : decode cL_law 197 = .ok (.aload_n 0, 1) := by decide +kernel
theorem dL_law_198 : decode cL_law 198 = .ok (.iload 4, 2) := by decide +kernel
theorem dL_law_200 : decode cL_law 200 = .ok (.iconst 1, 1) := by decide +kernel
theorem dL_law_201 : decode cL_law 201 = .ok (.iadd, 1) := by decide +kernel
theorem dL_law_202 : decode cL_law 202 = .ok (.iaload, 1) := by decide +kernel
theorem dL_law_203 : decode cL_law 203 = .ok (.aload_n 0, 1) := by decide +kernel
theorem dL_law_204 : decode cL_law 204 = .ok (.iload 4, 2) := by decide +kernel
theorem dL_law_206 : decode cL_law 206 = .ok (.iconst 2, 1) := by decide +kernel
theorem dL_law_207 : decode cL_law 207 = .ok (.iadd, 1) := by decide +kernel
theorem dL_law_208 : decode cL_law 208 = .ok (.iaload, 1) := by decide +kernel
theorem dL_law_209 : decode cL_law 209 = .ok (.aload_n 0, 1) := by decide +kernel
theorem dL_law_210 : decode cL_law 210 = .ok (.iload 4, 2) := by decide +kernel
theorem dL_law_212 : decode cL_law 212 = .ok (.iconst 3, 1) := by decide +kernel
theorem dL_law_213 : decode cL_law 213 = .ok (.iadd, 1) := by decide +kernel
theorem dL_law_214 : decode cL_law 214 = .ok (.iaload, 1) := by decide +kernel
theorem dL_law_215 : decode cL_law 215 = .ok (.aload_n 0, 1) := by decide +kernel
theorem dL_law_216 : decode cL_law 216 = .ok (.iload 4, 2) := by decide +kernel
theorem dL_law_218 : decode cL_law 218 = .ok (.iconst 4, 1) := by decide +kernel
theorem dL_law_219 : decode cL_law 219 = .ok (.iadd, 1) := by decide +kernel
theorem dL_law_220 : decode cL_law 220 = .ok (.iaload, 1) := by decide +kernel
theorem dL_law_221 : decode cL_law 221 = .ok (.aload_n 0, 1) := by decide +kernel
theorem dL_law_222 : decode cL_law 222 = .ok (.iload 4, 2) := by decide +kernel
theorem dL_law_224 : decode cL_law 224 = .ok (.iconst 5, 1) := by decide +kernel
theorem dL_law_225 : decode cL_law 225 = .ok (.iadd, 1) := by decide +kernel
theorem dL_law_226 : decode cL_law 226 = .ok (.iaload, 1) := by decide +kernel
theorem dL_law_227 : decode cL_law 227 = .ok (.invokevirtual 23, 3) := by decide +kernel
theorem dL_law_230 : decode cL_law 230 = .ok (.pop, 1) := by decide +kernel
theorem dL_law_231 : decode cL_law 231 = .ok (.aload_n 2, 1) := by decide +kernel
theorem dL_law_232 : decode cL_law 232 = .ok (.aload_n 0, 1) := by decide +kernel
theorem dL_law_233 : decode cL_law 233 = .ok (.iload 4, 2) := by decide +kernel
theorem dL_law_235 : decode cL_law 235 = .ok (.iconst 1, 1) := by decide +kernel
theorem dL_law_236 : decode cL_law 236 = .ok (.iadd, 1) := by decide +kernel
theorem dL_law_237 : decode cL_law 237 = .ok (.iaload, 1) := by decide +kernel
theorem dL_law_238 : decode cL_law 238 = .ok (.aload_n 0, 1) := by decide +kernel
theorem dL_law_239 : decode cL_law 239 = .ok (.iload 4, 2) := by decide +kernel
theorem dL_law_241 : decode cL_law 241 = .ok (.iconst 2, 1) := by decide +kernel
theorem dL_law_242 : decode cL_law 242 = .ok (.iadd, 1) := by decide +kernel
theorem dL_law_243 : decode cL_law 243 = .ok (.iaload, 1) := by decide +kernel
theorem dL_law_244 : decode cL_law 244 = .ok (.aload_n 0, 1) := by decide +kernel
theorem dL_law_245 : decode cL_law 245 = .ok (.iload 4, 2) := by decide +kernel
theorem dL_law_247 : decode cL_law 247 = .ok (.iconst 3, 1) := by decide +kernel
theorem dL_law_248 : decode cL_law 248 = .ok (.iadd, 1) := by decide +kernel
theorem dL_law_249 : decode cL_law 249 = .ok (.iaload, 1) := by decide +kernel
theorem dL_law_250 : decode cL_law 250 = .ok (.aload_n 0, 1) := by decide +kernel
theorem dL_law_251 : decode cL_law 251 = .ok (.iload 4, 2) := by decide +kernel
theorem dL_law_253 : decode cL_law 253 = .ok (.iconst 4, 1) := by decide +kernel
theorem dL_law_254 : decode cL_law 254 = .ok (.iadd, 1) := by decide +kernel
theorem dL_law_255 : decode cL_law 255 = .ok (.iaload, 1) := by decide +kernel
theorem dL_law_256 : decode cL_law 256 = .ok (.aload_n 0, 1) := by decide +kernel
theorem dL_law_257 : decode cL_law 257 = .ok (.iload 4, 2) := by decide +kernel
theorem dL_law_259 : decode cL_law 259 = .ok (.iconst 5, 1) := by decide +kernel
theorem dL_law_260 : decode cL_law 260 = .ok (.iadd, 1) := by decide +kernel
theorem dL_law_261 : decode cL_law 261 = .ok (.iaload, 1) := by decide +kernel
theorem dL_law_262 : decode cL_law 262 = .ok (.invokevirtual 27, 3) := by decide +kernel
theorem dL_law_265 : decode cL_law 265 = .ok (.pop, 1) := by decide +kernel
theorem dL_law_266 : decode cL_law 266 = .ok (.goto 1199, 3) := by decide +kernel
theorem dL_law_269 : decode cL_law 269 = .ok (.aload_n 1, 1) := by decide +kernel
theorem dL_law_270 : decode cL_law 270 = .ok (.aload_n 0, 1) := by decide +kernel
theorem dL_law_271 : decode cL_law 271 = .ok (.iload 4, 2) := by decide +kernel
theorem dL_law_273 : decode cL_law 273 = .ok (.iconst 1, 1) := by decide +kernel
theorem dL_law_274 : decode cL_law 274 = .ok (.iadd, 1) := by decide +kernel
theorem dL_law_275 : decode cL_law 275 = .ok (.iaload, 1) := by decide +kernel
theorem dL_law_276 : decode cL_law 276 = .ok (.invokevirtual 28, 3) := by decide +kernel
theorem dL_law_279 : decode cL_law 279 = .ok (.pop, 1) := by decide +kernel
theorem dL_law_280 : decode cL_law 280 = .ok (.aload_n 2, 1) := by decide +kernel
theorem dL_law_281 : decode cL_law 281 = .ok (.aload_n 0, 1) := by decide +kernel
theorem dL_law_282 : decode cL_law 282 = .ok (.iload 4, 2) := by decide +kernel
theorem dL_law_284 : decode cL_law 284 = .ok (.iconst 1, 1) := by decide +kernel
theorem dL_law_285 : decode cL_law 285 = .ok (.iadd, 1) := by decide +kernel
theorem dL_law_286 : decode cL_law 286 = .ok (.iaload, 1) := by decide +kernel
theorem dL_law_287 : decode cL_law 287 = .ok (.invokevirtual 32, 3) := by decide +kernel
theorem dL_law_290 : decode cL_law 290 = .ok (.pop, 1) := by decide +kernel
theorem dL_law_291 : decode cL_law 291 = .ok (.goto 1174, 3) := by decide +kernel
theorem dL_law_294 : decode cL_law 294 = .ok (.aload_n 1, 1) := by decide +kernel
theorem dL_law_295 : decode cL_law 295 = .ok (.aload_n 0, 1) := by decide +kernel
theorem dL_law_296 : decode cL_law 296 = .ok (.iload 4, 2) := by decide +kernel
theorem dL_law_298 : decode cL_law 298 = .ok (.iconst 1, 1) := by decide +kernel
theorem dL_law_299 : decode cL_law 299 = .ok (.iadd, 1) := by decide +kernel
theorem dL_law_300 : decode cL_law 300 = .ok (.iaload, 1) := by decide +kernel
theorem dL_law_301 : decode cL_law 301 = .ok (.aload_n 0, 1) := by decide +kernel
theorem dL_law_302 : decode cL_law 302 = .ok (.iload 4, 2) := by decide +kernel
theorem dL_law_304 : decode cL_law 304 = .ok (.iconst 2, 1) := by decide +kernel
theorem dL_law_305 : decode cL_law 305 = .ok (.iadd, 1) := by decide +kernel
theorem dL_law_306 : decode cL_law 306 = .ok (.iaload, 1) := by decide +kernel
theorem dL_law_307 : decode cL_law 307 = .ok (.ifCond .eq 7, 3) := by decide +kernel
theorem dL_law_310 : decode cL_law 310 = .ok (.iconst 1, 1) := by decide +kernel
theorem dL_law_311 : decode cL_law 311 = .ok (.goto 4, 3) := by decide +kernel
theorem dL_law_314 : decode cL_law 314 = .ok (.iconst 0, 1) := by decide +kernel
theorem dL_law_315 : decode cL_law 315 = .ok (.aload_n 0, 1) := by decide +kernel
theorem dL_law_316 : decode cL_law 316 = .ok (.iload 4, 2) := by decide +kernel
theorem dL_law_318 : decode cL_law 318 = .ok (.iconst 3, 1) := by decide +kernel
theorem dL_law_319 : decode cL_law 319 = .ok (.iadd, 1) := by decide +kernel
theorem dL_law_320 : decode cL_law 320 = .ok (.iaload, 1) := by decide +kernel
theorem dL_law_321 : decode cL_law 321 = .ok (.aload_n 0, 1) := by decide +kernel
theorem dL_law_322 : decode cL_law 322 = .ok (.iload 4, 2) := by decide +kernel
theorem dL_law_324 : decode cL_law 324 = .ok (.iconst 4, 1) := by decide +kernel
theorem dL_law_325 : decode cL_law 325 = .ok (.iadd, 1) := by decide +kernel
theorem dL_law_326 : decode cL_law 326 = .ok (.iaload, 1) := by decide +kernel
theorem dL_law_327 : decode cL_law 327 = .ok (.invokevirtual 33, 3) := by decide +kernel
theorem dL_law_330 : decode cL_law 330 = .ok (.pop, 1) := by decide +kernel
theorem dL_law_331 : decode cL_law 331 = .ok (.aload_n 2, 1) := by decide +kernel
theorem dL_law_332 : decode cL_law 332 = .ok (.aload_n 0, 1) := by decide +kernel
theorem dL_law_333 : decode cL_law 333 = .ok (.iload 4, 2) := by decide +kernel
theorem dL_law_335 : decode cL_law 335 = .ok (.iconst 1, 1) := by decide +kernel
theorem dL_law_336 : decode cL_law 336 = .ok (.iadd, 1) := by decide +kernel
theorem dL_law_337 : decode cL_law 337 = .ok (.iaload, 1) := by decide +kernel
theorem dL_law_338 : decode cL_law 338 = .ok (.aload_n 0, 1) := by decide +kernel
theorem dL_law_339 : decode cL_law 339 = .ok (.iload 4, 2) := by decide +kernel
theorem dL_law_341 : decode cL_law 341 = .ok (.iconst 2, 1) := by decide +kernel
theorem dL_law_342 : decode cL_law 342 = .ok (.iadd, 1) := by decide +kernel
theorem dL_law_343 : decode cL_law 343 = .ok (.iaload, 1) := by decide +kernel
theorem dL_law_344 : decode cL_law 344 = .ok (.ifCond .eq 7, 3) := by decide +kernel
theorem dL_law_347 : decode cL_law 347 = .ok (.iconst 1, 1) := by decide +kernel
theorem dL_law_348 : decode cL_law 348 = .ok (.goto 4, 3) := by decide +kernel
theorem dL_law_351 : decode cL_law 351 = .ok (.iconst 0, 1) := by decide +kernel
theorem dL_law_352 : decode cL_law 352 = .ok (.aload_n 0, 1) := by decide +kernel
theorem dL_law_353 : decode cL_law 353 = .ok (.iload 4, 2) := by decide +kernel
theorem dL_law_355 : decode cL_law 355 = .ok (.iconst 3, 1) := by decide +kernel
theorem dL_law_356 : decode cL_law 356 = .ok (.iadd, 1) := by decide +kernel
theorem dL_law_357 : decode cL_law 357 = .ok (.iaload, 1) := by decide +kernel
theorem dL_law_358 : decode cL_law 358 = .ok (.aload_n 0, 1) := by decide +kernel
theorem dL_law_359 : decode cL_law 359 = .ok (.iload 4, 2) := by decide +kernel
theorem dL_law_361 : decode cL_law 361 = .ok (.iconst 4, 1) := by decide +kernel
theorem dL_law_362 : decode cL_law 362 = .ok (.iadd, 1) := by decide +kernel
theorem dL_law_363 : decode cL_law 363 = .ok (.iaload, 1) := by decide +kernel
theorem dL_law_364 : decode cL_law 364 = .ok (.invokevirtual 37, 3) := by decide +kernel
theorem dL_law_367 : decode cL_law 367 = .ok (.pop, 1) := by decide +kernel
theorem dL_law_368 : decode cL_law 368 = .ok (.goto 1097, 3) := by decide +kernel
theorem dL_law_371 : decode cL_law 371 = .ok (.aload_n 1, 1) := by decide +kernel
theorem dL_law_372 : decode cL_law 372 = .ok (.aload_n 0, 1) := by decide +kernel
theorem dL_law_373 : decode cL_law 373 = .ok (.iload 4, 2) := by decide +kernel
theorem dL_law_375 : decode cL_law 375 = .ok (.iconst 1, 1) := by decide +kernel
theorem dL_law_376 : decode cL_law 376 = .ok (.iadd, 1) := by decide +kernel
theorem dL_law_377 : decode cL_law 377 = .ok (.iaload, 1) := by decide +kernel
theorem dL_law_378 : decode cL_law 378 = .ok (.aload_n 0, 1) := by decide +kernel
theorem dL_law_379 : decode cL_law 379 = .ok (.iload 4, 2) := by decide +kernel
theorem dL_law_381 : decode cL_law 381 = .ok (.iconst 2, 1) := by decide +kernel
theorem dL_law_382 : decode cL_law 382 = .ok (.iadd, 1) := by decide +kernel
theorem dL_law_383 : decode cL_law 383 = .ok (.iaload, 1) := by decide +kernel
theorem dL_law_384 : decode cL_law 384 = .ok (.invokevirtual 38, 3) := by decide +kernel
theorem dL_law_387 : decode cL_law 387 = .ok (.pop, 1) := by decide +kernel
theorem dL_law_388 : decode cL_law 388 = .ok (.aload_n 2, 1) := by decide +kernel
theorem dL_law_389 : decode cL_law 389 = .ok (.aload_n 0, 1) := by decide +kernel
theorem dL_law_390 : decode cL_law 390 = .ok (.iload 4, 2) := by decide +kernel
theorem dL_law_392 : decode cL_law 392 = .ok (.iconst 1, 1) := by decide +kernel
theorem dL_law_393 : decode cL_law 393 = .ok (.iadd, 1) := by decide +kernel
theorem dL_law_394 : decode cL_law 394 = .ok (.iaload, 1) := by decide +kernel
theorem dL_law_395 : decode cL_law 395 = .ok (.aload_n 0, 1) := by decide +kernel
theorem dL_law_396 : decode cL_law 396 = .ok (.iload 4, 2) := by decide +kernel
theorem dL_law_398 : decode cL_law 398 = .ok (.iconst 2, 1) := by decide +kernel
theorem dL_law_399 : decode cL_law 399 = .ok (.iadd, 1) := by decide +kernel
theorem dL_law_400 : decode cL_law 400 = .ok (.iaload, 1) := by decide +kernel
theorem dL_law_401 : decode cL_law 401 = .ok (.invokevirtual 42, 3) := by decide +kernel
theorem dL_law_404 : decode cL_law 404 = .ok (.pop, 1) := by decide +kernel
theorem dL_law_405 : decode cL_law 405 = .ok (.goto 1060, 3) := by decide +kernel
theorem dL_law_408 : decode cL_law 408 = .ok (.aload_n 1, 1) := by decide +kernel
theorem dL_law_409 : decode cL_law 409 = .ok (.aload_n 0, 1) := by decide +kernel
theorem dL_law_410 : decode cL_law 410 = .ok (.iload 4, 2) := by decide +kernel
theorem dL_law_412 : decode cL_law 412 = .ok (.iconst 1, 1) := by decide +kernel
theorem dL_law_413 : decode cL_law 413 = .ok (.iadd, 1) := by decide +kernel
theorem dL_law_414 : decode cL_law 414 = .ok (.iaload, 1) := by decide +kernel
theorem dL_law_415 : decode cL_law 415 = .ok (.aload_n 0, 1) := by decide +kernel
theorem dL_law_416 : decode cL_law 416 = .ok (.iload 4, 2) := by decide +kernel
theorem dL_law_418 : decode cL_law 418 = .ok (.iconst 2, 1) := by decide +kernel
theorem dL_law_419 : decode cL_law 419 = .ok (.iadd, 1) := by decide +kernel
theorem dL_law_420 : decode cL_law 420 = .ok (.iaload, 1) := by decide +kernel
theorem dL_law_421 : decode cL_law 421 = .ok (.invokevirtual 43, 3) := by decide +kernel
theorem dL_law_424 : decode cL_law 424 = .ok (.pop, 1) := by decide +kernel
theorem dL_law_425 : decode cL_law 425 = .ok (.aload_n 2, 1) := by decide +kernel
theorem dL_law_426 : decode cL_law 426 = .ok (.aload_n 0, 1) := by decide +kernel
theorem dL_law_427 : decode cL_law 427 = .ok (.iload 4, 2) := by decide +kernel
theorem dL_law_429 : decode cL_law 429 = .ok (.iconst 1, 1) := by decide +kernel
theorem dL_law_430 : decode cL_law 430 = .ok (.iadd, 1) := by decide +kernel
theorem dL_law_431 : decode cL_law 431 = .ok (.iaload, 1) := by decide +kernel
theorem dL_law_432 : decode cL_law 432 = .ok (.aload_n 0, 1) := by decide +kernel
theorem dL_law_433 : decode cL_law 433 = .ok (.iload 4, 2) := by decide +kernel
theorem dL_law_435 : decode cL_law 435 = .ok (.iconst 2, 1) := by decide +kernel
theorem dL_law_436 : decode cL_law 436 = .ok (.iadd, 1) := by decide +kernel
theorem dL_law_437 : decode cL_law 437 = .ok (.iaload, 1) := by decide +kernel
theorem dL_law_438 : decode cL_law 438 = .ok (.invokevirtual 46, 3) := by decide +kernel
theorem dL_law_441 : decode cL_law 441 = .ok (.pop, 1) := by decide +kernel
theorem dL_law_442 : decode cL_law 442 = .ok (.goto 1023, 3) := by decide +kernel
theorem dL_law_445 : decode cL_law 445 = .ok (.aload_n 1, 1) := by decide +kernel
theorem dL_law_446 : decode cL_law 446 = .ok (.invokevirtual 47, 3) := by decide +kernel
theorem dL_law_449 : decode cL_law 449 = .ok (.pop, 1) := by decide +kernel
theorem dL_law_450 : decode cL_law 450 = .ok (.aload_n 2, 1) := by decide +kernel
theorem dL_law_451 : decode cL_law 451 = .ok (.invokevirtual 51, 3) := by decide +kernel
theorem dL_law_454 : decode cL_law 454 = .ok (.pop, 1) := by decide +kernel
theorem dL_law_455 : decode cL_law 455 = .ok (.goto 1010, 3) := by decide +kernel
theorem dL_law_458 : decode cL_law 458 = .ok (.aload_n 1, 1) := by decide +kernel
theorem dL_law_459 : decode cL_law 459 = .ok (.aload_n 0, 1) := by decide +kernel
theorem dL_law_460 : decode cL_law 460 = .ok (.iload 4, 2) := by decide +kernel
theorem dL_law_462 : decode cL_law 462 = .ok (.iconst 1, 1) := by decide +kernel
theorem dL_law_463 : decode cL_law 463 = .ok (.iadd, 1) := by decide +kernel
theorem dL_law_464 : decode cL_law 464 = .ok (.iaload, 1) := by decide +kernel
theorem dL_law_465 : decode cL_law 465 = .ok (.invokevirtual 52, 3) := by decide +kernel
theorem dL_law_468 : decode cL_law 468 = .ok (.pop, 1) := by decide +kernel
theorem dL_law_469 : decode cL_law 469 = .ok (.aload_n 2, 1) := by decide +kernel
theorem dL_law_470 : decode cL_law 470 = .ok (.aload_n 0, 1) := by decide +kernel
theorem dL_law_471 : decode cL_law 471 = .ok (.iload 4, 2) := by decide +kernel
theorem dL_law_473 : decode cL_law 473 = .ok (.iconst 1, 1) := by decide +kernel
theorem dL_law_474 : decode cL_law 474 = .ok (.iadd, 1) := by decide +kernel
theorem dL_law_475 : decode cL_law 475 = .ok (.iaload, 1) := by decide +kernel
theorem dL_law_476 : decode cL_law 476 = .ok (.invokevirtual 55, 3) := by decide +kernel
theorem dL_law_479 : decode cL_law 479 = .ok (.pop, 1) := by decide +kernel
theorem dL_law_480 : decode cL_law 480 = .ok (.goto 985, 3) := by decide +kernel
theorem dL_law_483 : decode cL_law 483 = .ok (.aload_n 1, 1) := by decide +kernel
theorem dL_law_484 : decode cL_law 484 = .ok (.aload_n 0, 1) := by decide +kernel
theorem dL_law_485 : decode cL_law 485 = .ok (.iload 4, 2) := by decide +kernel
theorem dL_law_487 : decode cL_law 487 = .ok (.iconst 1, 1) := by decide +kernel
theorem dL_law_488 : decode cL_law 488 = .ok (.iadd, 1) := by decide +kernel
theorem dL_law_489 : decode cL_law 489 = .ok (.iaload, 1) := by decide +kernel
theorem dL_law_490 : decode cL_law 490 = .ok (.aload_n 0, 1) := by decide +kernel
theorem dL_law_491 : decode cL_law 491 = .ok (.iload 4, 2) := by decide +kernel
theorem dL_law_493 : decode cL_law 493 = .ok (.iconst 2, 1) := by decide +kernel
theorem dL_law_494 : decode cL_law 494 = .ok (.iadd, 1) := by decide +kernel
theorem dL_law_495 : decode cL_law 495 = .ok (.iaload, 1) := by decide +kernel
theorem dL_law_496 : decode cL_law 496 = .ok (.aload_n 0, 1) := by decide +kernel
theorem dL_law_497 : decode cL_law 497 = .ok (.iload 4, 2) := by decide +kernel
theorem dL_law_499 : decode cL_law 499 = .ok (.iconst 3, 1) := by decide +kernel
theorem dL_law_500 : decode cL_law 500 = .ok (.iadd, 1) := by decide +kernel
theorem dL_law_501 : decode cL_law 501 = .ok (.iaload, 1) := by decide +kernel
theorem dL_law_502 : decode cL_law 502 = .ok (.invokevirtual 56, 3) := by decide +kernel
theorem dL_law_505 : decode cL_law 505 = .ok (.pop, 1) := by decide +kernel
theorem dL_law_506 : decode cL_law 506 = .ok (.aload_n 2, 1) := by decide +kernel
theorem dL_law_507 : decode cL_law 507 = .ok (.aload_n 0, 1) := by decide +kernel
theorem dL_law_508 : decode cL_law 508 = .ok (.iload 4, 2) := by decide +kernel
theorem dL_law_510 : decode cL_law 510 = .ok (.iconst 1, 1) := by decide +kernel
theorem dL_law_511 : decode cL_law 511 = .ok (.iadd, 1) := by decide +kernel
theorem dL_law_512 : decode cL_law 512 = .ok (.iaload, 1) := by decide +kernel
theorem dL_law_513 : decode cL_law 513 = .ok (.aload_n 0, 1) := by decide +kernel
theorem dL_law_514 : decode cL_law 514 = .ok (.iload 4, 2) := by decide +kernel
theorem dL_law_516 : decode cL_law 516 = .ok (.iconst 2, 1) := by decide +kernel
theorem dL_law_517 : decode cL_law 517 = .ok (.iadd, 1) := by decide +kernel
theorem dL_law_518 : decode cL_law 518 = .ok (.iaload, 1) := by decide +kernel
theorem dL_law_519 : decode cL_law 519 = .ok (.aload_n 0, 1) := by decide +kernel
theorem dL_law_520 : decode cL_law 520 = .ok (.iload 4, 2) := by decide +kernel
theorem dL_law_522 : decode cL_law 522 = .ok (.iconst 3, 1) := by decide +kernel
theorem dL_law_523 : decode cL_law 523 = .ok (.iadd, 1) := by decide +kernel
theorem dL_law_524 : decode cL_law 524 = .ok (.iaload, 1) := by decide +kernel
theorem dL_law_525 : decode cL_law 525 = .ok (.invokevirtual 60, 3) := by decide +kernel
theorem dL_law_528 : decode cL_law 528 = .ok (.pop, 1) := by decide +kernel
theorem dL_law_529 : decode cL_law 529 = .ok (.goto 936, 3) := by decide +kernel
theorem dL_law_532 : decode cL_law 532 = .ok (.aload_n 1, 1) := by decide +kernel
theorem dL_law_533 : decode cL_law 533 = .ok (.aload_n 0, 1) := by decide +kernel
theorem dL_law_534 : decode cL_law 534 = .ok (.iload 4, 2) := by decide +kernel
theorem dL_law_536 : decode cL_law 536 = .ok (.iconst 1, 1) := by decide +kernel
theorem dL_law_537 : decode cL_law 537 = .ok (.iadd, 1) := by decide +kernel
theorem dL_law_538 : decode cL_law 538 = .ok (.iaload, 1) := by decide +kernel
theorem dL_law_539 : decode cL_law 539 = .ok (.aload_n 0, 1) := by decide +kernel
theorem dL_law_540 : decode cL_law 540 = .ok (.iload 4, 2) := by decide +kernel
theorem dL_law_542 : decode cL_law 542 = .ok (.iconst 2, 1) := by decide +kernel
theorem dL_law_543 : decode cL_law 543 = .ok (.iadd, 1) := by decide +kernel
theorem dL_law_544 : decode cL_law 544 = .ok (.iaload, 1) := by decide +kernel
theorem dL_law_545 : decode cL_law 545 = .ok (.aload_n 0, 1) := by decide +kernel
theorem dL_law_546 : decode cL_law 546 = .ok (.iload 4, 2) := by decide +kernel
theorem dL_law_548 : decode cL_law 548 = .ok (.iconst 3, 1) := by decide +kernel
theorem dL_law_549 : decode cL_law 549 = .ok (.iadd, 1) := by decide +kernel
theorem dL_law_550 : decode cL_law 550 = .ok (.iaload, 1) := by decide +kernel
theorem dL_law_551 : decode cL_law 551 = .ok (.invokevirtual 61, 3) := by decide +kernel
theorem dL_law_554 : decode cL_law 554 = .ok (.pop, 1) := by decide +kernel
theorem dL_law_555 : decode cL_law 555 = .ok (.aload_n 2, 1) := by decide +kernel
theorem dL_law_556 : decode cL_law 556 = .ok (.aload_n 0, 1) := by decide +kernel
theorem dL_law_557 : decode cL_law 557 = .ok (.iload 4, 2) := by decide +kernel
theorem dL_law_559 : decode cL_law 559 = .ok (.iconst 1, 1) := by decide +kernel
theorem dL_law_560 : decode cL_law 560 = .ok (.iadd, 1) := by decide +kernel
theorem dL_law_561 : decode cL_law 561 = .ok (.iaload, 1) := by decide +kernel
theorem dL_law_562 : decode cL_law 562 = .ok (.aload_n 0, 1) := by decide +kernel
theorem dL_law_563 : decode cL_law 563 = .ok (.iload 4, 2) := by decide +kernel
theorem dL_law_565 : decode cL_law 565 = .ok (.iconst 2, 1) := by decide +kernel
theorem dL_law_566 : decode cL_law 566 = .ok (.iadd, 1) := by decide +kernel
theorem dL_law_567 : decode cL_law 567 = .ok (.iaload, 1) := by decide +kernel
theorem dL_law_568 : decode cL_law 568 = .ok (.aload_n 0, 1) := by decide +kernel
theorem dL_law_569 : decode cL_law 569 = .ok (.iload 4, 2) := by decide +kernel
theorem dL_law_571 : decode cL_law 571 = .ok (.iconst 3, 1) := by decide +kernel
theorem dL_law_572 : decode cL_law 572 = .ok (.iadd, 1) := by decide +kernel
theorem dL_law_573 : decode cL_law 573 = .ok (.iaload, 1) := by decide +kernel
theorem dL_law_574 : decode cL_law 574 = .ok (.invokevirtual 64, 3) := by decide +kernel
theorem dL_law_577 : decode cL_law 577 = .ok (.pop, 1) := by decide +kernel
theorem dL_law_578 : decode cL_law 578 = .ok (.goto 887, 3) := by decide +kernel
theorem dL_law_581 : decode cL_law 581 = .ok (.aload_n 1, 1) := by decide +kernel
theorem dL_law_582 : decode cL_law 582 = .ok (.aload_n 0, 1) := by decide +kernel
theorem dL_law_583 : decode cL_law 583 = .ok (.iload 4, 2) := by decide +kernel
theorem dL_law_585 : decode cL_law 585 = .ok (.iconst 1, 1) := by decide +kernel
theorem dL_law_586 : decode cL_law 586 = .ok (.iadd, 1) := by decide +kernel
theorem dL_law_587 : decode cL_law 587 = .ok (.iaload, 1) := by decide +kernel
theorem dL_law_588 : decode cL_law 588 = .ok (.aload_n 0, 1) := by decide +kernel
theorem dL_law_589 : decode cL_law 589 = .ok (.iload 4, 2) := by decide +kernel
theorem dL_law_591 : decode cL_law 591 = .ok (.iconst 2, 1) := by decide +kernel
theorem dL_law_592 : decode cL_law 592 = .ok (.iadd, 1) := by decide +kernel
theorem dL_law_593 : decode cL_law 593 = .ok (.iaload, 1) := by decide +kernel
theorem dL_law_594 : decode cL_law 594 = .ok (.aload_n 0, 1) := by decide +kernel
theorem dL_law_595 : decode cL_law 595 = .ok (.iload 4, 2) := by decide +kernel
theorem dL_law_597 : decode cL_law 597 = .ok (.iconst 3, 1) := by decide +kernel
theorem dL_law_598 : decode cL_law 598 = .ok (.iadd, 1) := by decide +kernel
theorem dL_law_599 : decode cL_law 599 = .ok (.iaload, 1) := by decide +kernel
theorem dL_law_600 : decode cL_law 600 = .ok (.invokevirtual 65, 3) := by decide +kernel
theorem dL_law_603 : decode cL_law 603 = .ok (.pop, 1) := by decide +kernel
theorem dL_law_604 : decode cL_law 604 = .ok (.aload_n 2, 1) := by decide +kernel
theorem dL_law_605 : decode cL_law 605 = .ok (.aload_n 0, 1) := by decide +kernel
theorem dL_law_606 : decode cL_law 606 = .ok (.iload 4, 2) := by decide +kernel
theorem dL_law_608 : decode cL_law 608 = .ok (.iconst 1, 1) := by decide +kernel
theorem dL_law_609 : decode cL_law 609 = .ok (.iadd, 1) := by decide +kernel
theorem dL_law_610 : decode cL_law 610 = .ok (.iaload, 1) := by decide +kernel
theorem dL_law_611 : decode cL_law 611 = .ok (.aload_n 0, 1) := by decide +kernel
theorem dL_law_612 : decode cL_law 612 = .ok (.iload 4, 2) := by decide +kernel
theorem dL_law_614 : decode cL_law 614 = .ok (.iconst 2, 1) := by decide +kernel
theorem dL_law_615 : decode cL_law 615 = .ok (.iadd, 1) := by decide +kernel
theorem dL_law_616 : decode cL_law 616 = .ok (.iaload, 1) := by decide +kernel
theorem dL_law_617 : decode cL_law 617 = .ok (.aload_n 0, 1) := by decide +kernel
theorem dL_law_618 : decode cL_law 618 = .ok (.iload 4, 2) := by decide +kernel
theorem dL_law_620 : decode cL_law 620 = .ok (.iconst 3, 1) := by decide +kernel
theorem dL_law_621 : decode cL_law 621 = .ok (.iadd, 1) := by decide +kernel
theorem dL_law_622 : decode cL_law 622 = .ok (.iaload, 1) := by decide +kernel
theorem dL_law_623 : decode cL_law 623 = .ok (.invokevirtual 68, 3) := by decide +kernel
theorem dL_law_626 : decode cL_law 626 = .ok (.pop, 1) := by decide +kernel
theorem dL_law_627 : decode cL_law 627 = .ok (.goto 838, 3) := by decide +kernel
theorem dL_law_630 : decode cL_law 630 = .ok (.aload_n 1, 1) := by decide +kernel
theorem dL_law_631 : decode cL_law 631 = .ok (.aload_n 0, 1) := by decide +kernel
theorem dL_law_632 : decode cL_law 632 = .ok (.iload 4, 2) := by decide +kernel
theorem dL_law_634 : decode cL_law 634 = .ok (.iconst 1, 1) := by decide +kernel
theorem dL_law_635 : decode cL_law 635 = .ok (.iadd, 1) := by decide +kernel
theorem dL_law_636 : decode cL_law 636 = .ok (.iaload, 1) := by decide +kernel
theorem dL_law_637 : decode cL_law 637 = .ok (.aload_n 0, 1) := by decide +kernel
theorem dL_law_638 : decode cL_law 638 = .ok (.iload 4, 2) := by decide +kernel
theorem dL_law_640 : decode cL_law 640 = .ok (.iconst 2, 1) := by decide +kernel
theorem dL_law_641 : decode cL_law 641 = .ok (.iadd, 1) := by decide +kernel
theorem dL_law_642 : decode cL_law 642 = .ok (.iaload, 1) := by decide +kernel
theorem dL_law_643 : decode cL_law 643 = .ok (.aload_n 0, 1) := by decide +kernel
theorem dL_law_644 : decode cL_law 644 = .ok (.iload 4, 2) := by decide +kernel
theorem dL_law_646 : decode cL_law 646 = .ok (.iconst 3, 1) := by decide +kernel
theorem dL_law_647 : decode cL_law 647 = .ok (.iadd, 1) := by decide +kernel
theorem dL_law_648 : decode cL_law 648 = .ok (.iaload, 1) := by decide +kernel
theorem dL_law_649 : decode cL_law 649 = .ok (.aload_n 0, 1) := by decide +kernel
theorem dL_law_650 : decode cL_law 650 = .ok (.iload 4, 2) := by decide +kernel
theorem dL_law_652 : decode cL_law 652 = .ok (.iconst 4, 1) := by decide +kernel
theorem dL_law_653 : decode cL_law 653 = .ok (.iadd, 1) := by decide +kernel
theorem dL_law_654 : decode cL_law 654 = .ok (.iaload, 1) := by decide +kernel
theorem dL_law_655 : decode cL_law 655 = .ok (.invokevirtual 69, 3) := by decide +kernel
theorem dL_law_658 : decode cL_law 658 = .ok (.pop, 1) := by decide +kernel
theorem dL_law_659 : decode cL_law 659 = .ok (.aload_n 2, 1) := by decide +kernel
theorem dL_law_660 : decode cL_law 660 = .ok (.aload_n 0, 1) := by decide +kernel
theorem dL_law_661 : decode cL_law 661 = .ok (.iload 4, 2) := by decide +kernel
theorem dL_law_663 : decode cL_law 663 = .ok (.iconst 1, 1) := by decide +kernel
theorem dL_law_664 : decode cL_law 664 = .ok (.iadd, 1) := by decide +kernel
theorem dL_law_665 : decode cL_law 665 = .ok (.iaload, 1) := by decide +kernel
theorem dL_law_666 : decode cL_law 666 = .ok (.aload_n 0, 1) := by decide +kernel
theorem dL_law_667 : decode cL_law 667 = .ok (.iload 4, 2) := by decide +kernel
theorem dL_law_669 : decode cL_law 669 = .ok (.iconst 2, 1) := by decide +kernel
theorem dL_law_670 : decode cL_law 670 = .ok (.iadd, 1) := by decide +kernel
theorem dL_law_671 : decode cL_law 671 = .ok (.iaload, 1) := by decide +kernel
theorem dL_law_672 : decode cL_law 672 = .ok (.aload_n 0, 1) := by decide +kernel
theorem dL_law_673 : decode cL_law 673 = .ok (.iload 4, 2) := by decide +kernel
theorem dL_law_675 : decode cL_law 675 = .ok (.iconst 3, 1) := by decide +kernel
theorem dL_law_676 : decode cL_law 676 = .ok (.iadd, 1) := by decide +kernel
theorem dL_law_677 : decode cL_law 677 = .ok (.iaload, 1) := by decide +kernel
theorem dL_law_678 : decode cL_law 678 = .ok (.aload_n 0, 1) := by decide +kernel
theorem dL_law_679 : decode cL_law 679 = .ok (.iload 4, 2) := by decide +kernel
theorem dL_law_681 : decode cL_law 681 = .ok (.iconst 4, 1) := by decide +kernel
theorem dL_law_682 : decode cL_law 682 = .ok (.iadd, 1) := by decide +kernel
theorem dL_law_683 : decode cL_law 683 = .ok (.iaload, 1) := by decide +kernel
theorem dL_law_684 : decode cL_law 684 = .ok (.invokevirtual 73, 3) := by decide +kernel
theorem dL_law_687 : decode cL_law 687 = .ok (.pop, 1) := by decide +kernel
theorem dL_law_688 : decode cL_law 688 = .ok (.goto 777, 3) := by decide +kernel
theorem dL_law_691 : decode cL_law 691 = .ok (.aload_n 1, 1) := by decide +kernel
theorem dL_law_692 : decode cL_law 692 = .ok (.aload_n 0, 1) := by decide +kernel
theorem dL_law_693 : decode cL_law 693 = .ok (.iload 4, 2) := by decide +kernel
theorem dL_law_695 : decode cL_law 695 = .ok (.iconst 1, 1) := by decide +kernel
theorem dL_law_696 : decode cL_law 696 = .ok (.iadd, 1) := by decide +kernel
theorem dL_law_697 : decode cL_law 697 = .ok (.iaload, 1) := by decide +kernel
theorem dL_law_698 : decode cL_law 698 = .ok (.aload_n 0, 1) := by decide +kernel
theorem dL_law_699 : decode cL_law 699 = .ok (.iload 4, 2) := by decide +kernel
theorem dL_law_701 : decode cL_law 701 = .ok (.iconst 2, 1) := by decide +kernel
theorem dL_law_702 : decode cL_law 702 = .ok (.iadd, 1) := by decide +kernel
theorem dL_law_703 : decode cL_law 703 = .ok (.iaload, 1) := by decide +kernel
theorem dL_law_704 : decode cL_law 704 = .ok (.aload_n 0, 1) := by decide +kernel
theorem dL_law_705 : decode cL_law 705 = .ok (.iload 4, 2) := by decide +kernel
theorem dL_law_707 : decode cL_law 707 = .ok (.iconst 3, 1) := by decide +kernel
theorem dL_law_708 : decode cL_law 708 = .ok (.iadd, 1) := by decide +kernel
theorem dL_law_709 : decode cL_law 709 = .ok (.iaload, 1) := by decide +kernel
theorem dL_law_710 : decode cL_law 710 = .ok (.invokevirtual 74, 3) := by decide +kernel
theorem dL_law_713 : decode cL_law 713 = .ok (.pop, 1) := by decide +kernel
theorem dL_law_714 : decode cL_law 714 = .ok (.aload_n 2, 1) := by decide +kernel
theorem dL_law_715 : decode cL_law 715 = .ok (.aload_n 0, 1) := by decide +kernel
theorem dL_law_716 : decode cL_law 716 = .ok (.iload 4, 2) := by decide +kernel
theorem dL_law_718 : decode cL_law 718 = .ok (.iconst 1, 1) := by decide +kernel
theorem dL_law_719 : decode cL_law 719 = .ok (.iadd, 1) := by decide +kernel
theorem dL_law_720 : decode cL_law 720 = .ok (.iaload, 1) := by decide +kernel
theorem dL_law_721 : decode cL_law 721 = .ok (.aload_n 0, 1) := by decide +kernel
theorem dL_law_722 : decode cL_law 722 = .ok (.iload 4, 2) := by decide +kernel
theorem dL_law_724 : decode cL_law 724 = .ok (.iconst 2, 1) := by decide +kernel
theorem dL_law_725 : decode cL_law 725 = .ok (.iadd, 1) := by decide +kernel
theorem dL_law_726 : decode cL_law 726 = .ok (.iaload, 1) := by decide +kernel
theorem dL_law_727 : decode cL_law 727 = .ok (.aload_n 0, 1) := by decide +kernel
theorem dL_law_728 : decode cL_law 728 = .ok (.iload 4, 2) := by decide +kernel
theorem dL_law_730 : decode cL_law 730 = .ok (.iconst 3, 1) := by decide +kernel
theorem dL_law_731 : decode cL_law 731 = .ok (.iadd, 1) := by decide +kernel
theorem dL_law_732 : decode cL_law 732 = .ok (.iaload, 1) := by decide +kernel
theorem dL_law_733 : decode cL_law 733 = .ok (.invokevirtual 77, 3) := by decide +kernel
theorem dL_law_736 : decode cL_law 736 = .ok (.pop, 1) := by decide +kernel
theorem dL_law_737 : decode cL_law 737 = .ok (.goto 728, 3) := by decide +kernel
theorem dL_law_740 : decode cL_law 740 = .ok (.aload_n 1, 1) := by decide +kernel
theorem dL_law_741 : decode cL_law 741 = .ok (.aload_n 0, 1) := by decide +kernel
theorem dL_law_742 : decode cL_law 742 = .ok (.iload 4, 2) := by decide +kernel
theorem dL_law_744 : decode cL_law 744 = .ok (.iconst 1, 1) := by decide +kernel
theorem dL_law_745 : decode cL_law 745 = .ok (.iadd, 1) := by decide +kernel
theorem dL_law_746 : decode cL_law 746 = .ok (.iaload, 1) := by decide +kernel
theorem dL_law_747 : decode cL_law 747 = .ok (.invokevirtual 78, 3) := by decide +kernel
theorem dL_law_750 : decode cL_law 750 = .ok (.pop, 1) := by decide +kernel
theorem dL_law_751 : decode cL_law 751 = .ok (.aload_n 2, 1) := by decide +kernel
theorem dL_law_752 : decode cL_law 752 = .ok (.aload_n 0, 1) := by decide +kernel
theorem dL_law_753 : decode cL_law 753 = .ok (.iload 4, 2) := by decide +kernel
theorem dL_law_755 : decode cL_law 755 = .ok (.iconst 1, 1) := by decide +kernel
theorem dL_law_756 : decode cL_law 756 = .ok (.iadd, 1) := by decide +kernel
theorem dL_law_757 : decode cL_law 757 = .ok (.iaload, 1) := by decide +kernel
theorem dL_law_758 : decode cL_law 758 = .ok (.invokevirtual 81, 3) := by decide +kernel
theorem dL_law_761 : decode cL_law 761 = .ok (.pop, 1) := by decide +kernel
theorem dL_law_762 : decode cL_law 762 = .ok (.goto 703, 3) := by decide +kernel
theorem dL_law_765 : decode cL_law 765 = .ok (.aload_n 1, 1) := by decide +kernel
theorem dL_law_766 : decode cL_law 766 = .ok (.invokevirtual 82, 3) := by decide +kernel
theorem dL_law_769 : decode cL_law 769 = .ok (.pop, 1) := by decide +kernel
theorem dL_law_770 : decode cL_law 770 = .ok (.aload_n 2, 1) := by decide +kernel
theorem dL_law_771 : decode cL_law 771 = .ok (.invokevirtual 86, 3) := by decide +kernel
theorem dL_law_774 : decode cL_law 774 = .ok (.pop, 1) := by decide +kernel
theorem dL_law_775 : decode cL_law 775 = .ok (.goto 690, 3) := by decide +kernel
theorem dL_law_778 : decode cL_law 778 = .ok (.aload_n 1, 1) := by decide +kernel
theorem dL_law_779 : decode cL_law 779 = .ok (.aload_n 0, 1) := by decide +kernel
theorem dL_law_780 : decode cL_law 780 = .ok (.iload 4, 2) := by decide +kernel
theorem dL_law_782 : decode cL_law 782 = .ok (.iconst 1, 1) := by decide +kernel
theorem dL_law_783 : decode cL_law 783 = .ok (.iadd, 1) := by decide +kernel
theorem dL_law_784 : decode cL_law 784 = .ok (.iaload, 1) := by decide +kernel
theorem dL_law_785 : decode cL_law 785 = .ok (.aload_n 0, 1) := by decide +kernel
theorem dL_law_786 : decode cL_law 786 = .ok (.iload 4, 2) := by decide +kernel
theorem dL_law_788 : decode cL_law 788 = .ok (.iconst 2, 1) := by decide +kernel
theorem dL_law_789 : decode cL_law 789 = .ok (.iadd, 1) := by decide +kernel
theorem dL_law_790 : decode cL_law 790 = .ok (.iaload, 1) := by decide +kernel
theorem dL_law_791 : decode cL_law 791 = .ok (.aload_n 0, 1) := by decide +kernel
theorem dL_law_792 : decode cL_law 792 = .ok (.iload 4, 2) := by decide +kernel
theorem dL_law_794 : decode cL_law 794 = .ok (.iconst 3, 1) := by decide +kernel
theorem dL_law_795 : decode cL_law 795 = .ok (.iadd, 1) := by decide +kernel
theorem dL_law_796 : decode cL_law 796 = .ok (.iaload, 1) := by decide +kernel
theorem dL_law_797 : decode cL_law 797 = .ok (.aload_n 0, 1) := by decide +kernel
theorem dL_law_798 : decode cL_law 798 = .ok (.iload 4, 2) := by decide +kernel
theorem dL_law_800 : decode cL_law 800 = .ok (.iconst 4, 1) := by decide +kernel
theorem dL_law_801 : decode cL_law 801 = .ok (.iadd, 1) := by decide +kernel
theorem dL_law_802 : decode cL_law 802 = .ok (.iaload, 1) := by decide +kernel
theorem dL_law_803 : decode cL_law 803 = .ok (.aload_n 0, 1) := by decide +kernel
theorem dL_law_804 : decode cL_law 804 = .ok (.iload 4, 2) := by decide +kernel
theorem dL_law_806 : decode cL_law 806 = .ok (.iconst 5, 1) := by decide +kernel
theorem dL_law_807 : decode cL_law 807 = .ok (.iadd, 1) := by decide +kernel
theorem dL_law_808 : decode cL_law 808 = .ok (.iaload, 1) := by decide +kernel
theorem dL_law_809 : decode cL_law 809 = .ok (.invokevirtual 87, 3) := by decide +kernel
theorem dL_law_812 : decode cL_law 812 = .ok (.pop, 1) := by decide +kernel
theorem dL_law_813 : decode cL_law 813 = .ok (.aload_n 2, 1) := by decide +kernel
theorem dL_law_814 : decode cL_law 814 = .ok (.aload_n 0, 1) := by decide +kernel
theorem dL_law_815 : decode cL_law 815 = .ok (.iload 4, 2) := by decide +kernel
theorem dL_law_817 : decode cL_law 817 = .ok (.iconst 1, 1) := by decide +kernel
theorem dL_law_818 : decode cL_law 818 = .ok (.iadd, 1) := by decide +kernel
theorem dL_law_819 : decode cL_law 819 = .ok (.iaload, 1) := by decide +kernel
theorem dL_law_820 : decode cL_law 820 = .ok (.aload_n 0, 1) := by decide +kernel
theorem dL_law_821 : decode cL_law 821 = .ok (.iload 4, 2) := by decide +kernel
theorem dL_law_823 : decode cL_law 823 = .ok (.iconst 2, 1) := by decide +kernel
theorem dL_law_824 : decode cL_law 824 = .ok (.iadd, 1) := by decide +kernel
theorem dL_law_825 : decode cL_law 825 = .ok (.iaload, 1) := by decide +kernel
theorem dL_law_826 : decode cL_law 826 = .ok (.aload_n 0, 1) := by decide +kernel
theorem dL_law_827 : decode cL_law 827 = .ok (.iload 4, 2) := by decide +kernel
theorem dL_law_829 : decode cL_law 829 = .ok (.iconst 3, 1) := by decide +kernel
theorem dL_law_830 : decode cL_law 830 = .ok (.iadd, 1) := by decide +kernel
theorem dL_law_831 : decode cL_law 831 = .ok (.iaload, 1) := by decide +kernel
theorem dL_law_832 : decode cL_law 832 = .ok (.aload_n 0, 1) := by decide +kernel
theorem dL_law_833 : decode cL_law 833 = .ok (.iload 4, 2) := by decide +kernel
theorem dL_law_835 : decode cL_law 835 = .ok (.iconst 4, 1) := by decide +kernel
theorem dL_law_836 : decode cL_law 836 = .ok (.iadd, 1) := by decide +kernel
theorem dL_law_837 : decode cL_law 837 = .ok (.iaload, 1) := by decide +kernel
theorem dL_law_838 : decode cL_law 838 = .ok (.aload_n 0, 1) := by decide +kernel
theorem dL_law_839 : decode cL_law 839 = .ok (.iload 4, 2) := by decide +kernel
theorem dL_law_841 : decode cL_law 841 = .ok (.iconst 5, 1) := by decide +kernel
theorem dL_law_842 : decode cL_law 842 = .ok (.iadd, 1) := by decide +kernel
theorem dL_law_843 : decode cL_law 843 = .ok (.iaload, 1) := by decide +kernel
theorem dL_law_844 : decode cL_law 844 = .ok (.invokevirtual 90, 3) := by decide +kernel
theorem dL_law_847 : decode cL_law 847 = .ok (.pop, 1) := by decide +kernel
theorem dL_law_848 : decode cL_law 848 = .ok (.goto 617, 3) := by decide +kernel
theorem dL_law_851 : decode cL_law 851 = .ok (.aload_n 1, 1) := by decide +kernel
theorem dL_law_852 : decode cL_law 852 = .ok (.aload_n 0, 1) := by decide +kernel
theorem dL_law_853 : decode cL_law 853 = .ok (.iload 4, 2) := by decide +kernel
theorem dL_law_855 : decode cL_law 855 = .ok (.iconst 1, 1) := by decide +kernel
theorem dL_law_856 : decode cL_law 856 = .ok (.iadd, 1) := by decide +kernel
theorem dL_law_857 : decode cL_law 857 = .ok (.iaload, 1) := by decide +kernel
theorem dL_law_858 : decode cL_law 858 = .ok (.aload_n 0, 1) := by decide +kernel
theorem dL_law_859 : decode cL_law 859 = .ok (.iload 4, 2) := by decide +kernel
theorem dL_law_861 : decode cL_law 861 = .ok (.iconst 2, 1) := by decide +kernel
theorem dL_law_862 : decode cL_law 862 = .ok (.iadd, 1) := by decide +kernel
theorem dL_law_863 : decode cL_law 863 = .ok (.iaload, 1) := by decide +kernel
theorem dL_law_864 : decode cL_law 864 = .ok (.invokevirtual 91, 3) := by decide +kernel
theorem dL_law_867 : decode cL_law 867 = .ok (.pop, 1) := by decide +kernel
theorem dL_law_868 : decode cL_law 868 = .ok (.aload_n 2, 1) := by decide +kernel
theorem dL_law_869 : decode cL_law 869 = .ok (.aload_n 0, 1) := by decide +kernel
theorem dL_law_870 : decode cL_law 870 = .ok (.iload 4, 2) := by decide +kernel
theorem dL_law_872 : decode cL_law 872 = .ok (.iconst 1, 1) := by decide +kernel
theorem dL_law_873 : decode cL_law 873 = .ok (.iadd, 1) := by decide +kernel
theorem dL_law_874 : decode cL_law 874 = .ok (.iaload, 1) := by decide +kernel
theorem dL_law_875 : decode cL_law 875 = .ok (.aload_n 0, 1) := by decide +kernel
theorem dL_law_876 : decode cL_law 876 = .ok (.iload 4, 2) := by decide +kernel
theorem dL_law_878 : decode cL_law 878 = .ok (.iconst 2, 1) := by decide +kernel
theorem dL_law_879 : decode cL_law 879 = .ok (.iadd, 1) := by decide +kernel
theorem dL_law_880 : decode cL_law 880 = .ok (.iaload, 1) := by decide +kernel
theorem dL_law_881 : decode cL_law 881 = .ok (.invokevirtual 94, 3) := by decide +kernel
theorem dL_law_884 : decode cL_law 884 = .ok (.pop, 1) := by decide +kernel
theorem dL_law_885 : decode cL_law 885 = .ok (.goto 580, 3) := by decide +kernel
theorem dL_law_888 : decode cL_law 888 = .ok (.aload_n 1, 1) := by decide +kernel
theorem dL_law_889 : decode cL_law 889 = .ok (.invokevirtual 95, 3) := by decide +kernel
theorem dL_law_892 : decode cL_law 892 = .ok (.pop, 1) := by decide +kernel
theorem dL_law_893 : decode cL_law 893 = .ok (.aload_n 2, 1) := by decide +kernel
theorem dL_law_894 : decode cL_law 894 = .ok (.invokevirtual 98, 3) := by decide +kernel
theorem dL_law_897 : decode cL_law 897 = .ok (.pop, 1) := by decide +kernel
theorem dL_law_898 : decode cL_law 898 = .ok (.goto 567, 3) := by decide +kernel
theorem dL_law_901 : decode cL_law 901 = .ok (.aload_n 1, 1) := by decide +kernel
theorem dL_law_902 : decode cL_law 902 = .ok (.invokevirtual 99, 3) := by decide +kernel
theorem dL_law_905 : decode cL_law 905 = .ok (.pop, 1) := by decide +kernel
theorem dL_law_906 : decode cL_law 906 = .ok (.aload_n 2, 1) := by decide +kernel
theorem dL_law_907 : decode cL_law 907 = .ok (.invokevirtual 102, 3) := by decide +kernel
theorem dL_law_910 : decode cL_law 910 = .ok (.pop, 1) := by decide +kernel
theorem dL_law_911 : decode cL_law 911 = .ok (.goto 554, 3) := by decide +kernel
theorem dL_law_914 : decode cL_law 914 = .ok (.aload_n 1, 1) := by decide +kernel
theorem dL_law_915 : decode cL_law 915 = .ok (.aload_n 0, 1) := by decide +kernel
theorem dL_law_916 : decode cL_law 916 = .ok (.iload 4, 2) := by decide +kernel
theorem dL_law_918 : decode cL_law 918 = .ok (.iconst 1, 1) := by decide +kernel
theorem dL_law_919 : decode cL_law 919 = .ok (.iadd, 1) := by decide +kernel
theorem dL_law_920 : decode cL_law 920 = .ok (.iaload, 1) := by decide +kernel
theorem dL_law_921 : decode cL_law 921 = .ok (.aload_n 0, 1) := by decide +kernel
theorem dL_law_922 : decode cL_law 922 = .ok (.iload 4, 2) := by decide +kernel
theorem dL_law_924 : decode cL_law 924 = .ok (.iconst 2, 1) := by decide +kernel
theorem dL_law_925 : decode cL_law 925 = .ok (.iadd, 1) := by decide +kernel
theorem dL_law_926 : decode cL_law 926 = .ok (.iaload, 1) := by decide +kernel
theorem dL_law_927 : decode cL_law 927 = .ok (.aload_n 3, 1) := by decide +kernel
theorem dL_law_928 : decode cL_law 928 = .ok (.invokestatic 103, 3) := by decide +kernel
theorem dL_law_931 : decode cL_law 931 = .ok (.istore 5, 2) := by decide +kernel
theorem dL_law_933 : decode cL_law 933 = .ok (.aload_n 2, 1) := by decide +kernel
theorem dL_law_934 : decode cL_law 934 = .ok (.aload_n 0, 1) := by decide +kernel
theorem dL_law_935 : decode cL_law 935 = .ok (.iload 4, 2) := by decide +kernel
theorem dL_law_937 : decode cL_law 937 = .ok (.iconst 1, 1) := by decide +kernel
theorem dL_law_938 : decode cL_law 938 = .ok (.iadd, 1) := by decide +kernel
theorem dL_law_939 : decode cL_law 939 = .ok (.iaload, 1) := by decide +kernel
theorem dL_law_940 : decode cL_law 940 = .ok (.aload_n 0, 1) := by decide +kernel
theorem dL_law_941 : decode cL_law 941 = .ok (.iload 4, 2) := by decide +kernel
theorem dL_law_943 : decode cL_law 943 = .ok (.iconst 2, 1) := by decide +kernel
theorem dL_law_944 : decode cL_law 944 = .ok (.iadd, 1) := by decide +kernel
theorem dL_law_945 : decode cL_law 945 = .ok (.iaload, 1) := by decide +kernel
theorem dL_law_946 : decode cL_law 946 = .ok (.invokevirtual 108, 3) := by decide +kernel
theorem dL_law_949 : decode cL_law 949 = .ok (.istore 6, 2) := by decide +kernel
theorem dL_law_951 : decode cL_law 951 = .ok (.goto 514, 3) := by decide +kernel
theorem dL_law_954 : decode cL_law 954 = .ok (.aload_n 1, 1) := by decide +kernel
theorem dL_law_955 : decode cL_law 955 = .ok (.aload_n 0, 1) := by decide +kernel
theorem dL_law_956 : decode cL_law 956 = .ok (.iload 4, 2) := by decide +kernel
theorem dL_law_958 : decode cL_law 958 = .ok (.iconst 1, 1) := by decide +kernel
theorem dL_law_959 : decode cL_law 959 = .ok (.iadd, 1) := by decide +kernel
theorem dL_law_960 : decode cL_law 960 = .ok (.iaload, 1) := by decide +kernel
theorem dL_law_961 : decode cL_law 961 = .ok (.aload_n 3, 1) := by decide +kernel
theorem dL_law_962 : decode cL_law 962 = .ok (.invokestatic 109, 3) := by decide +kernel
theorem dL_law_965 : decode cL_law 965 = .ok (.istore 5, 2) := by decide +kernel
theorem dL_law_967 : decode cL_law 967 = .ok (.aload_n 2, 1) := by decide +kernel
theorem dL_law_968 : decode cL_law 968 = .ok (.aload_n 0, 1) := by decide +kernel
theorem dL_law_969 : decode cL_law 969 = .ok (.iload 4, 2) := by decide +kernel
theorem dL_law_971 : decode cL_law 971 = .ok (.iconst 1, 1) := by decide +kernel
theorem dL_law_972 : decode cL_law 972 = .ok (.iadd, 1) := by decide +kernel
theorem dL_law_973 : decode cL_law 973 = .ok (.iaload, 1) := by decide +kernel
theorem dL_law_974 : decode cL_law 974 = .ok (.invokevirtual 112, 3) := by decide +kernel
theorem dL_law_977 : decode cL_law 977 = .ok (.istore 6, 2) := by decide +kernel
theorem dL_law_979 : decode cL_law 979 = .ok (.goto 486, 3) := by decide +kernel
theorem dL_law_982 : decode cL_law 982 = .ok (.aload_n 1, 1) := by decide +kernel
theorem dL_law_983 : decode cL_law 983 = .ok (.aload_n 0, 1) := by decide +kernel
theorem dL_law_984 : decode cL_law 984 = .ok (.iload 4, 2) := by decide +kernel
theorem dL_law_986 : decode cL_law 986 = .ok (.iconst 1, 1) := by decide +kernel
theorem dL_law_987 : decode cL_law 987 = .ok (.iadd, 1) := by decide +kernel
theorem dL_law_988 : decode cL_law 988 = .ok (.iaload, 1) := by decide +kernel
theorem dL_law_989 : decode cL_law 989 = .ok (.aload_n 0, 1) := by decide +kernel
theorem dL_law_990 : decode cL_law 990 = .ok (.iload 4, 2) := by decide +kernel
theorem dL_law_992 : decode cL_law 992 = .ok (.iconst 2, 1) := by decide +kernel
theorem dL_law_993 : decode cL_law 993 = .ok (.iadd, 1) := by decide +kernel
theorem dL_law_994 : decode cL_law 994 = .ok (.iaload, 1) := by decide +kernel
theorem dL_law_995 : decode cL_law 995 = .ok (.aload_n 0, 1) := by decide +kernel
theorem dL_law_996 : decode cL_law 996 = .ok (.iload 4, 2) := by decide +kernel
theorem dL_law_998 : decode cL_law 998 = .ok (.iconst 3, 1) := by decide +kernel
theorem dL_law_999 : decode cL_law 999 = .ok (.iadd, 1) := by decide +kernel
theorem dL_law_1000 : decode cL_law 1000 = .ok (.iaload, 1) := by decide +kernel
theorem dL_law_1001 : decode cL_law 1001 = .ok (.aload_n 0, 1) := by decide +kernel
theorem dL_law_1002 : decode cL_law 1002 = .ok (.iload 4, 2) := by decide +kernel
theorem dL_law_1004 : decode cL_law 1004 = .ok (.iconst 4, 1) := by decide +kernel
theorem dL_law_1005 : decode cL_law 1005 = .ok (.iadd, 1) := by decide +kernel
theorem dL_law_1006 : decode cL_law 1006 = .ok (.iaload, 1) := by decide +kernel
theorem dL_law_1007 : decode cL_law 1007 = .ok (.invokevirtual 113, 3) := by decide +kernel
theorem dL_law_1010 : decode cL_law 1010 = .ok (.pop, 1) := by decide +kernel
theorem dL_law_1011 : decode cL_law 1011 = .ok (.aload_n 2, 1) := by decide +kernel
theorem dL_law_1012 : decode cL_law 1012 = .ok (.aload_n 0, 1) := by decide +kernel
theorem dL_law_1013 : decode cL_law 1013 = .ok (.iload 4, 2) := by decide +kernel
theorem dL_law_1015 : decode cL_law 1015 = .ok (.iconst 1, 1) := by decide +kernel
theorem dL_law_1016 : decode cL_law 1016 = .ok (.iadd, 1) := by decide +kernel
theorem dL_law_1017 : decode cL_law 1017 = .ok (.iaload, 1) := by decide +kernel
theorem dL_law_1018 : decode cL_law 1018 = .ok (.aload_n 0, 1) := by decide +kernel
theorem dL_law_1019 : decode cL_law 1019 = .ok (.iload 4, 2) := by decide +kernel
theorem dL_law_1021 : decode cL_law 1021 = .ok (.iconst 2, 1) := by decide +kernel
theorem dL_law_1022 : decode cL_law 1022 = .ok (.iadd, 1) := by decide +kernel
theorem dL_law_1023 : decode cL_law 1023 = .ok (.iaload, 1) := by decide +kernel
theorem dL_law_1024 : decode cL_law 1024 = .ok (.aload_n 0, 1) := by decide +kernel
theorem dL_law_1025 : decode cL_law 1025 = .ok (.iload 4, 2) := by decide +kernel
theorem dL_law_1027 : decode cL_law 1027 = .ok (.iconst 3, 1) := by decide +kernel
theorem dL_law_1028 : decode cL_law 1028 = .ok (.iadd, 1) := by decide +kernel
theorem dL_law_1029 : decode cL_law 1029 = .ok (.iaload, 1) := by decide +kernel
theorem dL_law_1030 : decode cL_law 1030 = .ok (.aload_n 0, 1) := by decide +kernel
theorem dL_law_1031 : decode cL_law 1031 = .ok (.iload 4, 2) := by decide +kernel
theorem dL_law_1033 : decode cL_law 1033 = .ok (.iconst 4, 1) := by decide +kernel
theorem dL_law_1034 : decode cL_law 1034 = .ok (.iadd, 1) := by decide +kernel
theorem dL_law_1035 : decode cL_law 1035 = .ok (.iaload, 1) := by decide +kernel
theorem dL_law_1036 : decode cL_law 1036 = .ok (.invokevirtual 116, 3) := by decide +kernel
theorem dL_law_1039 : decode cL_law 1039 = .ok (.pop, 1) := by decide +kernel
theorem dL_law_1040 : decode cL_law 1040 = .ok (.goto 425, 3) := by decide +kernel
theorem dL_law_1043 : decode cL_law 1043 = .ok (.aload_n 1, 1) := by decide +kernel
theorem dL_law_1044 : decode cL_law 1044 = .ok (.aload_n 0, 1) := by decide +kernel
theorem dL_law_1045 : decode cL_law 1045 = .ok (.iload 4, 2) := by decide +kernel
theorem dL_law_1047 : decode cL_law 1047 = .ok (.iconst 1, 1) := by decide +kernel
theorem dL_law_1048 : decode cL_law 1048 = .ok (.iadd, 1) := by decide +kernel
theorem dL_law_1049 : decode cL_law 1049 = .ok (.iaload, 1) := by decide +kernel
theorem dL_law_1050 : decode cL_law 1050 = .ok (.invokevirtual 117, 3) := by decide +kernel
theorem dL_law_1053 : decode cL_law 1053 = .ok (.pop, 1) := by decide +kernel
theorem dL_law_1054 : decode cL_law 1054 = .ok (.aload_n 2, 1) := by decide +kernel
theorem dL_law_1055 : decode cL_law 1055 = .ok (.aload_n 0, 1) := by decide +kernel
theorem dL_law_1056 : decode cL_law 1056 = .ok (.iload 4, 2) := by decide +kernel
theorem dL_law_1058 : decode cL_law 1058 = .ok (.iconst 1, 1) := by decide +kernel
theorem dL_law_1059 : decode cL_law 1059 = .ok (.iadd, 1) := by decide +kernel
theorem dL_law_1060 : decode cL_law 1060 = .ok (.iaload, 1) := by decide +kernel
theorem dL_law_1061 : decode cL_law 1061 = .ok (.invokevirtual 120, 3) := by decide +kernel
theorem dL_law_1064 : decode cL_law 1064 = .ok (.pop, 1) := by decide +kernel
theorem dL_law_1065 : decode cL_law 1065 = .ok (.goto 400, 3) := by decide +kernel
theorem dL_law_1068 : decode cL_law 1068 = .ok (.aload_n 1, 1) := by decide +kernel
theorem dL_law_1069 : decode cL_law 1069 = .ok (.aload_n 0, 1) := by decide +kernel
theorem dL_law_1070 : decode cL_law 1070 = .ok (.iload 4, 2) := by decide +kernel
theorem dL_law_1072 : decode cL_law 1072 = .ok (.iconst 1, 1) := by decide +kernel
theorem dL_law_1073 : decode cL_law 1073 = .ok (.iadd, 1) := by decide +kernel
theorem dL_law_1074 : decode cL_law 1074 = .ok (.iaload, 1) := by decide +kernel
theorem dL_law_1075 : decode cL_law 1075 = .ok (.invokevirtual 121, 3) := by decide +kernel
theorem dL_law_1078 : decode cL_law 1078 = .ok (.pop, 1) := by decide +kernel
theorem dL_law_1079 : decode cL_law 1079 = .ok (.aload_n 2, 1) := by decide +kernel
theorem dL_law_1080 : decode cL_law 1080 = .ok (.aload_n 0, 1) := by decide +kernel
theorem dL_law_1081 : decode cL_law 1081 = .ok (.iload 4, 2) := by decide +kernel
theorem dL_law_1083 : decode cL_law 1083 = .ok (.iconst 1, 1) := by decide +kernel
theorem dL_law_1084 : decode cL_law 1084 = .ok (.iadd, 1) := by decide +kernel
theorem dL_law_1085 : decode cL_law 1085 = .ok (.iaload, 1) := by decide +kernel
theorem dL_law_1086 : decode cL_law 1086 = .ok (.invokevirtual 124, 3) := by decide +kernel
theorem dL_law_1089 : decode cL_law 1089 = .ok (.pop, 1) := by decide +kernel
theorem dL_law_1090 : decode cL_law 1090 = .ok (.goto 375, 3) := by decide +kernel
theorem dL_law_1093 : decode cL_law 1093 = .ok (.aload_n 1, 1) := by decide +kernel
theorem dL_law_1094 : decode cL_law 1094 = .ok (.aload_n 0, 1) := by decide +kernel
theorem dL_law_1095 : decode cL_law 1095 = .ok (.iload 4, 2) := by decide +kernel
theorem dL_law_1097 : decode cL_law 1097 = .ok (.iconst 1, 1) := by decide +kernel
theorem dL_law_1098 : decode cL_law 1098 = .ok (.iadd, 1) := by decide +kernel
theorem dL_law_1099 : decode cL_law 1099 = .ok (.iaload, 1) := by decide +kernel
theorem dL_law_1100 : decode cL_law 1100 = .ok (.aload_n 0, 1) := by decide +kernel
theorem dL_law_1101 : decode cL_law 1101 = .ok (.iload 4, 2) := by decide +kernel
theorem dL_law_1103 : decode cL_law 1103 = .ok (.iconst 2, 1) := by decide +kernel
theorem dL_law_1104 : decode cL_law 1104 = .ok (.iadd, 1) := by decide +kernel
theorem dL_law_1105 : decode cL_law 1105 = .ok (.iaload, 1) := by decide +kernel
theorem dL_law_1106 : decode cL_law 1106 = .ok (.aload_n 0, 1) := by decide +kernel
theorem dL_law_1107 : decode cL_law 1107 = .ok (.iload 4, 2) := by decide +kernel
theorem dL_law_1109 : decode cL_law 1109 = .ok (.iconst 3, 1) := by decide +kernel
theorem dL_law_1110 : decode cL_law 1110 = .ok (.iadd, 1) := by decide +kernel
theorem dL_law_1111 : decode cL_law 1111 = .ok (.iaload, 1) := by decide +kernel
theorem dL_law_1112 : decode cL_law 1112 = .ok (.aload_n 0, 1) := by decide +kernel
theorem dL_law_1113 : decode cL_law 1113 = .ok (.iload 4, 2) := by decide +kernel
theorem dL_law_1115 : decode cL_law 1115 = .ok (.iconst 4, 1) := by decide +kernel
theorem dL_law_1116 : decode cL_law 1116 = .ok (.iadd, 1) := by decide +kernel
theorem dL_law_1117 : decode cL_law 1117 = .ok (.iaload, 1) := by decide +kernel
theorem dL_law_1118 : decode cL_law 1118 = .ok (.aload_n 0, 1) := by decide +kernel
theorem dL_law_1119 : decode cL_law 1119 = .ok (.iload 4, 2) := by decide +kernel
theorem dL_law_1121 : decode cL_law 1121 = .ok (.iconst 5, 1) := by decide +kernel
theorem dL_law_1122 : decode cL_law 1122 = .ok (.iadd, 1) := by decide +kernel
theorem dL_law_1123 : decode cL_law 1123 = .ok (.iaload, 1) := by decide +kernel
theorem dL_law_1124 : decode cL_law 1124 = .ok (.invokevirtual 125, 3) := by decide +kernel
theorem dL_law_1127 : decode cL_law 1127 = .ok (.pop, 1) := by decide +kernel
theorem dL_law_1128 : decode cL_law 1128 = .ok (.aload_n 2, 1) := by decide +kernel
theorem dL_law_1129 : decode cL_law 1129 = .ok (.aload_n 0, 1) := by decide +kernel
theorem dL_law_1130 : decode cL_law 1130 = .ok (.iload 4, 2) := by decide +kernel
theorem dL_law_1132 : decode cL_law 1132 = .ok (.iconst 1, 1) := by decide +kernel
theorem dL_law_1133 : decode cL_law 1133 = .ok (.iadd, 1) := by decide +kernel
theorem dL_law_1134 : decode cL_law 1134 = .ok (.iaload, 1) := by decide +kernel
theorem dL_law_1135 : decode cL_law 1135 = .ok (.aload_n 0, 1) := by decide +kernel
theorem dL_law_1136 : decode cL_law 1136 = .ok (.iload 4, 2) := by decide +kernel
theorem dL_law_1138 : decode cL_law 1138 = .ok (.iconst 2, 1) := by decide +kernel
theorem dL_law_1139 : decode cL_law 1139 = .ok (.iadd, 1) := by decide +kernel
theorem dL_law_1140 : decode cL_law 1140 = .ok (.iaload, 1) := by decide +kernel
theorem dL_law_1141 : decode cL_law 1141 = .ok (.aload_n 0, 1) := by decide +kernel
theorem dL_law_1142 : decode cL_law 1142 = .ok (.iload 4, 2) := by decide +kernel
theorem dL_law_1144 : decode cL_law 1144 = .ok (.iconst 3, 1) := by decide +kernel
theorem dL_law_1145 : decode cL_law 1145 = .ok (.iadd, 1) := by decide +kernel
theorem dL_law_1146 : decode cL_law 1146 = .ok (.iaload, 1) := by decide +kernel
theorem dL_law_1147 : decode cL_law 1147 = .ok (.aload_n 0, 1) := by decide +kernel
theorem dL_law_1148 : decode cL_law 1148 = .ok (.iload 4, 2) := by decide +kernel
theorem dL_law_1150 : decode cL_law 1150 = .ok (.iconst 4, 1) := by decide +kernel
theorem dL_law_1151 : decode cL_law 1151 = .ok (.iadd, 1) := by decide +kernel
theorem dL_law_1152 : decode cL_law 1152 = .ok (.iaload, 1) := by decide +kernel
theorem dL_law_1153 : decode cL_law 1153 = .ok (.aload_n 0, 1) := by decide +kernel
theorem dL_law_1154 : decode cL_law 1154 = .ok (.iload 4, 2) := by decide +kernel
theorem dL_law_1156 : decode cL_law 1156 = .ok (.iconst 5, 1) := by decide +kernel
theorem dL_law_1157 : decode cL_law 1157 = .ok (.iadd, 1) := by decide +kernel
theorem dL_law_1158 : decode cL_law 1158 = .ok (.iaload, 1) := by decide +kernel
theorem dL_law_1159 : decode cL_law 1159 = .ok (.invokevirtual 128, 3) := by decide +kernel
theorem dL_law_1162 : decode cL_law 1162 = .ok (.pop, 1) := by decide +kernel
theorem dL_law_1163 : decode cL_law 1163 = .ok (.goto 302, 3) := by decide +kernel
theorem dL_law_1166 : decode cL_law 1166 = .ok (.aload_n 1, 1) := by decide +kernel
theorem dL_law_1167 : decode cL_law 1167 = .ok (.invokevirtual 129, 3) := by decide +kernel
theorem dL_law_1170 : decode cL_law 1170 = .ok (.pop2, 1) := by decide +kernel
theorem dL_law_1171 : decode cL_law 1171 = .ok (.aload_n 2, 1) := by decide +kernel
theorem dL_law_1172 : decode cL_law 1172 = .ok (.invokevirtual 133, 3) := by decide +kernel
theorem dL_law_1175 : decode cL_law 1175 = .ok (.pop2, 1) := by decide +kernel
theorem dL_law_1176 : decode cL_law 1176 = .ok (.goto 289, 3) := by decide +kernel
theorem dL_law_1179 : decode cL_law 1179 = .ok (.aload_n 1, 1) := by decide +kernel
theorem dL_law_1180 : decode cL_law 1180 = .ok (.invokevirtual 134, 3) := by decide +kernel
theorem dL_law_1183 : decode cL_law 1183 = .ok (.pop, 1) := by decide +kernel
theorem dL_law_1184 : decode cL_law 1184 = .ok (.aload_n 2, 1) := by decide +kernel
theorem dL_law_1185 : decode cL_law 1185 = .ok (.invokevirtual 137, 3) := by decide +kernel
theorem dL_law_1188 : decode cL_law 1188 = .ok (.pop, 1) := by decide +kernel
theorem dL_law_1189 : decode cL_law 1189 = .ok (.goto 276, 3) := by decide +kernel
theorem dL_law_1192 : decode cL_law 1192 = .ok (.aload_n 1, 1) := by decide +kernel
theorem dL_law_1193 : decode cL_law 1193 = .ok (.invokevirtual 138, 3) := by decide +kernel
theorem dL_law_1196 : decode cL_law 1196 = .ok (.pop, 1) := by decide +kernel
theorem dL_law_1197 : decode cL_law 1197 = .ok (.aload_n 2, 1) := by decide +kernel
theorem dL_law_1198 : decode cL_law 1198 = .ok (.invokevirtual 141, 3) := by decide +kernel
theorem dL_law_1201 : decode cL_law 1201 = .ok (.pop, 1) := by decide +kernel
theorem dL_law_1202 : decode cL_law 1202 = .ok (.goto 263, 3) := by decide +kernel
theorem dL_law_1205 : decode cL_law 1205 = .ok (.aload_n 1, 1) := by decide +kernel
theorem dL_law_1206 : decode cL_law 1206 = .ok (.aload_n 0, 1) := by decide +kernel
theorem dL_law_1207 : decode cL_law 1207 = .ok (.iload 4, 2) := by decide +kernel
theorem dL_law_1209 : decode cL_law 1209 = .ok (.iconst 1, 1) := by decide +kernel
theorem dL_law_1210 : decode cL_law 1210 = .ok (.iadd, 1) := by decide +kernel
theorem dL_law_1211 : decode cL_law 1211 = .ok (.iaload, 1) := by decide +kernel
theorem dL_law_1212 : decode cL_law 1212 = .ok (.aload_n 0, 1) := by decide +kernel
theorem dL_law_1213 : decode cL_law 1213 = .ok (.iload 4, 2) := by decide +kernel
theorem dL_law_1215 : decode cL_law 1215 = .ok (.iconst 2, 1) := by decide +kernel
theorem dL_law_1216 : decode cL_law 1216 = .ok (.iadd, 1) := by decide +kernel
theorem dL_law_1217 : decode cL_law 1217 = .ok (.iaload, 1) := by decide +kernel
theorem dL_law_1218 : decode cL_law 1218 = .ok (.aload_n 0, 1) := by decide +kernel
theorem dL_law_1219 : decode cL_law 1219 = .ok (.iload 4, 2) := by decide +kernel
theorem dL_law_1221 : decode cL_law 1221 = .ok (.iconst 3, 1) := by decide +kernel
theorem dL_law_1222 : decode cL_law 1222 = .ok (.iadd, 1) := by decide +kernel
theorem dL_law_1223 : decode cL_law 1223 = .ok (.iaload, 1) := by decide +kernel
theorem dL_law_1224 : decode cL_law 1224 = .ok (.invokevirtual 142, 3) := by decide +kernel
theorem dL_law_1227 : decode cL_law 1227 = .ok (.aload_n 2, 1) := by decide +kernel
theorem dL_law_1228 : decode cL_law 1228 = .ok (.aload_n 0, 1) := by decide +kernel
theorem dL_law_1229 : decode cL_law 1229 = .ok (.iload 4, 2) := by decide +kernel
theorem dL_law_1231 : decode cL_law 1231 = .ok (.iconst 1, 1) := by decide +kernel
theorem dL_law_1232 : decode cL_law 1232 = .ok (.iadd, 1) := by decide +kernel
theorem dL_law_1233 : decode cL_law 1233 = .ok (.iaload, 1) := by decide +kernel
theorem dL_law_1234 : decode cL_law 1234 = .ok (.aload_n 0, 1) := by decide +kernel
theorem dL_law_1235 : decode cL_law 1235 = .ok (.iload 4, 2) := by decide +kernel
theorem dL_law_1237 : decode cL_law 1237 = .ok (.iconst 2, 1) := by decide +kernel
theorem dL_law_1238 : decode cL_law 1238 = .ok (.iadd, 1) := by decide +kernel
theorem dL_law_1239 : decode cL_law 1239 = .ok (.iaload, 1) := by decide +kernel
theorem dL_law_1240 : decode cL_law 1240 = .ok (.aload_n 0, 1) := by decide +kernel
theorem dL_law_1241 : decode cL_law 1241 = .ok (.iload 4, 2) := by decide +kernel
theorem dL_law_1243 : decode cL_law 1243 = .ok (.iconst 3, 1) := by decide +kernel
theorem dL_law_1244 : decode cL_law 1244 = .ok (.iadd, 1) := by decide +kernel
theorem dL_law_1245 : decode cL_law 1245 = .ok (.iaload, 1) := by decide +kernel
theorem dL_law_1246 : decode cL_law 1246 = .ok (.invokevirtual 146, 3) := by decide +kernel
theorem dL_law_1249 : decode cL_law 1249 = .ok (.if_icmp .eq 216, 3) := by decide +kernel
theorem dL_law_1254 : decode cL_law 1254 = .ok (.aload_n 1, 1) := by decide +kernel
theorem dL_law_1255 : decode cL_law 1255 = .ok (.aload_n 0, 1) := by decide +kernel
theorem dL_law_1256 : decode cL_law 1256 = .ok (.iload 4, 2) := by decide +kernel
theorem dL_law_1258 : decode cL_law 1258 = .ok (.iconst 1, 1) := by decide +kernel
theorem dL_law_1259 : decode cL_law 1259 = .ok (.iadd, 1) := by decide +kernel
theorem dL_law_1260 : decode cL_law 1260 = .ok (.iaload, 1) := by decide +kernel
theorem dL_law_1261 : decode cL_law 1261 = .ok (.invokevirtual 147, 3) := by decide +kernel
theorem dL_law_1264 : decode cL_law 1264 = .ok (.pop, 1) := by decide +kernel
theorem dL_law_1265 : decode cL_law 1265 = .ok (.aload_n 2, 1) := by decide +kernel
theorem dL_law_1266 : decode cL_law 1266 = .ok (.aload_n 0, 1) := by decide +kernel
theorem dL_law_1267 : decode cL_law 1267 = .ok (.iload 4, 2) := by decide +kernel
theorem dL_law_1269 : decode cL_law 1269 = .ok (.iconst 1, 1) := by decide +kernel
theorem dL_law_1270 : decode cL_law 1270 = .ok (.iadd, 1) := by decide +kernel
theorem dL_law_1271 : decode cL_law 1271 = .ok (.iaload, 1) := by decide +kernel
theorem dL_law_1272 : decode cL_law 1272 = .ok (.invokevirtual 150, 3) := by decide +kernel
theorem dL_law_1275 : decode cL_law 1275 = .ok (.pop, 1) := by decide +kernel
theorem dL_law_1276 : decode cL_law 1276 = .ok (.goto 189, 3) := by decide +kernel
theorem dL_law_1279 : decode cL_law 1279 = .ok (.aload_n 1, 1) := by decide +kernel
theorem dL_law_1280 : decode cL_law 1280 = .ok (.aload_n 0, 1) := by decide +kernel
theorem dL_law_1281 : decode cL_law 1281 = .ok (.iload 4, 2) := by decide +kernel
theorem dL_law_1283 : decode cL_law 1283 = .ok (.iconst 1, 1) := by decide +kernel
theorem dL_law_1284 : decode cL_law 1284 = .ok (.iadd, 1) := by decide +kernel
theorem dL_law_1285 : decode cL_law 1285 = .ok (.iaload, 1) := by decide +kernel
theorem dL_law_1286 : decode cL_law 1286 = .ok (.invokevirtual 151, 3) := by decide +kernel
theorem dL_law_1289 : decode cL_law 1289 = .ok (.pop, 1) := by decide +kernel
theorem dL_law_1290 : decode cL_law 1290 = .ok (.aload_n 2, 1) := by decide +kernel
theorem dL_law_1291 : decode cL_law 1291 = .ok (.aload_n 0, 1) := by decide +kernel
theorem dL_law_1292 : decode cL_law 1292 = .ok (.iload 4, 2) := by decide +kernel
theorem dL_law_1294 : decode cL_law 1294 = .ok (.iconst 1, 1) := by decide +kernel
theorem dL_law_1295 : decode cL_law 1295 = .ok (.iadd, 1) := by decide +kernel
theorem dL_law_1296 : decode cL_law 1296 = .ok (.iaload, 1) := by decide +kernel
theorem dL_law_1297 : decode cL_law 1297 = .ok (.invokevirtual 154, 3) := by decide +kernel
theorem dL_law_1300 : decode cL_law 1300 = .ok (.pop, 1) := by decide +kernel
theorem dL_law_1301 : decode cL_law 1301 = .ok (.goto 164, 3) := by decide +kernel
theorem dL_law_1304 : decode cL_law 1304 = .ok (.aload_n 1, 1) := by decide +kernel
theorem dL_law_1305 : decode cL_law 1305 = .ok (.invokevirtual 155, 3) := by decide +kernel
theorem dL_law_1308 : decode cL_law 1308 = .ok (.pop, 1) := by decide +kernel
theorem dL_law_1309 : decode cL_law 1309 = .ok (.aload_n 2, 1) := by decide +kernel
theorem dL_law_1310 : decode cL_law 1310 = .ok (.invokevirtual 158, 3) := by decide +kernel
theorem dL_law_1313 : decode cL_law 1313 = .ok (.pop, 1) := by decide +kernel
theorem dL_law_1314 : decode cL_law 1314 = .ok (.goto 151, 3) := by decide +kernel
theorem dL_law_1317 : decode cL_law 1317 = .ok (.aload_n 1, 1) := by decide +kernel
theorem dL_law_1318 : decode cL_law 1318 = .ok (.aload_n 0, 1) := by decide +kernel
theorem dL_law_1319 : decode cL_law 1319 = .ok (.iload 4, 2) := by decide +kernel
theorem dL_law_1321 : decode cL_law 1321 = .ok (.iconst 1, 1) := by decide +kernel
theorem dL_law_1322 : decode cL_law 1322 = .ok (.iadd, 1) := by decide +kernel
theorem dL_law_1323 : decode cL_law 1323 = .ok (.iaload, 1) := by decide +kernel
theorem dL_law_1324 : decode cL_law 1324 = .ok (.invokevirtual 159, 3) := by decide +kernel
theorem dL_law_1327 : decode cL_law 1327 = .ok (.pop, 1) := by decide +kernel
theorem dL_law_1328 : decode cL_law 1328 = .ok (.aload_n 2, 1) := by decide +kernel
theorem dL_law_1329 : decode cL_law 1329 = .ok (.aload_n 0, 1) := by decide +kernel
theorem dL_law_1330 : decode cL_law 1330 = .ok (.iload 4, 2) := by decide +kernel
theorem dL_law_1332 : decode cL_law 1332 = .ok (.iconst 1, 1) := by decide +kernel
theorem dL_law_1333 : decode cL_law 1333 = .ok (.iadd, 1) := by decide +kernel
theorem dL_law_1334 : decode cL_law 1334 = .ok (.iaload, 1) := by decide +kernel
theorem dL_law_1335 : decode cL_law 1335 = .ok (.invokevirtual 162, 3) := by decide +kernel
theorem dL_law_1338 : decode cL_law 1338 = .ok (.pop, 1) := by decide +kernel
theorem dL_law_1339 : decode cL_law 1339 = .ok (.goto 126, 3) := by decide +kernel
theorem dL_law_1342 : decode cL_law 1342 = .ok (.aload_n 1, 1) := by decide +kernel
theorem dL_law_1343 : decode cL_law 1343 = .ok (.aload_n 0, 1) := by decide +kernel
theorem dL_law_1344 : decode cL_law 1344 = .ok (.iload 4, 2) := by decide +kernel
theorem dL_law_1346 : decode cL_law 1346 = .ok (.iconst 1, 1) := by decide +kernel
theorem dL_law_1347 : decode cL_law 1347 = .ok (.iadd, 1) := by decide +kernel
theorem dL_law_1348 : decode cL_law 1348 = .ok (.iaload, 1) := by decide +kernel
theorem dL_law_1349 : decode cL_law 1349 = .ok (.aload_n 0, 1) := by decide +kernel
theorem dL_law_1350 : decode cL_law 1350 = .ok (.iload 4, 2) := by decide +kernel
theorem dL_law_1352 : decode cL_law 1352 = .ok (.iconst 2, 1) := by decide +kernel
theorem dL_law_1353 : decode cL_law 1353 = .ok (.iadd, 1) := by decide +kernel
theorem dL_law_1354 : decode cL_law 1354 = .ok (.iaload, 1) := by decide +kernel
theorem dL_law_1355 : decode cL_law 1355 = .ok (.aload_n 0, 1) := by decide +kernel
theorem dL_law_1356 : decode cL_law 1356 = .ok (.iload 4, 2) := by decide +kernel
theorem dL_law_1358 : decode cL_law 1358 = .ok (.iconst 3, 1) := by decide +kernel
theorem dL_law_1359 : decode cL_law 1359 = .ok (.iadd, 1) := by decide +kernel
theorem dL_law_1360 : decode cL_law 1360 = .ok (.iaload, 1) := by decide +kernel
theorem dL_law_1361 : decode cL_law 1361 = .ok (.aload_n 0, 1) := by decide +kernel
theorem dL_law_1362 : decode cL_law 1362 = .ok (.iload 4, 2) := by decide +kernel
theorem dL_law_1364 : decode cL_law 1364 = .ok (.iconst 4, 1) := by decide +kernel
theorem dL_law_1365 : decode cL_law 1365 = .ok (.iadd, 1) := by decide +kernel
theorem dL_law_1366 : decode cL_law 1366 = .ok (.iaload, 1) := by decide +kernel
theorem dL_law_1367 : decode cL_law 1367 = .ok (.aload_n 0, 1) := by decide +kernel
theorem dL_law_1368 : decode cL_law 1368 = .ok (.iload 4, 2) := by decide +kernel
theorem dL_law_1370 : decode cL_law 1370 = .ok (.iconst 5, 1) := by decide +kernel
theorem dL_law_1371 : decode cL_law 1371 = .ok (.iadd, 1) := by decide +kernel
theorem dL_law_1372 : decode cL_law 1372 = .ok (.iaload, 1) := by decide +kernel
theorem dL_law_1373 : decode cL_law 1373 = .ok (.invokevirtual 163, 3) := by decide +kernel
theorem dL_law_1376 : decode cL_law 1376 = .ok (.pop, 1) := by decide +kernel
theorem dL_law_1377 : decode cL_law 1377 = .ok (.aload_n 2, 1) := by decide +kernel
theorem dL_law_1378 : decode cL_law 1378 = .ok (.aload_n 0, 1) := by decide +kernel
theorem dL_law_1379 : decode cL_law 1379 = .ok (.iload 4, 2) := by decide +kernel
theorem dL_law_1381 : decode cL_law 1381 = .ok (.iconst 1, 1) := by decide +kernel
theorem dL_law_1382 : decode cL_law 1382 = .ok (.iadd, 1) := by decide +kernel
theorem dL_law_1383 : decode cL_law 1383 = .ok (.iaload, 1) := by decide +kernel
theorem dL_law_1384 : decode cL_law 1384 = .ok (.aload_n 0, 1) := by decide +kernel
theorem dL_law_1385 : decode cL_law 1385 = .ok (.iload 4, 2) := by decide +kernel
theorem dL_law_1387 : decode cL_law 1387 = .ok (.iconst 2, 1) := by decide +kernel
theorem dL_law_1388 : decode cL_law 1388 = .ok (.iadd, 1) := by decide +kernel
theorem dL_law_1389 : decode cL_law 1389 = .ok (.iaload, 1) := by decide +kernel
theorem dL_law_1390 : decode cL_law 1390 = .ok (.aload_n 0, 1) := by decide +kernel
theorem dL_law_1391 : decode cL_law 1391 = .ok (.iload 4, 2) := by decide +kernel
theorem dL_law_1393 : decode cL_law 1393 = .ok (.iconst 3, 1) := by decide +kernel
theorem dL_law_1394 : decode cL_law 1394 = .ok (.iadd, 1) := by decide +kernel
theorem dL_law_1395 : decode cL_law 1395 = .ok (.iaload, 1) := by decide +kernel
theorem dL_law_1396 : decode cL_law 1396 = .ok (.aload_n 0, 1) := by decide +kernel
theorem dL_law_1397 : decode cL_law 1397 = .ok (.iload 4, 2) := by decide +kernel
theorem dL_law_1399 : decode cL_law 1399 = .ok (.iconst 4, 1) := by decide +kernel
theorem dL_law_1400 : decode cL_law 1400 = .ok (.iadd, 1) := by decide +kernel
theorem dL_law_1401 : decode cL_law 1401 = .ok (.iaload, 1) := by decide +kernel
theorem dL_law_1402 : decode cL_law 1402 = .ok (.aload_n 0, 1) := by decide +kernel
theorem dL_law_1403 : decode cL_law 1403 = .ok (.iload 4, 2) := by decide +kernel
theorem dL_law_1405 : decode cL_law 1405 = .ok (.iconst 5, 1) := by decide +kernel
theorem dL_law_1406 : decode cL_law 1406 = .ok (.iadd, 1) := by decide +kernel
theorem dL_law_1407 : decode cL_law 1407 = .ok (.iaload, 1) := by decide +kernel
theorem dL_law_1408 : decode cL_law 1408 = .ok (.invokevirtual 166, 3) := by decide +kernel
theorem dL_law_1411 : decode cL_law 1411 = .ok (.pop, 1) := by decide +kernel
theorem dL_law_1412 : decode cL_law 1412 = .ok (.goto 53, 3) := by decide +kernel
theorem dL_law_1415 : decode cL_law 1415 = .ok (.aload_n 1, 1) := by decide +kernel
theorem dL_law_1416 : decode cL_law 1416 = .ok (.aload_n 0, 1) := by decide +kernel
theorem dL_law_1417 : decode cL_law 1417 = .ok (.iload 4, 2) := by decide +kernel
theorem dL_law_1419 : decode cL_law 1419 = .ok (.iconst 1, 1) := by decide +kernel
theorem dL_law_1420 : decode cL_law 1420 = .ok (.iadd, 1) := by decide +kernel
theorem dL_law_1421 : decode cL_law 1421 = .ok (.iaload, 1) := by decide +kernel
theorem dL_law_1422 : decode cL_law 1422 = .ok (.invokevirtual 167, 3) := by decide +kernel
theorem dL_law_1425 : decode cL_law 1425 = .ok (.pop, 1) := by decide +kernel
theorem dL_law_1426 : decode cL_law 1426 = .ok (.aload_n 2, 1) := by decide +kernel
theorem dL_law_1427 : decode cL_law 1427 = .ok (.aload_n 0, 1) := by decide +kernel
theorem dL_law_1428 : decode cL_law 1428 = .ok (.iload 4, 2) := by decide +kernel
theorem dL_law_1430 : decode cL_law 1430 = .ok (.iconst 1, 1) := by decide +kernel
theorem dL_law_1431 : decode cL_law 1431 = .ok (.iadd, 1) := by decide +kernel
theorem dL_law_1432 : decode cL_law 1432 = .ok (.iaload, 1) := by decide +kernel
theorem dL_law_1433 : decode cL_law 1433 = .ok (.invokevirtual 170, 3) := by decide +kernel
theorem dL_law_1436 : decode cL_law 1436 = .ok (.pop, 1) := by decide +kernel
theorem dL_law_1437 : decode cL_law 1437 = .ok (.goto 28, 3) := by decide +kernel
theorem dL_law_1440 : decode cL_law 1440 = .ok (.aload_n 1, 1) := by decide +kernel
theorem dL_law_1441 : decode cL_law 1441 = .ok (.aload_n 0, 1) := by decide +kernel
theorem dL_law_1442 : decode cL_law 1442 = .ok (.iload 4, 2) := by decide +kernel
theorem dL_law_1444 : decode cL_law 1444 = .ok (.iconst 1, 1) := by decide +kernel
theorem dL_law_1445 : decode cL_law 1445 = .ok (.iadd, 1) := by decide +kernel
theorem dL_law_1446 : decode cL_law 1446 = .ok (.iaload, 1) := by decide +kernel
theorem dL_law_1447 : decode cL_law 1447 = .ok (.invokevirtual 171, 3) := by decide +kernel
theorem dL_law_1450 : decode cL_law 1450 = .ok (.pop, 1) := by decide +kernel
theorem dL_law_1451 : decode cL_law 1451 = .ok (.aload_n 2, 1) := by decide +kernel
theorem dL_law_1452 : decode cL_law 1452 = .ok (.aload_n 0, 1) := by decide +kernel
theorem dL_law_1453 : decode cL_law 1453 = .ok (.iload 4, 2) := by decide +kernel
theorem dL_law_1455 : decode cL_law 1455 = .ok (.iconst 1, 1) := by decide +kernel
theorem dL_law_1456 : decode cL_law 1456 = .ok (.iadd, 1) := by decide +kernel
theorem dL_law_1457 : decode cL_law 1457 = .ok (.iaload, 1) := by decide +kernel
theorem dL_law_1458 : decode cL_law 1458 = .ok (.invokevirtual 174, 3) := by decide +kernel
theorem dL_law_1461 : decode cL_law 1461 = .ok (.pop, 1) := by decide +kernel
theorem dL_law_1462 : decode cL_law 1462 = .ok (.goto 3, 3) := by decide +kernel
theorem dL_law_1465 : decode cL_law 1465 = .ok (.iinc 4 6, 3) := by decide +kernel
theorem dL_law_1468 : decode cL_law 1468 = .ok (.goto (-1445), 3) := by decide +kernel
theorem dL_law_1471 : decode cL_law 1471 = .ok (.iconst 1, 1) := by decide +kernel
theorem dL_law_1472 : decode cL_law 1472 = .ok (.ireturn, 1) := by decide +kernel
theorem li_L_19 : xLI RL 19 yX11_init cX11_init 1 0 := ⟨Or.inl m_1_7, m_1_8, m_1_2, m_1_9, rfl, by decide +kernel⟩
theorem li_L_22 : xLI RL 22 yX12_init cX12_init 1 0 := ⟨Or.inl m_7_22, m_7_23, m_1_5, m_8_0, rfl, by decide +kernel⟩
theorem lk_L_102 : xLV RL 102 yX12_close cX12_close 4 (some .int) 0 := ⟨m_40_16, m_40_17, m_40_18, m_1_5, m_40_19, by decide +kernel⟩
theorem lk_L_108 : xLV RL 108 yX12_of cX12_of 3 (some .int) 2 := ⟨m_42_3, m_42_4, m_42_5, m_1_5, m_42_6, by decide +kernel⟩
theorem lk_L_112 : xLV RL 112 yX12_coin cX12_coin 2 (some .int) 1 := ⟨m_42_18, m_42_19, m_42_20, m_1_5, m_42_21, by decide +kernel⟩
theorem lk_L_113 : xLV RL 113 yX11_counted cX11_counted 5 (some .int) 4 := ⟨m_42_22, m_43_0, m_43_1, m_1_2, m_43_2, by decide +kernel⟩
theorem lk_L_116 : xLV RL 116 yX12_counted cX12_counted 5 (some .int) 4 := ⟨m_43_9, m_43_10, m_43_11, m_1_5, m_43_12, by decide +kernel⟩
theorem lk_L_117 : xLV RL 117 yX11_falseCounts cX11_falseCounts 2 (some .int) 1 := ⟨m_43_14, m_43_15, m_43_16, m_1_2, m_43_17, by decide +kernel⟩
theorem lk_L_120 : xLV RL 120 yX12_falseCounts cX12_falseCounts 7 (some .int) 1 := ⟨m_44_6, m_44_7, m_44_8, m_1_5, m_44_9, by decide +kernel⟩
theorem lk_L_121 : xLV RL 121 yX11_shortOf cX11_shortOf 2 (some .int) 1 := ⟨m_44_18, m_44_19, m_44_20, m_1_2, m_44_21, by decide +kernel⟩
theorem lk_L_124 : xLV RL 124 yX12_shortOf cX12_shortOf 9 (some .int) 1 := ⟨m_45_17, m_45_18, m_45_19, m_1_5, m_45_20, by decide +kernel⟩
theorem lk_L_125 : xLV RL 125 yX11_best cX11_best 7 (some .int) 5 := ⟨m_46_1, m_46_2, m_46_3, m_1_2, m_46_4, by decide +kernel⟩
theorem lk_L_128 : xLV RL 128 yX12_best cX12_best 19 (some .int) 5 := ⟨m_47_0, m_47_1, m_47_2, m_1_5, m_47_3, by decide +kernel⟩
theorem lk_L_129 : xLV RL 129 yX11_expected cX11_expected 1 (some .long) 0 := ⟨m_47_5, m_47_6, m_47_7, m_1_2, m_47_8, by decide +kernel⟩
theorem lk_L_133 : xLV RL 133 yX12_expected cX12_expected 1 (some .long) 0 := ⟨m_47_10, m_47_11, m_47_12, m_1_5, m_47_13, by decide +kernel⟩
theorem lk_L_134 : xLV RL 134 yX11_tried cX11_tried 1 (some .int) 0 := ⟨m_47_14, m_47_15, m_47_16, m_1_2, m_47_17, by decide +kernel⟩
theorem lk_L_137 : xLV RL 137 yX12_tried cX12_tried 5 (some .int) 0 := ⟨m_48_3, m_48_4, m_48_5, m_1_5, m_48_6, by decide +kernel⟩
theorem lk_L_138 : xLV RL 138 yX11_triedEaten cX11_triedEaten 1 (some .int) 0 := ⟨m_48_12, m_48_13, m_48_14, m_1_2, m_48_15, by decide +kernel⟩
theorem lk_L_141 : xLV RL 141 yX12_triedEaten cX12_triedEaten 1 (some .int) 0 := ⟨m_48_16, m_48_17, m_48_18, m_1_5, m_48_19, by decide +kernel⟩
theorem lk_L_142 : xLV RL 142 yX11_parted cX11_parted 6 (some .int) 3 := ⟨m_48_20, m_48_21, m_48_22, m_1_2, m_48_23, by decide +kernel⟩
theorem lk_L_146 : xLV RL 146 yX12_parted cX12_parted 7 (some .int) 3 := ⟨m_51_16, m_51_17, m_51_18, m_1_5, m_51_19, by decide +kernel⟩
theorem lk_L_147 : xLV RL 147 yX11_partedAt cX11_partedAt 2 (some .int) 1 := ⟨m_52_16, m_52_17, m_52_18, m_1_2, m_52_19, by decide +kernel⟩
theorem lk_L_150 : xLV RL 150 yX12_partedAt cX12_partedAt 2 (some .int) 1 := ⟨m_52_22, m_52_23, m_53_0, m_1_5, m_53_1, by decide +kernel⟩
theorem lk_L_151 : xLV RL 151 yX11_peace cX11_peace 2 (some .int) 1 := ⟨m_53_2, m_53_3, m_53_4, m_1_2, m_53_5, by decide +kernel⟩
theorem lk_L_154 : xLV RL 154 yX12_peace cX12_peace 2 (some .int) 1 := ⟨m_53_10, m_53_11, m_53_12, m_1_5, m_53_13, by decide +kernel⟩
theorem lk_L_155 : xLV RL 155 yX11_truck cX11_truck 2 (some .int) 0 := ⟨m_53_14, m_53_15, m_53_16, m_1_2, m_53_17, by decide +kernel⟩
theorem lk_L_158 : xLV RL 158 yX12_truck cX12_truck 7 (some .int) 0 := ⟨m_55_10, m_55_11, m_55_12, m_1_5, m_55_13, by decide +kernel⟩
theorem lk_L_159 : xLV RL 159 yX11_truckAt cX11_truckAt 2 (some .int) 1 := ⟨m_56_2, m_56_3, m_56_4, m_1_2, m_56_5, by decide +kernel⟩
theorem lk_L_162 : xLV RL 162 yX12_truckAt cX12_truckAt 2 (some .int) 1 := ⟨m_56_8, m_56_9, m_56_10, m_1_5, m_56_11, by decide +kernel⟩
theorem lk_L_163 : xLV RL 163 yX11_strike cX11_strike 7 (some .int) 5 := ⟨m_56_12, m_56_13, m_56_14, m_1_2, m_56_15, by decide +kernel⟩
theorem lk_L_166 : xLV RL 166 yX12_strike cX12_strike 13 (some .int) 5 := ⟨m_57_5, m_57_6, m_57_7, m_1_5, m_57_8, by decide +kernel⟩
theorem lk_L_167 : xLV RL 167 yX11_struck cX11_struck 2 (some .int) 1 := ⟨m_57_12, m_57_13, m_57_14, m_1_2, m_57_15, by decide +kernel⟩
theorem lk_L_170 : xLV RL 170 yX12_struck cX12_struck 2 (some .int) 1 := ⟨m_57_16, m_57_17, m_57_18, m_1_5, m_57_19, by decide +kernel⟩
theorem lk_L_171 : xLV RL 171 yX11_count cX11_count 2 (some .int) 1 := ⟨m_57_20, m_57_21, m_57_22, m_1_2, m_57_23, by decide +kernel⟩
theorem lk_L_174 : xLV RL 174 yX12_count cX12_count 2 (some .int) 1 := ⟨m_58_0, m_58_1, m_58_2, m_1_5, m_58_3, by decide +kernel⟩
theorem lk_L_23 : xLV RL 23 yX11_feed cX11_feed 6 (some .int) 5 := ⟨m_10_16, m_10_17, m_10_18, m_1_2, m_10_19, by decide +kernel⟩
theorem lk_L_27 : xLV RL 27 yX12_feed cX12_feed 6 (some .int) 5 := ⟨m_11_1, m_11_2, m_11_3, m_1_5, m_11_4, by decide +kernel⟩
theorem lk_L_28 : xLV RL 28 yX11_end cX11_end 2 (some .boolean) 1 := ⟨m_11_11, m_11_12, m_11_13, m_1_2, m_11_14, by decide +kernel⟩
theorem lk_L_32 : xLV RL 32 yX12_end cX12_end 2 (some .boolean) 1 := ⟨m_11_15, m_11_16, m_11_17, m_1_5, m_11_18, by decide +kernel⟩
theorem lk_L_33 : xLV RL 33 yX11_boy cX11_boy 6 (some .int) 4 := ⟨m_11_19, m_11_20, m_11_21, m_1_2, m_11_22, by decide +kernel⟩
theorem lk_L_37 : xLV RL 37 yX12_boy cX12_boy 5 (some .int) 4 := ⟨m_15_7, m_15_8, m_15_9, m_1_5, m_15_10, by decide +kernel⟩
theorem lk_L_38 : xLV RL 38 yX11_badge cX11_badge 3 (some .boolean) 2 := ⟨m_15_15, m_15_16, m_15_17, m_1_2, m_15_18, by decide +kernel⟩
theorem lk_L_42 : xLV RL 42 yX12_badge cX12_badge 3 (some .boolean) 2 := ⟨m_16_18, m_16_19, m_16_20, m_1_5, m_16_21, by decide +kernel⟩
theorem lk_L_43 : xLV RL 43 yX11_owner cX11_owner 3 (some .boolean) 2 := ⟨m_17_2, m_17_3, m_17_4, m_1_2, m_17_5, by decide +kernel⟩
theorem lk_L_46 : xLV RL 46 yX12_owner cX12_owner 3 (some .boolean) 2 := ⟨m_17_10, m_17_11, m_17_12, m_1_5, m_17_13, by decide +kernel⟩
theorem lk_L_47 : xLV RL 47 yX11_weather cX11_weather 2 (some .boolean) 0 := ⟨m_17_17, m_17_18, m_17_19, m_1_2, m_17_20, by decide +kernel⟩
theorem lk_L_51 : xLV RL 51 yX12_weather cX12_weather 3 (some .boolean) 0 := ⟨m_18_7, m_18_8, m_18_9, m_1_5, m_18_10, by decide +kernel⟩
theorem lk_L_52 : xLV RL 52 yX11_sky cX11_sky 2 (some .int) 1 := ⟨m_18_16, m_18_17, m_18_18, m_1_2, m_18_19, by decide +kernel⟩
theorem lk_L_55 : xLV RL 55 yX12_sky cX12_sky 2 (some .int) 1 := ⟨m_18_21, m_18_22, m_18_23, m_1_5, m_19_0, by decide +kernel⟩
theorem lk_L_56 : xLV RL 56 yX11_headline cX11_headline 4 (some .boolean) 3 := ⟨m_19_8, m_19_9, m_19_10, m_1_2, m_19_11, by decide +kernel⟩
theorem lk_L_60 : xLV RL 60 yX12_headline cX12_headline 4 (some .boolean) 3 := ⟨m_19_19, m_19_20, m_19_21, m_1_5, m_19_22, by decide +kernel⟩
theorem lk_L_61 : xLV RL 61 yX11_table cX11_table 4 (some .boolean) 3 := ⟨m_20_3, m_20_4, m_20_5, m_1_2, m_20_6, by decide +kernel⟩
theorem lk_L_64 : xLV RL 64 yX12_table cX12_table 4 (some .boolean) 3 := ⟨m_20_12, m_20_13, m_20_14, m_1_5, m_20_15, by decide +kernel⟩
theorem lk_L_65 : xLV RL 65 yX11_want cX11_want 4 (some .boolean) 3 := ⟨m_20_16, m_20_17, m_20_18, m_1_2, m_20_19, by decide +kernel⟩
theorem lk_L_68 : xLV RL 68 yX12_want cX12_want 4 (some .boolean) 3 := ⟨m_20_21, m_20_22, m_20_23, m_1_5, m_21_0, by decide +kernel⟩
theorem lk_L_69 : xLV RL 69 yX11_asked cX11_asked 5 (some .int) 4 := ⟨m_21_1, m_21_2, m_21_3, m_1_2, m_21_4, by decide +kernel⟩
theorem lk_L_73 : xLV RL 73 yX12_asked cX12_asked 5 (some .int) 4 := ⟨m_21_9, m_21_10, m_21_11, m_1_5, m_21_12, by decide +kernel⟩
theorem lk_L_74 : xLV RL 74 yX11_minutes cX11_minutes 4 (some .boolean) 3 := ⟨m_21_17, m_21_18, m_21_19, m_1_2, m_21_20, by decide +kernel⟩
theorem lk_L_77 : xLV RL 77 yX12_minutes cX12_minutes 4 (some .boolean) 3 := ⟨m_21_22, m_21_23, m_22_0, m_1_5, m_22_1, by decide +kernel⟩
theorem lk_L_78 : xLV RL 78 yX11_terms cX11_terms 3 (some .int) 1 := ⟨m_22_7, m_22_8, m_22_9, m_1_2, m_22_10, by decide +kernel⟩
theorem lk_L_81 : xLV RL 81 yX12_terms cX12_terms 4 (some .int) 1 := ⟨m_28_3, m_28_4, m_28_5, m_1_5, m_28_6, by decide +kernel⟩
theorem lk_L_82 : xLV RL 82 yX11_fault cX11_fault 1 (some .int) 0 := ⟨m_32_9, m_32_10, m_32_11, m_1_2, m_32_12, by decide +kernel⟩
theorem lk_L_86 : xLV RL 86 yX12_fault cX12_fault 1 (some .int) 0 := ⟨m_32_13, m_32_14, m_32_15, m_1_5, m_32_16, by decide +kernel⟩
theorem lk_L_87 : xLV RL 87 yX11_bundle cX11_bundle 7 (some .int) 5 := ⟨m_32_17, m_32_18, m_32_19, m_1_2, m_32_20, by decide +kernel⟩
theorem lk_L_90 : xLV RL 90 yX12_bundle cX12_bundle 8 (some .int) 5 := ⟨m_36_1, m_36_2, m_36_3, m_1_5, m_36_4, by decide +kernel⟩
theorem lk_L_91 : xLV RL 91 yX11_told cX11_told 5 (some .int) 2 := ⟨m_37_4, m_37_5, m_37_6, m_1_2, m_37_7, by decide +kernel⟩
theorem lk_L_94 : xLV RL 94 yX12_told cX12_told 4 (some .int) 2 := ⟨m_37_18, m_37_19, m_37_20, m_1_5, m_37_21, by decide +kernel⟩
theorem lk_L_95 : xLV RL 95 yX11_why cX11_why 1 (some .int) 0 := ⟨m_38_2, m_38_3, m_38_4, m_1_2, m_38_5, by decide +kernel⟩
theorem lk_L_98 : xLV RL 98 yX12_why cX12_why 1 (some .int) 0 := ⟨m_38_6, m_38_7, m_38_8, m_1_5, m_38_9, by decide +kernel⟩
theorem lk_L_99 : xLV RL 99 yX11_close cX11_close 1 (some .int) 0 := ⟨m_38_10, m_38_11, m_38_12, m_1_2, m_38_13, by decide +kernel⟩
theorem nw_L_20 : xNw RL 20 13 RX12 TX12 91 tyX12 [.int 0, .null, .int 0, .int 0, .null, .null, .null, .null, .null, .null, .null, .null, .null, .null, .null, .null, .int 0, .int 0, .int 0, .int 0, .int 0, .int 0, .int 0, .int 0, .int 0, .int 0, .int 0, .int 0, .long 0, .null, .null, .null, .null, .null, .null, .null, .null, .null, .null, .int 0, .int 0, .int 0, .int 0, .int 0, .int 0, .null, .null, .int 0, .null, .null, .null, .null, .null, .null, .null, .null, .null, .null, .int 0, .int 0, .null, .null, .null, .null, .null, .null, .null, .null, .null, .int 0, .long 0, .int 0, .null, .null, .null, .null, .null, .null, .int 0, .int 0, .null, .null, .null, .null, .null, .null, .null, .int 0, .int 0, .int 0, .int 0] := ⟨by decide, rfl, inlX12, tyX12_ok, dfX12, m_1_3, m_1_4, m_1_5⟩
theorem nw_L_8 : xNw RL 8 12 RX11 TX11 18 tyX11 [.null, .null, .null, .null, .null, .null, .null, .null, .null, .null, .null, .null, .int 0, .int 0, .int 0, .int 0, .int 0, .int 0] := ⟨by decide, rfl, inlX11, tyX11_ok, dfX11, m_1_0, m_1_1, m_1_2⟩
theorem xPi_seal {S S1 : xT} {g : xG} {a q r ci : Nat} (h : xPi S g a) (hq : S q = some (r, 0)) (hS : S1 = xset S q (ci, 0)) (hr : 5000 ≤ r ∧ r < 5100) : xPi S1 g a := by
  obtain ⟨p, q', c, d, n, h1, h2, h3, h4, h5, h6, h7, h8, h9, h10, h11, h12, h13, h14, h15⟩ := h
  have ho : ∀ b, b ≠ q → S1 b = S b := fun b hb => by rw [hS]; exact xset_o hb
  exact ⟨p, q', c, d, n, xhs_seal ho hq h1 (by omega), h2, h3, h4, xhs_seal ho hq h5 (by omega), xhs_seal ho hq h6 (by omega), h7, h8, h9, xhs_seal ho hq h10 (by omega), xhs_seal ho hq h11 (by omega), h12, h13, h14, h15⟩
section XSR
variable {K : xCx} {E : xEn} {own : String} {cc : ByteArray} {Lw : List (Nat × Nat)} {nL rf rc rs rl : Nat} {pc : Nat} {lv : List (Nat × Value)} {st : List Value} {S : xT} {g : xG} {cells slots : Nat}
theorem X_scr (hK : xK K E own cc Lw nL rf rc rs rl) {b n : Nat} {xs : Nat → Int32} {j : Int} (hX : va_X b n xs K.2.2.2.2.1 K.2.2.2.2.1.heap) (hbl : b < K.2.2.2.2.1.heap.size) (hbA : ¬ E.2.2.1 ≤ b) (hn : n ≤ 3072) (q1 : 0 ≤ j) (q2 : j < n) (hd : decode cc pc = .ok (.iaload, 1)) (kk : ∀ z : Int, xs j.toNat = iI z → -2147483648 ≤ z → z ≤ 2147483647 → X K E (pc + 1) lv (.int (iI z) :: st) S g cells slots) : X K E pc lv (.int (iI j) :: .ref b :: st) S g cells slots := by
  intro H locs ls h1 h2 h3 h4 h5 h6
  refine va_sld (A := fun q => E.2.2.1 ≤ q) hK.1 hK.2.1 hX hbl hbA h5 (iI_in q1 q2 (by omega)) hd ?_
  rw [iI_clamp q1 (by omega)]
  exact X_anyi kk H locs ls h1 h2 h3 h4 h5 h6
theorem X_scrK (hK : xK K E own cc Lw nL rf rc rs rl) {b n : Nat} {xs : Nat → Int32} {j z : Int} (hX : va_X b n xs K.2.2.2.2.1 K.2.2.2.2.1.heap) (hbl : b < K.2.2.2.2.1.heap.size) (hbA : ¬ E.2.2.1 ≤ b) (hn : n ≤ 3072) (q1 : 0 ≤ j) (q2 : j < n) (e : xs j.toNat = iI z) (hd : decode cc pc = .ok (.iaload, 1)) (kk : X K E (pc + 1) lv (.int (iI z) :: st) S g cells slots) : X K E pc lv (.int (iI j) :: .ref b :: st) S g cells slots := by
  intro H locs ls h1 h2 h3 h4 h5 h6
  refine va_sld (A := fun q => E.2.2.1 ≤ q) hK.1 hK.2.1 hX hbl hbA h5 (iI_in q1 q2 (by omega)) hd ?_
  rw [iI_clamp q1 (by omega), e]
  exact kk H locs ls h1 h2 h3 h4 h5 h6
theorem X_sclen (hK : xK K E own cc Lw nL rf rc rs rl) {b n : Nat} {xs : Nat → Int32} (hX : va_X b n xs K.2.2.2.2.1 K.2.2.2.2.1.heap) (hbl : b < K.2.2.2.2.1.heap.size) (hbA : ¬ E.2.2.1 ≤ b) (hd : decode cc pc = .ok (.arraylength, 1)) (kk : X K E (pc + 1) lv (.int (iI (n : Int)) :: st) S g cells slots) : X K E pc lv (.ref b :: st) S g cells slots := by
  intro H locs ls h1 h2 h3 h4 h5 h6
  refine va_slen (A := fun q => E.2.2.1 ≤ q) hK.1 hK.2.1 hX hbl hbA h5 hd ?_
  rw [← Int32.ofInt_eq_ofNat]
  exact kk H locs ls h1 h2 h3 h4 h5 h6
end XSR
def xLW : List (Nat × Nat) := [(5010, 0), (5010, 1), (5012, 0), (5004, 0), (5004, 1), (11000, 0), (5004, 2), (11100, 0), (5004, 3), (5004, 4), (11400, 0), (5004, 5), (5004, 6), (11500, 0), (5006, 0), (5000, 0), (5000, 1), (5006, 1), (5006, 2), (5006, 3), (5006, 4), (5006, 5), (5006, 6), (5006, 7), (5012, 1), (5012, 2), (5005, 0), (5005, 1), (5005, 2), (5005, 3), (5012, 3), (5012, 4), (5011, 0), (5011, 1), (5011, 2), (5011, 3), (5011, 4), (5011, 5), (5011, 6), (5011, 7), (5012, 5), (5008, 0), (5008, 1), (5008, 2), (5008, 3), (5008, 4), (5008, 5), (5008, 6), (5012, 6), (5012, 7), (5003, 0), (5003, 1), (5003, 2), (5003, 3), (5012, 8), (5009, 0), (5009, 1), (5009, 2), (5009, 3), (5009, 4), (5009, 5), (5012, 9), (5007, 0), (5007, 1), (5007, 2), (5007, 3), (5007, 4), (5007, 5), (5007, 6), (5007, 7), (5007, 8), (5007, 9), (5012, 10), (5012, 11), (5012, 12), (5012, 13), (5012, 14), (5012, 15), (5012, 16), (5012, 17), (5013, 1), (5013, 4), (5013, 5), (5013, 6), (5013, 7), (5013, 8), (14600, 0), (5013, 9), (5013, 10), (5013, 11), (5013, 12), (15000, 0), (5013, 13), (15100, 0), (5013, 14), (5013, 15), (5013, 29), (5013, 30), (5013, 31), (5013, 32), (5013, 33), (5013, 34), (5013, 35), (5013, 36), (5013, 37), (5013, 38), (5013, 45), (5013, 46), (5013, 47), (5013, 48), (5013, 49), (5013, 50), (5013, 51), (5013, 52), (5013, 53), (5013, 54), (5013, 55), (5013, 56), (5013, 57), (5013, 59), (5013, 60), (5013, 61), (5013, 62), (5013, 63), (5013, 64), (5013, 65), (5013, 66), (5013, 67), (5013, 68), (5013, 71), (5013, 72), (5013, 73), (5013, 74), (5013, 75), (5013, 76), (5013, 77), (5013, 80), (5013, 81), (5013, 82), (5013, 83), (5013, 84), (5013, 85), (5013, 86), (5013, 89), (5013, 90), (13500, 0), (10, 1), (13, 0), (14100, 0), (13, 2), (5001, 5), (5001, 0), (5001, 1), (5001, 2), (5001, 4), (5001, 3), (0, 0), (0, 1), (0, 2), (10103, 0), (14200, 0), (19301, 0), (14300, 0), (14400, 0), (13, 16), (1, 4), (10700, 0), (14700, 0), (13, 17), (10800, 0), (14800, 0), (11200, 0), (14900, 0), (13, 18), (15200, 0), (12900, 0), (13000, 0), (8, 2), (8, 3), (8, 4), (8, 5), (8, 6), (11, 1), (11, 2), (14000, 0), (13600, 0), (13700, 0), (13800, 0), (13900, 0), (12, 13), (11, 0), (300, 0), (300, 1), (300, 2), (10303, 0), (12, 7), (13, 19), (13, 25), (13, 27), (13, 40), (13, 41), (13, 43), (13, 44), (13, 20), (13, 21), (13, 28), (13, 23), (13, 22), (13, 24), (15300, 0), (13, 26), (15500, 0), (15600, 0), (15700, 0), (15800, 0), (13, 42), (15900, 0), (16000, 0), (16100, 0), (16200, 0), (15400, 0), (13, 39), (5002, 7), (5002, 8), (5002, 9), (5002, 10), (5002, 0), (5002, 1), (5002, 2), (5002, 3), (5002, 4), (5002, 5), (5002, 6), (12000, 0), (2, 7), (1, 5), (100, 0), (100, 1), (100, 2), (10203, 0), (16300, 0), (13, 47), (19401, 0), (14500, 0), (16400, 0), (16500, 0), (16600, 0), (16700, 0), (16800, 0), (16900, 0), (17000, 0), (13, 58), (12, 14), (13, 59), (6, 5), (6, 6), (6, 7), (200, 0), (200, 2), (10403, 0), (200, 1), (2, 8), (2, 9), (2, 10), (12, 12), (19501, 0), (17400, 0), (17500, 0), (19601, 0), (13, 3), (17100, 0), (17200, 0), (17300, 0), (12802, 0), (11700, 0), (11800, 0), (11900, 0), (5, 3), (17600, 0), (17700, 0), (17800, 0), (17900, 0), (18000, 0), (13, 69), (3, 2), (10500, 0), (10600, 0), (3, 3), (13, 70), (12, 15), (13, 71), (7, 0), (12100, 0), (12200, 0), (12600, 0), (7, 9), (12500, 0), (12300, 0), (12, 10), (12, 11), (12400, 0), (12701, 0), (18600, 0), (18700, 0), (18100, 0), (18200, 0), (19701, 0), (18300, 0), (18500, 0), (13, 78), (13, 79), (18400, 0), (9, 4), (13100, 0), (13200, 0), (9, 3), (13400, 0), (9, 5), (13300, 0), (19100, 0), (19200, 0), (19000, 0), (13, 87), (13, 88), (18800, 0), (18900, 0), (12, 16), (12, 17), (13, 89), (13, 90)]
set_option maxHeartbeats 16000000 in
set_option maxRecDepth 100000 in
theorem law_X {K : xCx} {E : xEn} {b L : Nat} {xs : Nat → Int32} {S : xT} {g : xG} (hst : K.2.1.stackTraces = false) (hK : xK K E RL cL_law xLW 7 2048 601024 7293034 84000) (hts : ∀ w ∈ lw_tbl, w.before K.2.2.2.2.2.2.1 K.2.2.2.2.1 = true) (hT : tsr (fun q => E.2.2.1 ≤ q) K.2.2.2.2.1 K.2.2.2.2.1.heap) (hp3 : xP3 K.2.2.2.2.1) (hret : ∀ (pc : Nat) (lv : List (Nat × Value)) (S1 : xT) (g1 : xG) (cells slots : Nat), decode cL_law pc = .ok (.ireturn, 1) → cells ≤ 601024 → slots ≤ 7293034 → X K E pc lv [.int (iI 1)] S1 g1 cells slots) (hL : L ≤ 3072) (hX : va_X b L xs K.2.2.2.2.1 K.2.2.2.2.1.heap) (hbl : b < K.2.2.2.2.1.heap.size) (hbA : ¬ E.2.2.1 ≤ b) (hem : S (E.2.2.2.2.2.2.2 0) = some (20003, 0)) (hab : xAb S) (hsi : xSi S E.2.2.2.2.2.2.2) : X K E 0 [(0, .ref b)] [] S g 0 0 := by
  refine X_new hK nw_L_8 (by omega) (by omega) dL_law_0 (fun b1 S2 g3 zb1 nb1 hSb1 hg3 qb1 hs_b1 => ?_)
  have A4 : xLs S2 g3 := xLs_al (xAb.ls hab) (hg3 ▸ xM_new (L := []) xM.rf nb1) rfl qb1 (xNw2.one hSb1) (by decide)
  refine X_dup hK dL_law_3 rfl ?_
  refine X_callIU hK [] [.ref b1] li_L_19 (c_X11_init _ _ _ _ _ S2 g3 b1 hs_b1 (xSi.nw hsi (xNw2.one hSb1) (by decide)) (fun a9 t9 n9 h9 => ((xNw2.tr xNw2.rf (hSb1 ▸ xNw2.set (by decide)) (fun _ h => h)) a9 t9 n9 h9).elim (hab a9 t9 n9) (fun q9 => (show ∀ t8 ∈ [5012], t8 ≠ 0 ∧ t8 ≠ 100 ∧ t8 ≠ 200 ∧ t8 ≠ 300 by decide) t9 q9)) (qb1 _ _ hem)) dL_law_4 rfl rfl (by simp [Value.category]) (by decide) (by omega) (by omega) (by decide) (fun r5 S7 g6 dcr5 dsr5 pr5 qr5 hg6 => ?_)
  obtain ⟨wr5, rfl, k8, k9, k10, k11, k12, k13, k14, k15, k16, k17, k18⟩ := pr5
  refine X_st [.ref b1] rfl ?_
  obtain ⟨b19, eb19, hs_b19, yb19⟩ := k15
  obtain ⟨b20, b21, b22, b23, eb20, hs_b20, zb20, eb21, hs_b21, zb21, eb22, hs_b22, zb22, eb23, hs_b23, zb23⟩ := yb19
  refine X_seal (ci := 12) zb1 (qr5 _ _ hs_b1) (by decide) k18 (fun a9 t9 n9 k9 _ _ _ c9 h9 => Or.inr (h9 ▸ xsl_raw t9 k9 (by omega))) (fun k9 => xsl_raw _ k9 (by omega)) (fun S24 hSy25 hs_y25 hoy25 => ?_)
  have hk26 := (xhs_seal hoy25 (qr5 _ _ hs_b1) (qr5 _ _ (qb1 _ _ hem)) (by decide))
  have hk27 := (xhs_seal hoy25 (qr5 _ _ hs_b1) hs_b19 (by decide))
  have hk28 := (xhs_seal hoy25 (qr5 _ _ hs_b1) hs_b20 (by decide))
  have hk29 := (xhs_seal hoy25 (qr5 _ _ hs_b1) hs_b21 (by decide))
  have hk30 := (xhs_seal hoy25 (qr5 _ _ hs_b1) hs_b22 (by decide))
  have hk31 := (xhs_seal hoy25 (qr5 _ _ hs_b1) hs_b23 (by decide))
  have pi32 : xPi S24 g6 b1 := xPi_of k11 (qr5 _ _ hs_b1) hSy25
  have pk9 : xPA S24 g6 b1 := xPA_of k12 (qr5 _ _ hs_b1) hSy25
  obtain ⟨b33, eb33, hs_b33, fb33⟩ := k17
  obtain ⟨b34, b35, b36, eb34, hs_b34, fb34, eb35, hs_b35, eb36, hs_b36, fb36, fb35⟩ := k16
  refine X_astoren hK (i := 1) [(1, .ref b1), (0, .ref b)] dL_law_7 rfl (by decide) rfl ?_
  refine X_new hK nw_L_20 (by omega) (by omega) dL_law_8 (fun b37 S38 g39 zb37 nb37 hSb37 hg39 qb37 hs_b37 => ?_)
  have A40 : xLs S38 g39 := xLs_al (xLs_seal k8 (qr5 _ _ hs_b1) hSy25 (by decide) (by decide)) (hg39 ▸ xM_new (L := []) xM.rf nb37) rfl qb37 (xNw2.one hSb37) (by decide)
  have hk41 := (qb37 _ _ (xhs_seal hoy25 (qr5 _ _ hs_b1) hs_b33 (by decide)))
  have hk42 := (qb37 _ _ (xhs_seal hoy25 (qr5 _ _ hs_b1) hs_b34 (by decide)))
  have hk43 := (qb37 _ _ (xhs_seal hoy25 (qr5 _ _ hs_b1) hs_b35 (by decide)))
  have hk44 := (qb37 _ _ (xhs_seal hoy25 (qr5 _ _ hs_b1) hs_b36 (by decide)))
  refine X_dup hK dL_law_11 rfl ?_
  refine X_callIU hK [] [.ref b37] li_L_22 (c_X12_init _ _ _ _ _ S38 g39 b37 hs_b37 (by rw [hg39, xrow_s]; rfl) (by rw [hg39, xrow_s]; rfl) (by rw [hg39, xrow_s]; rfl) (by rw [hg39, xrow_s]; rfl) (by rw [hg39, xrow_s]; rfl) (by rw [hg39, xrow_s]; rfl) (by rw [hg39, xrow_s]; rfl) (by rw [hg39, xrow_s]; rfl) (by rw [hg39, xrow_s]; rfl) (by rw [hg39, xrow_s]; rfl) (by rw [hg39, xrow_s]; rfl) (by rw [hg39, xrow_s]; rfl) (by rw [hg39, xrow_s]; rfl) (by rw [hg39, xrow_s]; rfl) (by rw [hg39, xrow_s]; rfl) (by rw [hg39, xrow_s]; rfl) (by rw [hg39, xrow_s]; rfl) (by rw [hg39, xrow_s]; rfl) (by rw [hg39, xrow_s]; rfl) (by rw [hg39, xrow_s]; rfl) (by rw [hg39, xrow_s]; rfl) (by rw [hg39, xrow_s]; rfl) (by rw [hg39, xrow_s]; rfl) (by rw [hg39, xrow_s]; rfl) (by rw [hg39, xrow_s]; rfl) (by rw [hg39, xrow_s]; rfl) (by rw [hg39, xrow_s]; rfl) (by rw [hg39, xrow_s]; rfl) (by rw [hg39, xrow_s]; rfl)) dL_law_12 rfl rfl (by simp [Value.category]) (by decide) (by omega) (by omega) (by decide) (fun r45 S47 g46 dcr45 dsr45 pr45 qr45 hg46 => ?_)
  obtain ⟨wr45, rfl, k48, k49, k50, k51, k52, k53, k54, k55, k56, k57, k58⟩ := pr45
  have A59 : xLs S47 g46 := xLs_al A40 hg46 (by decide) qr45 wr45 (by decide)
  refine X_st [.ref b37] rfl ?_
  obtain ⟨b60, b61, b62, eb60, hs_b60, zb60, eb61, hs_b61, zb61, eb62, hs_b62, zb62⟩ := k55
  refine X_seal (ci := 13) zb37 (qr45 _ _ hs_b37) (by decide) k58 (fun a9 t9 n9 k9 _ _ _ c9 h9 => Or.inr (h9 ▸ xsl_raw t9 k9 (by omega))) (fun k9 => xsl_raw _ k9 (by omega)) (fun S63 hSy64 hs_y64 hoy64 => ?_)
  have hk65 := (xhs_seal hoy64 (qr45 _ _ hs_b37) (qr45 _ _ (qb37 _ _ hk26)) (by decide))
  have hk66 := (xhs_seal hoy64 (qr45 _ _ hs_b37) (qr45 _ _ (qb37 _ _ hs_y25)) (by decide))
  have hk67 := (xhs_seal hoy64 (qr45 _ _ hs_b37) (qr45 _ _ (qb37 _ _ hk27)) (by decide))
  have hk68 := (xhs_seal hoy64 (qr45 _ _ hs_b37) (qr45 _ _ (qb37 _ _ hk28)) (by decide))
  have hk69 := (xhs_seal hoy64 (qr45 _ _ hs_b37) (qr45 _ _ (qb37 _ _ hk29)) (by decide))
  have hk70 := (xhs_seal hoy64 (qr45 _ _ hs_b37) (qr45 _ _ (qb37 _ _ hk30)) (by decide))
  have hk71 := (xhs_seal hoy64 (qr45 _ _ hs_b37) (qr45 _ _ (qb37 _ _ hk31)) (by decide))
  have hk72 := (xhs_seal hoy64 (qr45 _ _ hs_b37) (qr45 _ _ hk41) (by decide))
  have hk73 := (xhs_seal hoy64 (qr45 _ _ hs_b37) (qr45 _ _ hk42) (by decide))
  have hk74 := (xhs_seal hoy64 (qr45 _ _ hs_b37) (qr45 _ _ hk43) (by decide))
  have hk75 := (xhs_seal hoy64 (qr45 _ _ hs_b37) (qr45 _ _ hk44) (by decide))
  have hk76 := (xhs_seal hoy64 (qr45 _ _ hs_b37) hs_b60 (by decide))
  have hk77 := (xhs_seal hoy64 (qr45 _ _ hs_b37) hs_b61 (by decide))
  have hk78 := (xhs_seal hoy64 (qr45 _ _ hs_b37) hs_b62 (by decide))
  have pi79 : xPi S63 g46 b1 := xPi_seal (xPi_m (xPi_m pi32 (hg39 ▸ xM_new (L := []) xM.rf nb37) qb37 (by decide)) hg46 qr45 (by decide)) (qr45 _ _ hs_b37) hSy64 (by decide)
  have pw8 : xPw S63 g46 b1 b37 := xPw_of k57 (xPA_m (xPA_m pk9 (hg39 ▸ xM_new (L := []) xM.rf nb37) qb37 (by decide)) hg46 qr45 (by decide)) (qr45 _ _ hs_b37) hSy64
  have mm80 := xMj.mp k56 (qr45 _ _ hs_b37) hSy64
  have tmm80 := k56.1
  refine X_knowr 13500 420 hk72 (by decide) sl_10_0 (fun b81 eb81 hs_b81 => ?_)
  refine X_knowr 14100 420 hs_y64 (by decide) sl_13_1 (fun b82 eb82 hs_b82 => ?_)
  refine X_knowr 14700 400 hs_y64 (by decide) sl_13_10 (fun b83 eb83 hs_b83 => ?_)
  refine X_astoren hK (i := 2) [(2, .ref b37), (1, .ref b1), (0, .ref b)] dL_law_15 rfl (by decide) rfl ?_
  refine X_iconst hK dL_law_16 ?_
  refine X_newa hK (ty := .long) 12802 2 (.long 0) rfl (fun _ => rfl) rfl (by decide) m_1_6 (by omega) ⟨by show _ * 8 ≤ _; omega, by omega⟩ (by omega) (by omega) (fun _ _ h9 => h9) (fun S9 k9 => by rw [sl_12802]; exact ⟨0, rfl⟩) dL_law_17 (fun b84 S85 g86 zb84 nb84 hSb84 hg86 qb84 hs_b84 => ?_)
  have A87 : xLs S85 g86 := xLs_al (xLs_seal A59 (qr45 _ _ hs_b37) hSy64 (by decide) (by decide)) (hg86 ▸ xM_new (L := []) xM.rf nb84) rfl qb84 (xNw2.one hSb84) (by decide)
  refine X_astoren hK (i := 3) [(3, .ref b84), (2, .ref b37), (1, .ref b1), (0, .ref b)] dL_law_19 rfl (by decide) rfl ?_
  refine X_iconst hK dL_law_20 ?_
  refine X_istore hK (i := 4) [(4, .int (iI 0)), (3, .ref b84), (2, .ref b37), (1, .ref b1), (0, .ref b)] dL_law_21 (by decide) rfl ?_
  have P9 : ∀ (n9 : Nat) (S88 : xT) (qS88 : xLe S85 S88) (g89 : xG) (i9 k9 t9 c9 b9 sh9 sp9 sm9 : Int) (hi9 : 0 ≤ i9 ∧ i9 ≤ 3072) (hk9 : 0 ≤ k9 ∧ k9 ≤ 420) (ht9 : 0 ≤ t9 ∧ t9 ≤ 400) (hc9 : 0 ≤ c9 ∧ c9 ≤ 60) (hb9 : 0 ≤ b9 ∧ b9 ≤ 40) (hsh9 : -2147483648 ≤ sh9 ∧ sh9 ≤ 2147483647) (hsp9 : -2147483648 ≤ sp9 ∧ sp9 ≤ 2147483647) (hsm9 : 0 ≤ sm9 ∧ sm9 ≤ 400) (al9 : xLs S88 g89) (si9 : xSi S88 E.2.2.2.2.2.2.2) (pi9 : xPi S88 g89 b1) (mp9 : xMp S88 g89 b37) (tw9 : xTw S88 g89 b37) (pw9 : xPw S88 g89 b1 b37) (el09 : g89 b1 0 = .ref b33) (el19 : g89 b1 3 = .ref b34) (el29 : g89 b1 1 = .ref b35) (el39 : g89 b35 1 = .ref b36) (el49 : g89 b1 2 = .ref b19) (el59 : g89 b19 0 = .ref b20) (el69 : g89 b19 2 = .ref b21) (el79 : g89 b19 3 = .ref b22) (el89 : g89 b19 4 = .ref b23) (el99 : g89 b33 0 = .ref b81) (el109 : g89 b37 1 = .ref b82) (el119 : g89 b37 10 = .ref b83) (el129 : g89 b37 13 = .ref b60) (el139 : g89 b37 14 = .ref b61) (el149 : g89 b37 12 = .ref b62) (exk9 : g89 b33 1 = .int (iI k9)) (emk9 : g89 b37 2 = .int (iI k9)) (ext9 : g89 b1 12 = .int (iI t9)) (emt9 : g89 b37 3 = .int (iI t9)) (exc9 : g89 b34 3 = .int (iI c9)) (emc9 : g89 b37 69 = .int (iI c9)) (exb9 : g89 b36 2 = .int (iI b9)) (emb9 : g89 b37 16 = .int (iI b9)) (exsh9 : g89 b1 16 = .int (iI sh9)) (emsh9 : g89 b37 89 = .int (iI sh9)) (exsp9 : g89 b1 17 = .int (iI sp9)) (emsp9 : g89 b37 90 = .int (iI sp9)) (emsm9 : g89 b37 17 = .int (iI sm9)) (wn9 : xWn S88 g89 b23 b62) (wt9 : xTc (xv g89 b21) (xv g89 b60) 4) (ld9 : xTc (xv g89 b22) (xv g89 b61) 6) (sk9 : xSm (xv g89 b20) (xv g89 b83) sm9) (tc9 : xTc (xv g89 b81) (xv g89 b82) k9) (dc9 ds9 : Nat) (hdc9 : (dc9 : Int) ≤ 200 + 4 * i9) (hds9 : (ds9 : Int) ≤ 20000 + 1000 * i9) (hm9 : 4000 - i9 < (n9 : Int)), X K E 23 [(4, .int (iI i9)), (3, .ref b84), (2, .ref b37), (1, .ref b1), (0, .ref b)] [] S88 g89 dc9 ds9 := by
    intro n9
    induction n9 with
    | zero => intro S88 qS88 g89 i9 k9 t9 c9 b9 sh9 sp9 sm9 hi9 hk9 ht9 hc9 hb9 hsh9 hsp9 hsm9 al9 si9 pi9 mp9 tw9 pw9 el09 el19 el29 el39 el49 el59 el69 el79 el89 el99 el109 el119 el129 el139 el149 exk9 emk9 ext9 emt9 exc9 emc9 exb9 emb9 exsh9 emsh9 exsp9 emsp9 emsm9 wn9 wt9 ld9 sk9 tc9 dc9 ds9 hdc9 hds9 hm9; exact False.elim (by omega)
    | succ n9 ih9 =>
      intro S88 qS88 g89 i9 k9 t9 c9 b9 sh9 sp9 sm9 hi9 hk9 ht9 hc9 hb9 hsh9 hsp9 hsm9 al9 si9 pi9 mp9 tw9 pw9 el09 el19 el29 el39 el49 el59 el69 el79 el89 el99 el109 el119 el129 el139 el149 exk9 emk9 ext9 emt9 exc9 emc9 exb9 emb9 exsh9 emsh9 exsp9 emsp9 emsm9 wn9 wt9 ld9 sk9 tc9 dc9 ds9 hdc9 hds9 hm9
      obtain ⟨np9, Gp9, Mp9, Cp9, Gm9, Mm9, Cm9, pa9, ma9, lk9⟩ := id pw9
      refine X_iload hK (i := 4) 0 dL_law_23 rfl ?_
      refine X_aloadn hK (i := 0) 4 dL_law_25 rfl rfl ?_
      refine X_sclen hK hX hbl hbA dL_law_26 ?_
      refine X_bipush hK dL_law_27 (by decide) ?_
      refine X_isub hK dL_law_29 ?_
      refine X_icmp_gt hK 1471 (by omega) (by omega) dL_law_30 (by decide) (fun c90 => ?_) (fun c90 => ?_)
      · refine X_iconst hK dL_law_1471 ?_
        exact hret _ _ _ _ _ _ dL_law_1472 (by omega) (by omega)
      · refine X_aloadn hK (i := 0) 4 dL_law_33 rfl rfl ?_
        refine X_iload hK (i := 4) 0 dL_law_34 rfl ?_
        refine X_scr hK hX hbl hbA hL (by omega) (by omega) dL_law_36 (fun z91 ez91 lz91 uz91 => ?_)
        refine X_bipush hK dL_law_37 (by decide) ?_
        refine X_iand hK dL_law_39 (fun z92 ez92 lz92 uz92 => ?_)
        have bz92 := xandB ez92 ⟨lz92, uz92⟩ (by omega)
        rcases (show (z92 < 0 ∨ 34 < z92) ∨ z92 = 0 ∨ z92 = 1 ∨ z92 = 2 ∨ z92 = 3 ∨ z92 = 4 ∨ z92 = 5 ∨ z92 = 6 ∨ z92 = 7 ∨ z92 = 8 ∨ z92 = 9 ∨ z92 = 10 ∨ z92 = 11 ∨ z92 = 12 ∨ z92 = 13 ∨ z92 = 14 ∨ z92 = 15 ∨ z92 = 16 ∨ z92 = 17 ∨ z92 = 18 ∨ z92 = 19 ∨ z92 = 20 ∨ z92 = 21 ∨ z92 = 22 ∨ z92 = 23 ∨ z92 = 24 ∨ z92 = 25 ∨ z92 = 26 ∨ z92 = 27 ∨ z92 = 28 ∨ z92 = 29 ∨ z92 = 30 ∨ z92 = 31 ∨ z92 = 32 ∨ z92 = 33 ∨ z92 = 34 by omega) with c93 | c93 | c93 | c93 | c93 | c93 | c93 | c93 | c93 | c93 | c93 | c93 | c93 | c93 | c93 | c93 | c93 | c93 | c93 | c93 | c93 | c93 | c93 | c93 | c93 | c93 | c93 | c93 | c93 | c93 | c93 | c93 | c93 | c93 | c93 | c93
        · refine X_tableOut hK 1465 (by omega) c93 dL_law_40 (by decide) ?_
          refine X_iinc hK (i := 4) (z := i9) (n := 6) 0 [(4, .int (iI (i9 + 6))), (3, .ref b84), (2, .ref b37), (1, .ref b1), (0, .ref b)] dL_law_1465 rfl (by decide) rfl ?_
          refine X_goto hK 23 dL_law_1468 (by decide) ?_
          exact ih9 S88 qS88 g89 (i9 + 6) k9 t9 c9 b9 sh9 sp9 sm9 (by omega) (by omega) (by omega) (by omega) (by omega) (by omega) (by omega) (by omega) al9 si9 pi9 mp9 tw9 pw9 el09 el19 el29 el39 el49 el59 el69 el79 el89 el99 el109 el119 el129 el139 el149 exk9 emk9 ext9 emt9 exc9 emc9 exb9 emb9 exsh9 emsh9 exsp9 emsp9 emsm9 wn9 (by exact wt9) (by exact ld9) (by exact sk9) (by exact xTc.mono tc9 (by omega)) dc9 ds9 (by omega) (by omega) (by omega)
        · refine X_tableIn hK 196 0 (by decide) c93 (by decide) (by decide) dL_law_40 rfl (by decide) ?_
          refine X_aloadn hK (i := 1) 3 dL_law_196 rfl rfl ?_
          refine X_aloadn hK (i := 0) 4 dL_law_197 rfl rfl ?_
          refine X_iload hK (i := 4) 0 dL_law_198 rfl ?_
          refine X_iconst hK dL_law_200 ?_
          refine X_iadd hK dL_law_201 ?_
          refine X_scr hK hX hbl hbA hL (by omega) (by omega) dL_law_202 (fun z94 ez94 lz94 uz94 => ?_)
          refine X_aloadn hK (i := 0) 4 dL_law_203 rfl rfl ?_
          refine X_iload hK (i := 4) 0 dL_law_204 rfl ?_
          refine X_iconst hK dL_law_206 ?_
          refine X_iadd hK dL_law_207 ?_
          refine X_scr hK hX hbl hbA hL (by omega) (by omega) dL_law_208 (fun z95 ez95 lz95 uz95 => ?_)
          refine X_aloadn hK (i := 0) 4 dL_law_209 rfl rfl ?_
          refine X_iload hK (i := 4) 0 dL_law_210 rfl ?_
          refine X_iconst hK dL_law_212 ?_
          refine X_iadd hK dL_law_213 ?_
          refine X_scr hK hX hbl hbA hL (by omega) (by omega) dL_law_214 (fun z96 ez96 lz96 uz96 => ?_)
          refine X_aloadn hK (i := 0) 4 dL_law_215 rfl rfl ?_
          refine X_iload hK (i := 4) 0 dL_law_216 rfl ?_
          refine X_iconst hK dL_law_218 ?_
          refine X_iadd hK dL_law_219 ?_
          refine X_scr hK hX hbl hbA hL (by omega) (by omega) dL_law_220 (fun z97 ez97 lz97 uz97 => ?_)
          refine X_aloadn hK (i := 0) 4 dL_law_221 rfl rfl ?_
          refine X_iload hK (i := 4) 0 dL_law_222 rfl ?_
          refine X_iconst hK dL_law_224 ?_
          refine X_iadd hK dL_law_225 ?_
          refine X_scr hK hX hbl hbA hL (by omega) (by omega) dL_law_226 (fun z98 ez98 lz98 uz98 => ?_)
          refine X_callV hK [.int (iI z94), .int (iI z95), .int (iI z96), .int (iI z97), .int (iI z98)] [] lk_L_23 (c_X11_feed _ _ _ _ _ S88 g89 b1 z94 z95 z96 z97 z98 b33 k9 b81 (qS88 _ _ (qb84 _ _ hk66)) (by omega) (by omega) (by omega) (by omega) (by omega) el09 (qS88 _ _ (qb84 _ _ hk72)) (by omega) exk9 el99 (qS88 _ _ (qb84 _ _ hs_b81))) (qS88 _ _ (qb84 _ _ hk66)) ⟨by decide, rfl⟩ dL_law_227 rfl rfl (by simp [Value.category]) (by decide) (by omega) (by omega) (by decide) (fun r99 S101 g100 pr99 qr99 hg100 => ?_)
          obtain ⟨rfl, z102, rfl, lz102, uz102, k103, k104, k105⟩ := pr99
          refine X_st [.int (iI z102)] rfl ?_
          refine X_pop hK dL_law_230 rfl ?_
          refine X_aloadn hK (i := 2) 2 dL_law_231 rfl rfl ?_
          refine X_aloadn hK (i := 0) 4 dL_law_232 rfl rfl ?_
          refine X_iload hK (i := 4) 0 dL_law_233 rfl ?_
          refine X_iconst hK dL_law_235 ?_
          refine X_iadd hK dL_law_236 ?_
          refine X_scrK hK hX hbl hbA hL (by omega) (by omega) ez94 dL_law_237 ?_
          refine X_aloadn hK (i := 0) 4 dL_law_238 rfl rfl ?_
          refine X_iload hK (i := 4) 0 dL_law_239 rfl ?_
          refine X_iconst hK dL_law_241 ?_
          refine X_iadd hK dL_law_242 ?_
          refine X_scrK hK hX hbl hbA hL (by omega) (by omega) ez95 dL_law_243 ?_
          refine X_aloadn hK (i := 0) 4 dL_law_244 rfl rfl ?_
          refine X_iload hK (i := 4) 0 dL_law_245 rfl ?_
          refine X_iconst hK dL_law_247 ?_
          refine X_iadd hK dL_law_248 ?_
          refine X_scrK hK hX hbl hbA hL (by omega) (by omega) ez96 dL_law_249 ?_
          refine X_aloadn hK (i := 0) 4 dL_law_250 rfl rfl ?_
          refine X_iload hK (i := 4) 0 dL_law_251 rfl ?_
          refine X_iconst hK dL_law_253 ?_
          refine X_iadd hK dL_law_254 ?_
          refine X_scrK hK hX hbl hbA hL (by omega) (by omega) ez97 dL_law_255 ?_
          refine X_aloadn hK (i := 0) 4 dL_law_256 rfl rfl ?_
          refine X_iload hK (i := 4) 0 dL_law_257 rfl ?_
          refine X_iconst hK dL_law_259 ?_
          refine X_iadd hK dL_law_260 ?_
          refine X_scrK hK hX hbl hbA hL (by omega) (by omega) ez98 dL_law_261 ?_
          refine X_callV hK [.int (iI z94), .int (iI z95), .int (iI z96), .int (iI z97), .int (iI z98)] [] lk_L_27 (c_X12_feed _ _ _ _ _ S88 g100 b37 z94 z95 z96 z97 z98 k9 b82 (qS88 _ _ (qb84 _ _ hs_y64)) (by omega) (by omega) (by omega) (by omega) (by omega) (by omega) ((hg100 b37 13 0 2 (qS88 _ _ (qb84 _ _ hs_y64)) (by decide)).trans emk9) ((hg100 b37 13 0 1 (qS88 _ _ (qb84 _ _ hs_y64)) (by decide)).trans el109) (qS88 _ _ (qb84 _ _ hs_b82))) (qS88 _ _ (qb84 _ _ hs_y64)) ⟨by decide, rfl⟩ dL_law_262 rfl rfl (by simp [Value.category]) (by decide) (by omega) (by omega) (by decide) (fun r106 S108 g107 pr106 qr106 hg107 => ?_)
          obtain ⟨rfl, z109, rfl, lz109, uz109, k110, k111, k112⟩ := pr106
          refine X_st [.int (iI z109)] rfl ?_
          refine X_pop hK dL_law_265 rfl ?_
          refine X_goto hK 1465 dL_law_266 (by decide) ?_
          refine X_iinc hK (i := 4) (z := i9) (n := 6) 0 [(4, .int (iI (i9 + 6))), (3, .ref b84), (2, .ref b37), (1, .ref b1), (0, .ref b)] dL_law_1465 rfl (by decide) rfl ?_
          refine X_goto hK 23 dL_law_1468 (by decide) ?_
          exact ih9 S88 qS88 g107 (i9 + 6) (if k9 ≤ 400 then k9 + 20 else k9) t9 c9 b9 sh9 sp9 sm9 (by omega) (by first | omega | (split <;> omega)) (by omega) (by omega) (by omega) (by omega) (by omega) (by omega) (xLs_mod (xLs_mod al9 hg100 (by decide)) hg107 (by decide)) si9 (xPi_m (xPi_m pi9 hg100 xLe.rf (by decide)) hg107 xLe.rf (by decide)) (xMp_m (xMp_m mp9 hg100 xLe.rf (by decide)) hg107 xLe.rf (by decide)) (xTw_m (xTw_m tw9 hg100 xLe.rf (by decide)) hg107 xLe.rf (by decide)) (xPw_m (xPw_m pw9 hg100 xLe.rf (by decide)) hg107 xLe.rf (by decide)) ((hg107 b1 12 0 0 (qS88 _ _ (qb84 _ _ hk66)) (by decide)).trans ((hg100 b1 12 0 0 (qS88 _ _ (qb84 _ _ hk66)) (by decide)).trans el09)) ((hg107 b1 12 0 3 (qS88 _ _ (qb84 _ _ hk66)) (by decide)).trans ((hg100 b1 12 0 3 (qS88 _ _ (qb84 _ _ hk66)) (by decide)).trans el19)) ((hg107 b1 12 0 1 (qS88 _ _ (qb84 _ _ hk66)) (by decide)).trans ((hg100 b1 12 0 1 (qS88 _ _ (qb84 _ _ hk66)) (by decide)).trans el29)) ((hg107 b35 6 0 1 (qS88 _ _ (qb84 _ _ hk74)) (by decide)).trans ((hg100 b35 6 0 1 (qS88 _ _ (qb84 _ _ hk74)) (by decide)).trans el39)) ((hg107 b1 12 0 2 (qS88 _ _ (qb84 _ _ hk66)) (by decide)).trans ((hg100 b1 12 0 2 (qS88 _ _ (qb84 _ _ hk66)) (by decide)).trans el49)) ((hg107 b19 4 0 0 (qS88 _ _ (qb84 _ _ hk67)) (by decide)).trans ((hg100 b19 4 0 0 (qS88 _ _ (qb84 _ _ hk67)) (by decide)).trans el59)) ((hg107 b19 4 0 2 (qS88 _ _ (qb84 _ _ hk67)) (by decide)).trans ((hg100 b19 4 0 2 (qS88 _ _ (qb84 _ _ hk67)) (by decide)).trans el69)) ((hg107 b19 4 0 3 (qS88 _ _ (qb84 _ _ hk67)) (by decide)).trans ((hg100 b19 4 0 3 (qS88 _ _ (qb84 _ _ hk67)) (by decide)).trans el79)) ((hg107 b19 4 0 4 (qS88 _ _ (qb84 _ _ hk67)) (by decide)).trans ((hg100 b19 4 0 4 (qS88 _ _ (qb84 _ _ hk67)) (by decide)).trans el89)) ((hg107 b33 10 0 0 (qS88 _ _ (qb84 _ _ hk72)) (by decide)).trans ((hg100 b33 10 0 0 (qS88 _ _ (qb84 _ _ hk72)) (by decide)).trans el99)) ((hg107 b37 13 0 1 (qS88 _ _ (qb84 _ _ hs_y64)) (by decide)).trans ((hg100 b37 13 0 1 (qS88 _ _ (qb84 _ _ hs_y64)) (by decide)).trans el109)) ((hg107 b37 13 0 10 (qS88 _ _ (qb84 _ _ hs_y64)) (by decide)).trans ((hg100 b37 13 0 10 (qS88 _ _ (qb84 _ _ hs_y64)) (by decide)).trans el119)) ((hg107 b37 13 0 13 (qS88 _ _ (qb84 _ _ hs_y64)) (by decide)).trans ((hg100 b37 13 0 13 (qS88 _ _ (qb84 _ _ hs_y64)) (by decide)).trans el129)) ((hg107 b37 13 0 14 (qS88 _ _ (qb84 _ _ hs_y64)) (by decide)).trans ((hg100 b37 13 0 14 (qS88 _ _ (qb84 _ _ hs_y64)) (by decide)).trans el139)) ((hg107 b37 13 0 12 (qS88 _ _ (qb84 _ _ hs_y64)) (by decide)).trans ((hg100 b37 13 0 12 (qS88 _ _ (qb84 _ _ hs_y64)) (by decide)).trans el149)) ((hg107 b33 10 0 1 (qS88 _ _ (qb84 _ _ hk72)) (by decide)).trans k103) k110 ((hg107 b1 12 0 12 (qS88 _ _ (qb84 _ _ hk66)) (by decide)).trans ((hg100 b1 12 0 12 (qS88 _ _ (qb84 _ _ hk66)) (by decide)).trans ext9)) ((hg107 b37 13 0 3 (qS88 _ _ (qb84 _ _ hs_y64)) (by decide)).trans ((hg100 b37 13 0 3 (qS88 _ _ (qb84 _ _ hs_y64)) (by decide)).trans emt9)) ((hg107 b34 5 0 3 (qS88 _ _ (qb84 _ _ hk73)) (by decide)).trans ((hg100 b34 5 0 3 (qS88 _ _ (qb84 _ _ hk73)) (by decide)).trans exc9)) ((hg107 b37 13 0 69 (qS88 _ _ (qb84 _ _ hs_y64)) (by decide)).trans ((hg100 b37 13 0 69 (qS88 _ _ (qb84 _ _ hs_y64)) (by decide)).trans emc9)) ((hg107 b36 0 0 2 (qS88 _ _ (qb84 _ _ hk75)) (by decide)).trans ((hg100 b36 0 0 2 (qS88 _ _ (qb84 _ _ hk75)) (by decide)).trans exb9)) ((hg107 b37 13 0 16 (qS88 _ _ (qb84 _ _ hs_y64)) (by decide)).trans ((hg100 b37 13 0 16 (qS88 _ _ (qb84 _ _ hs_y64)) (by decide)).trans emb9)) ((hg107 b1 12 0 16 (qS88 _ _ (qb84 _ _ hk66)) (by decide)).trans ((hg100 b1 12 0 16 (qS88 _ _ (qb84 _ _ hk66)) (by decide)).trans exsh9)) ((hg107 b37 13 0 89 (qS88 _ _ (qb84 _ _ hs_y64)) (by decide)).trans ((hg100 b37 13 0 89 (qS88 _ _ (qb84 _ _ hs_y64)) (by decide)).trans emsh9)) ((hg107 b1 12 0 17 (qS88 _ _ (qb84 _ _ hk66)) (by decide)).trans ((hg100 b1 12 0 17 (qS88 _ _ (qb84 _ _ hk66)) (by decide)).trans exsp9)) ((hg107 b37 13 0 90 (qS88 _ _ (qb84 _ _ hs_y64)) (by decide)).trans ((hg100 b37 13 0 90 (qS88 _ _ (qb84 _ _ hs_y64)) (by decide)).trans emsp9)) ((hg107 b37 13 0 17 (qS88 _ _ (qb84 _ _ hs_y64)) (by decide)).trans ((hg100 b37 13 0 17 (qS88 _ _ (qb84 _ _ hs_y64)) (by decide)).trans emsm9)) (xWn.m (xWn.m wn9 (qS88 _ _ (qb84 _ _ hk71)) (qS88 _ _ (qb84 _ _ hk78)) hg100 xLe.rf (by decide)) (qS88 _ _ (qb84 _ _ hk71)) (qS88 _ _ (qb84 _ _ hk78)) hg107 xLe.rf (by decide)) (by rw [(Eq.trans (xv_m hg107 (qS88 _ _ (qb84 _ _ hk69)) (by decide) (by decide)) (xv_m hg100 (qS88 _ _ (qb84 _ _ hk69)) (by decide) (by decide))), (Eq.trans (xv_m hg107 (qS88 _ _ (qb84 _ _ hk76)) (by decide) (by decide)) (xv_m hg100 (qS88 _ _ (qb84 _ _ hk76)) (by decide) (by decide)))]; exact wt9) (by rw [(Eq.trans (xv_m hg107 (qS88 _ _ (qb84 _ _ hk70)) (by decide) (by decide)) (xv_m hg100 (qS88 _ _ (qb84 _ _ hk70)) (by decide) (by decide))), (Eq.trans (xv_m hg107 (qS88 _ _ (qb84 _ _ hk77)) (by decide) (by decide)) (xv_m hg100 (qS88 _ _ (qb84 _ _ hk77)) (by decide) (by decide)))]; exact ld9) (by rw [(Eq.trans (xv_m hg107 (qS88 _ _ (qb84 _ _ hk68)) (by decide) (by decide)) (xv_m hg100 (qS88 _ _ (qb84 _ _ hk68)) (by decide) (by decide))), (Eq.trans (xv_m hg107 (qS88 _ _ (qb84 _ _ hs_b83)) (by decide) (by decide)) (xv_m hg100 (qS88 _ _ (qb84 _ _ hs_b83)) (by decide) (by decide)))]; exact sk9) (by rw [(xv_m hg107 (qS88 _ _ (qb84 _ _ hs_b81)) (by decide) (by decide))]; exact xTc.feed tc9 k105 (by rw [← (xv_m hg100 (qS88 _ _ (qb84 _ _ hs_b82)) (by decide) (by decide))]; exact k112)) dc9 ds9 (by omega) (by omega) (by omega)
        · refine X_tableIn hK 269 1 (by decide) c93 (by decide) (by decide) dL_law_40 rfl (by decide) ?_
          refine X_aloadn hK (i := 1) 3 dL_law_269 rfl rfl ?_
          refine X_aloadn hK (i := 0) 4 dL_law_270 rfl rfl ?_
          refine X_iload hK (i := 4) 0 dL_law_271 rfl ?_
          refine X_iconst hK dL_law_273 ?_
          refine X_iadd hK dL_law_274 ?_
          refine X_scr hK hX hbl hbA hL (by omega) (by omega) dL_law_275 (fun z113 ez113 lz113 uz113 => ?_)
          refine X_callV hK [.int (iI z113)] [] lk_L_28 (c_X11_end _ _ _ _ _ S88 g89 b1 z113 b33 k9 (qS88 _ _ (qb84 _ _ hk66)) (by omega) el09 (qS88 _ _ (qb84 _ _ hk72)) (by omega) exk9) (qS88 _ _ (qb84 _ _ hk66)) ⟨by decide, rfl⟩ dL_law_276 rfl rfl (by simp [Value.category]) (by decide) (by omega) (by omega) (by decide) (fun r114 S116 g115 pr114 qr114 hg115 => ?_)
          obtain ⟨rfl, z117, rfl, lz117, uz117, k118, k119⟩ := pr114
          refine X_st [.int (iI z117)] rfl ?_
          refine X_pop hK dL_law_279 rfl ?_
          refine X_aloadn hK (i := 2) 2 dL_law_280 rfl rfl ?_
          refine X_aloadn hK (i := 0) 4 dL_law_281 rfl rfl ?_
          refine X_iload hK (i := 4) 0 dL_law_282 rfl ?_
          refine X_iconst hK dL_law_284 ?_
          refine X_iadd hK dL_law_285 ?_
          refine X_scrK hK hX hbl hbA hL (by omega) (by omega) ez113 dL_law_286 ?_
          refine X_callV hK [.int (iI z113)] [] lk_L_32 (c_X12_end _ _ _ _ _ S88 g115 b37 z113 k9 (qS88 _ _ (qb84 _ _ hs_y64)) (by omega) (by omega) ((hg115 b37 13 0 2 (qS88 _ _ (qb84 _ _ hs_y64)) (by decide)).trans emk9)) (qS88 _ _ (qb84 _ _ hs_y64)) ⟨by decide, rfl⟩ dL_law_287 rfl rfl (by simp [Value.category]) (by decide) (by omega) (by omega) (by decide) (fun r120 S122 g121 pr120 qr120 hg121 => ?_)
          obtain ⟨rfl, z123, rfl, lz123, uz123, k124, k125⟩ := pr120
          refine X_st [.int (iI z123)] rfl ?_
          refine X_pop hK dL_law_290 rfl ?_
          refine X_goto hK 1465 dL_law_291 (by decide) ?_
          refine X_iinc hK (i := 4) (z := i9) (n := 6) 0 [(4, .int (iI (i9 + 6))), (3, .ref b84), (2, .ref b37), (1, .ref b1), (0, .ref b)] dL_law_1465 rfl (by decide) rfl ?_
          refine X_goto hK 23 dL_law_1468 (by decide) ?_
          exact ih9 S88 qS88 g121 (i9 + 6) (if 0 ≤ z113 ∧ z113 ≤ k9 then z113 else k9) t9 c9 b9 sh9 sp9 sm9 (by omega) (by first | omega | (split <;> omega)) (by omega) (by omega) (by omega) (by omega) (by omega) (by omega) (xLs_mod (xLs_mod al9 hg115 (by decide)) hg121 (by decide)) si9 (xPi_m (xPi_m pi9 hg115 xLe.rf (by decide)) hg121 xLe.rf (by decide)) (xMp_m (xMp_m mp9 hg115 xLe.rf (by decide)) hg121 xLe.rf (by decide)) (xTw_m (xTw_m tw9 hg115 xLe.rf (by decide)) hg121 xLe.rf (by decide)) (xPw_m (xPw_m pw9 hg115 xLe.rf (by decide)) hg121 xLe.rf (by decide)) ((hg121 b1 12 0 0 (qS88 _ _ (qb84 _ _ hk66)) (by decide)).trans ((hg115 b1 12 0 0 (qS88 _ _ (qb84 _ _ hk66)) (by decide)).trans el09)) ((hg121 b1 12 0 3 (qS88 _ _ (qb84 _ _ hk66)) (by decide)).trans ((hg115 b1 12 0 3 (qS88 _ _ (qb84 _ _ hk66)) (by decide)).trans el19)) ((hg121 b1 12 0 1 (qS88 _ _ (qb84 _ _ hk66)) (by decide)).trans ((hg115 b1 12 0 1 (qS88 _ _ (qb84 _ _ hk66)) (by decide)).trans el29)) ((hg121 b35 6 0 1 (qS88 _ _ (qb84 _ _ hk74)) (by decide)).trans ((hg115 b35 6 0 1 (qS88 _ _ (qb84 _ _ hk74)) (by decide)).trans el39)) ((hg121 b1 12 0 2 (qS88 _ _ (qb84 _ _ hk66)) (by decide)).trans ((hg115 b1 12 0 2 (qS88 _ _ (qb84 _ _ hk66)) (by decide)).trans el49)) ((hg121 b19 4 0 0 (qS88 _ _ (qb84 _ _ hk67)) (by decide)).trans ((hg115 b19 4 0 0 (qS88 _ _ (qb84 _ _ hk67)) (by decide)).trans el59)) ((hg121 b19 4 0 2 (qS88 _ _ (qb84 _ _ hk67)) (by decide)).trans ((hg115 b19 4 0 2 (qS88 _ _ (qb84 _ _ hk67)) (by decide)).trans el69)) ((hg121 b19 4 0 3 (qS88 _ _ (qb84 _ _ hk67)) (by decide)).trans ((hg115 b19 4 0 3 (qS88 _ _ (qb84 _ _ hk67)) (by decide)).trans el79)) ((hg121 b19 4 0 4 (qS88 _ _ (qb84 _ _ hk67)) (by decide)).trans ((hg115 b19 4 0 4 (qS88 _ _ (qb84 _ _ hk67)) (by decide)).trans el89)) ((hg121 b33 10 0 0 (qS88 _ _ (qb84 _ _ hk72)) (by decide)).trans ((hg115 b33 10 0 0 (qS88 _ _ (qb84 _ _ hk72)) (by decide)).trans el99)) ((hg121 b37 13 0 1 (qS88 _ _ (qb84 _ _ hs_y64)) (by decide)).trans ((hg115 b37 13 0 1 (qS88 _ _ (qb84 _ _ hs_y64)) (by decide)).trans el109)) ((hg121 b37 13 0 10 (qS88 _ _ (qb84 _ _ hs_y64)) (by decide)).trans ((hg115 b37 13 0 10 (qS88 _ _ (qb84 _ _ hs_y64)) (by decide)).trans el119)) ((hg121 b37 13 0 13 (qS88 _ _ (qb84 _ _ hs_y64)) (by decide)).trans ((hg115 b37 13 0 13 (qS88 _ _ (qb84 _ _ hs_y64)) (by decide)).trans el129)) ((hg121 b37 13 0 14 (qS88 _ _ (qb84 _ _ hs_y64)) (by decide)).trans ((hg115 b37 13 0 14 (qS88 _ _ (qb84 _ _ hs_y64)) (by decide)).trans el139)) ((hg121 b37 13 0 12 (qS88 _ _ (qb84 _ _ hs_y64)) (by decide)).trans ((hg115 b37 13 0 12 (qS88 _ _ (qb84 _ _ hs_y64)) (by decide)).trans el149)) ((hg121 b33 10 0 1 (qS88 _ _ (qb84 _ _ hk72)) (by decide)).trans k118) k124 ((hg121 b1 12 0 12 (qS88 _ _ (qb84 _ _ hk66)) (by decide)).trans ((hg115 b1 12 0 12 (qS88 _ _ (qb84 _ _ hk66)) (by decide)).trans ext9)) ((hg121 b37 13 0 3 (qS88 _ _ (qb84 _ _ hs_y64)) (by decide)).trans ((hg115 b37 13 0 3 (qS88 _ _ (qb84 _ _ hs_y64)) (by decide)).trans emt9)) ((hg121 b34 5 0 3 (qS88 _ _ (qb84 _ _ hk73)) (by decide)).trans ((hg115 b34 5 0 3 (qS88 _ _ (qb84 _ _ hk73)) (by decide)).trans exc9)) ((hg121 b37 13 0 69 (qS88 _ _ (qb84 _ _ hs_y64)) (by decide)).trans ((hg115 b37 13 0 69 (qS88 _ _ (qb84 _ _ hs_y64)) (by decide)).trans emc9)) ((hg121 b36 0 0 2 (qS88 _ _ (qb84 _ _ hk75)) (by decide)).trans ((hg115 b36 0 0 2 (qS88 _ _ (qb84 _ _ hk75)) (by decide)).trans exb9)) ((hg121 b37 13 0 16 (qS88 _ _ (qb84 _ _ hs_y64)) (by decide)).trans ((hg115 b37 13 0 16 (qS88 _ _ (qb84 _ _ hs_y64)) (by decide)).trans emb9)) ((hg121 b1 12 0 16 (qS88 _ _ (qb84 _ _ hk66)) (by decide)).trans ((hg115 b1 12 0 16 (qS88 _ _ (qb84 _ _ hk66)) (by decide)).trans exsh9)) ((hg121 b37 13 0 89 (qS88 _ _ (qb84 _ _ hs_y64)) (by decide)).trans ((hg115 b37 13 0 89 (qS88 _ _ (qb84 _ _ hs_y64)) (by decide)).trans emsh9)) ((hg121 b1 12 0 17 (qS88 _ _ (qb84 _ _ hk66)) (by decide)).trans ((hg115 b1 12 0 17 (qS88 _ _ (qb84 _ _ hk66)) (by decide)).trans exsp9)) ((hg121 b37 13 0 90 (qS88 _ _ (qb84 _ _ hs_y64)) (by decide)).trans ((hg115 b37 13 0 90 (qS88 _ _ (qb84 _ _ hs_y64)) (by decide)).trans emsp9)) ((hg121 b37 13 0 17 (qS88 _ _ (qb84 _ _ hs_y64)) (by decide)).trans ((hg115 b37 13 0 17 (qS88 _ _ (qb84 _ _ hs_y64)) (by decide)).trans emsm9)) (xWn.m (xWn.m wn9 (qS88 _ _ (qb84 _ _ hk71)) (qS88 _ _ (qb84 _ _ hk78)) hg115 xLe.rf (by decide)) (qS88 _ _ (qb84 _ _ hk71)) (qS88 _ _ (qb84 _ _ hk78)) hg121 xLe.rf (by decide)) (by rw [(Eq.trans (xv_m hg121 (qS88 _ _ (qb84 _ _ hk69)) (by decide) (by decide)) (xv_m hg115 (qS88 _ _ (qb84 _ _ hk69)) (by decide) (by decide))), (Eq.trans (xv_m hg121 (qS88 _ _ (qb84 _ _ hk76)) (by decide) (by decide)) (xv_m hg115 (qS88 _ _ (qb84 _ _ hk76)) (by decide) (by decide)))]; exact wt9) (by rw [(Eq.trans (xv_m hg121 (qS88 _ _ (qb84 _ _ hk70)) (by decide) (by decide)) (xv_m hg115 (qS88 _ _ (qb84 _ _ hk70)) (by decide) (by decide))), (Eq.trans (xv_m hg121 (qS88 _ _ (qb84 _ _ hk77)) (by decide) (by decide)) (xv_m hg115 (qS88 _ _ (qb84 _ _ hk77)) (by decide) (by decide)))]; exact ld9) (by rw [(Eq.trans (xv_m hg121 (qS88 _ _ (qb84 _ _ hk68)) (by decide) (by decide)) (xv_m hg115 (qS88 _ _ (qb84 _ _ hk68)) (by decide) (by decide))), (Eq.trans (xv_m hg121 (qS88 _ _ (qb84 _ _ hs_b83)) (by decide) (by decide)) (xv_m hg115 (qS88 _ _ (qb84 _ _ hs_b83)) (by decide) (by decide)))]; exact sk9) (by rw [(Eq.trans (xv_m hg121 (qS88 _ _ (qb84 _ _ hs_b81)) (by decide) (by decide)) (xv_m hg115 (qS88 _ _ (qb84 _ _ hs_b81)) (by decide) (by decide))), (Eq.trans (xv_m hg121 (qS88 _ _ (qb84 _ _ hs_b82)) (by decide) (by decide)) (xv_m hg115 (qS88 _ _ (qb84 _ _ hs_b82)) (by decide) (by decide)))]; exact xTc.mono tc9 (by omega)) dc9 ds9 (by omega) (by omega) (by omega)
        · refine X_tableIn hK 294 2 (by decide) c93 (by decide) (by decide) dL_law_40 rfl (by decide) ?_
          refine X_aloadn hK (i := 1) 3 dL_law_294 rfl rfl ?_
          refine X_aloadn hK (i := 0) 4 dL_law_295 rfl rfl ?_
          refine X_iload hK (i := 4) 0 dL_law_296 rfl ?_
          refine X_iconst hK dL_law_298 ?_
          refine X_iadd hK dL_law_299 ?_
          refine X_scr hK hX hbl hbA hL (by omega) (by omega) dL_law_300 (fun z126 ez126 lz126 uz126 => ?_)
          refine X_aloadn hK (i := 0) 4 dL_law_301 rfl rfl ?_
          refine X_iload hK (i := 4) 0 dL_law_302 rfl ?_
          refine X_iconst hK dL_law_304 ?_
          refine X_iadd hK dL_law_305 ?_
          refine X_scr hK hX hbl hbA hL (by omega) (by omega) dL_law_306 (fun z127 ez127 lz127 uz127 => ?_)
          refine X_if_eq hK 314 (by omega) dL_law_307 (by decide) (fun c128 => ?_) (fun c128 => ?_)
          · refine X_iconst hK dL_law_314 ?_
            refine X_aloadn hK (i := 0) 4 dL_law_315 rfl rfl ?_
            refine X_iload hK (i := 4) 0 dL_law_316 rfl ?_
            refine X_iconst hK dL_law_318 ?_
            refine X_iadd hK dL_law_319 ?_
            refine X_scr hK hX hbl hbA hL (by omega) (by omega) dL_law_320 (fun z129 ez129 lz129 uz129 => ?_)
            refine X_aloadn hK (i := 0) 4 dL_law_321 rfl rfl ?_
            refine X_iload hK (i := 4) 0 dL_law_322 rfl ?_
            refine X_iconst hK dL_law_324 ?_
            refine X_iadd hK dL_law_325 ?_
            refine X_scr hK hX hbl hbA hL (by omega) (by omega) dL_law_326 (fun z130 ez130 lz130 uz130 => ?_)
            refine X_callVU hK [.int (iI z126), .int (iI 0), .int (iI z129), .int (iI z130)] [] lk_L_33 (c_X11_boy _ _ _ _ _ S88 g89 b1 z126 0 z129 z130 b35 b36 b9 (qS88 _ _ (qb84 _ _ hk66)) (by omega) (by omega) (by omega) (by omega) el29 (qS88 _ _ (qb84 _ _ hk74)) el39 (qS88 _ _ (qb84 _ _ hk75)) (by omega) exb9 al9 si9) (qS88 _ _ (qb84 _ _ hk66)) ⟨by decide, rfl⟩ dL_law_327 rfl rfl (by simp [Value.category]) (by decide) (by omega) (by omega) (by decide) (fun r131 S133 g132 dcr131 dsr131 pr131 qr131 hg132 => ?_)
            obtain ⟨wr131, z134, rfl, lz134, uz134, k135, k136, k137, k138, k139⟩ := pr131
            refine X_st [.int (iI z134)] rfl ?_
            refine X_pop hK dL_law_330 rfl ?_
            refine X_aloadn hK (i := 2) 2 dL_law_331 rfl rfl ?_
            refine X_aloadn hK (i := 0) 4 dL_law_332 rfl rfl ?_
            refine X_iload hK (i := 4) 0 dL_law_333 rfl ?_
            refine X_iconst hK dL_law_335 ?_
            refine X_iadd hK dL_law_336 ?_
            refine X_scrK hK hX hbl hbA hL (by omega) (by omega) ez126 dL_law_337 ?_
            refine X_aloadn hK (i := 0) 4 dL_law_338 rfl rfl ?_
            refine X_iload hK (i := 4) 0 dL_law_339 rfl ?_
            refine X_iconst hK dL_law_341 ?_
            refine X_iadd hK dL_law_342 ?_
            refine X_scrK hK hX hbl hbA hL (by omega) (by omega) ez127 dL_law_343 ?_
            refine X_if_eq hK 351 (by omega) dL_law_344 (by decide) (fun c140 => ?_) (fun c140 => False.elim (by omega))
            refine X_iconst hK dL_law_351 ?_
            refine X_aloadn hK (i := 0) 4 dL_law_352 rfl rfl ?_
            refine X_iload hK (i := 4) 0 dL_law_353 rfl ?_
            refine X_iconst hK dL_law_355 ?_
            refine X_iadd hK dL_law_356 ?_
            refine X_scrK hK hX hbl hbA hL (by omega) (by omega) ez129 dL_law_357 ?_
            refine X_aloadn hK (i := 0) 4 dL_law_358 rfl rfl ?_
            refine X_iload hK (i := 4) 0 dL_law_359 rfl ?_
            refine X_iconst hK dL_law_361 ?_
            refine X_iadd hK dL_law_362 ?_
            refine X_scrK hK hX hbl hbA hL (by omega) (by omega) ez130 dL_law_363 ?_
            refine X_callV hK [.int (iI z126), .int (iI 0), .int (iI z129), .int (iI z130)] [] lk_L_37 (c_X12_boy _ _ _ _ _ S133 g132 b37 z126 0 z129 z130 b9 (qr131 _ _ (qS88 _ _ (qb84 _ _ hs_y64))) (by omega) (by omega) (by omega) (by omega) (by omega) ((hg132 b37 13 0 16 (qS88 _ _ (qb84 _ _ hs_y64)) (by decide)).trans emb9)) (qr131 _ _ (qS88 _ _ (qb84 _ _ hs_y64))) ⟨by decide, rfl⟩ dL_law_364 rfl rfl (by simp [Value.category]) (by decide) (by omega) (by omega) (by decide) (fun r141 S143 g142 pr141 qr141 hg142 => ?_)
            obtain ⟨rfl, z144, rfl, lz144, uz144, k145, k146⟩ := pr141
            refine X_st [.int (iI z144)] rfl ?_
            refine X_pop hK dL_law_367 rfl ?_
            refine X_goto hK 1465 dL_law_368 (by decide) ?_
            refine X_iinc hK (i := 4) (z := i9) (n := 6) 0 [(4, .int (iI (i9 + 6))), (3, .ref b84), (2, .ref b37), (1, .ref b1), (0, .ref b)] dL_law_1465 rfl (by decide) rfl ?_
            refine X_goto hK 23 dL_law_1468 (by decide) ?_
            exact ih9 S133 (xLe.tr qS88 qr131) g142 (i9 + 6) k9 t9 c9 (if b9 < 40 ∧ 6 ≤ z126 ∧ z126 ≤ 18 ∧ -1 ≤ z129 ∧ z129 ≤ 399 ∧ 0 ≤ z130 ∧ z130 ≤ 99 then b9 + 1 else b9) sh9 sp9 sm9 (by omega) (by omega) (by omega) (by omega) (by first | omega | (split <;> omega)) (by omega) (by omega) (by omega) (xLs_mod k135 hg142 (by decide)) k136 (xPi_m (xPi_m pi9 hg132 qr131 (by decide)) hg142 xLe.rf (by decide)) (xMp_m (xMp_m mp9 hg132 qr131 (by decide)) hg142 xLe.rf (by decide)) (xTw_m (xTw_m tw9 hg132 qr131 (by decide)) hg142 xLe.rf (by decide)) (xPw_m (xPw_m pw9 hg132 qr131 (by decide)) hg142 xLe.rf (by decide)) ((hg142 b1 12 0 0 (qr131 _ _ (qS88 _ _ (qb84 _ _ hk66))) (by decide)).trans ((hg132 b1 12 0 0 (qS88 _ _ (qb84 _ _ hk66)) (by decide)).trans el09)) ((hg142 b1 12 0 3 (qr131 _ _ (qS88 _ _ (qb84 _ _ hk66))) (by decide)).trans ((hg132 b1 12 0 3 (qS88 _ _ (qb84 _ _ hk66)) (by decide)).trans el19)) ((hg142 b1 12 0 1 (qr131 _ _ (qS88 _ _ (qb84 _ _ hk66))) (by decide)).trans ((hg132 b1 12 0 1 (qS88 _ _ (qb84 _ _ hk66)) (by decide)).trans el29)) ((hg142 b35 6 0 1 (qr131 _ _ (qS88 _ _ (qb84 _ _ hk74))) (by decide)).trans ((hg132 b35 6 0 1 (qS88 _ _ (qb84 _ _ hk74)) (by decide)).trans el39)) ((hg142 b1 12 0 2 (qr131 _ _ (qS88 _ _ (qb84 _ _ hk66))) (by decide)).trans ((hg132 b1 12 0 2 (qS88 _ _ (qb84 _ _ hk66)) (by decide)).trans el49)) ((hg142 b19 4 0 0 (qr131 _ _ (qS88 _ _ (qb84 _ _ hk67))) (by decide)).trans ((hg132 b19 4 0 0 (qS88 _ _ (qb84 _ _ hk67)) (by decide)).trans el59)) ((hg142 b19 4 0 2 (qr131 _ _ (qS88 _ _ (qb84 _ _ hk67))) (by decide)).trans ((hg132 b19 4 0 2 (qS88 _ _ (qb84 _ _ hk67)) (by decide)).trans el69)) ((hg142 b19 4 0 3 (qr131 _ _ (qS88 _ _ (qb84 _ _ hk67))) (by decide)).trans ((hg132 b19 4 0 3 (qS88 _ _ (qb84 _ _ hk67)) (by decide)).trans el79)) ((hg142 b19 4 0 4 (qr131 _ _ (qS88 _ _ (qb84 _ _ hk67))) (by decide)).trans ((hg132 b19 4 0 4 (qS88 _ _ (qb84 _ _ hk67)) (by decide)).trans el89)) ((hg142 b33 10 0 0 (qr131 _ _ (qS88 _ _ (qb84 _ _ hk72))) (by decide)).trans ((hg132 b33 10 0 0 (qS88 _ _ (qb84 _ _ hk72)) (by decide)).trans el99)) ((hg142 b37 13 0 1 (qr131 _ _ (qS88 _ _ (qb84 _ _ hs_y64))) (by decide)).trans ((hg132 b37 13 0 1 (qS88 _ _ (qb84 _ _ hs_y64)) (by decide)).trans el109)) ((hg142 b37 13 0 10 (qr131 _ _ (qS88 _ _ (qb84 _ _ hs_y64))) (by decide)).trans ((hg132 b37 13 0 10 (qS88 _ _ (qb84 _ _ hs_y64)) (by decide)).trans el119)) ((hg142 b37 13 0 13 (qr131 _ _ (qS88 _ _ (qb84 _ _ hs_y64))) (by decide)).trans ((hg132 b37 13 0 13 (qS88 _ _ (qb84 _ _ hs_y64)) (by decide)).trans el129)) ((hg142 b37 13 0 14 (qr131 _ _ (qS88 _ _ (qb84 _ _ hs_y64))) (by decide)).trans ((hg132 b37 13 0 14 (qS88 _ _ (qb84 _ _ hs_y64)) (by decide)).trans el139)) ((hg142 b37 13 0 12 (qr131 _ _ (qS88 _ _ (qb84 _ _ hs_y64))) (by decide)).trans ((hg132 b37 13 0 12 (qS88 _ _ (qb84 _ _ hs_y64)) (by decide)).trans el149)) ((hg142 b33 10 0 1 (qr131 _ _ (qS88 _ _ (qb84 _ _ hk72))) (by decide)).trans ((hg132 b33 10 0 1 (qS88 _ _ (qb84 _ _ hk72)) (by decide)).trans exk9)) ((hg142 b37 13 0 2 (qr131 _ _ (qS88 _ _ (qb84 _ _ hs_y64))) (by decide)).trans ((hg132 b37 13 0 2 (qS88 _ _ (qb84 _ _ hs_y64)) (by decide)).trans emk9)) ((hg142 b1 12 0 12 (qr131 _ _ (qS88 _ _ (qb84 _ _ hk66))) (by decide)).trans ((hg132 b1 12 0 12 (qS88 _ _ (qb84 _ _ hk66)) (by decide)).trans ext9)) ((hg142 b37 13 0 3 (qr131 _ _ (qS88 _ _ (qb84 _ _ hs_y64))) (by decide)).trans ((hg132 b37 13 0 3 (qS88 _ _ (qb84 _ _ hs_y64)) (by decide)).trans emt9)) ((hg142 b34 5 0 3 (qr131 _ _ (qS88 _ _ (qb84 _ _ hk73))) (by decide)).trans ((hg132 b34 5 0 3 (qS88 _ _ (qb84 _ _ hk73)) (by decide)).trans exc9)) ((hg142 b37 13 0 69 (qr131 _ _ (qS88 _ _ (qb84 _ _ hs_y64))) (by decide)).trans ((hg132 b37 13 0 69 (qS88 _ _ (qb84 _ _ hs_y64)) (by decide)).trans emc9)) ((hg142 b36 0 0 2 (qr131 _ _ (qS88 _ _ (qb84 _ _ hk75))) (by decide)).trans k139) k146 ((hg142 b1 12 0 16 (qr131 _ _ (qS88 _ _ (qb84 _ _ hk66))) (by decide)).trans ((hg132 b1 12 0 16 (qS88 _ _ (qb84 _ _ hk66)) (by decide)).trans exsh9)) ((hg142 b37 13 0 89 (qr131 _ _ (qS88 _ _ (qb84 _ _ hs_y64))) (by decide)).trans ((hg132 b37 13 0 89 (qS88 _ _ (qb84 _ _ hs_y64)) (by decide)).trans emsh9)) ((hg142 b1 12 0 17 (qr131 _ _ (qS88 _ _ (qb84 _ _ hk66))) (by decide)).trans ((hg132 b1 12 0 17 (qS88 _ _ (qb84 _ _ hk66)) (by decide)).trans exsp9)) ((hg142 b37 13 0 90 (qr131 _ _ (qS88 _ _ (qb84 _ _ hs_y64))) (by decide)).trans ((hg132 b37 13 0 90 (qS88 _ _ (qb84 _ _ hs_y64)) (by decide)).trans emsp9)) ((hg142 b37 13 0 17 (qr131 _ _ (qS88 _ _ (qb84 _ _ hs_y64))) (by decide)).trans ((hg132 b37 13 0 17 (qS88 _ _ (qb84 _ _ hs_y64)) (by decide)).trans emsm9)) (xWn.m (xWn.m wn9 (qS88 _ _ (qb84 _ _ hk71)) (qS88 _ _ (qb84 _ _ hk78)) hg132 qr131 (by decide)) (qr131 _ _ (qS88 _ _ (qb84 _ _ hk71))) (qr131 _ _ (qS88 _ _ (qb84 _ _ hk78))) hg142 xLe.rf (by decide)) (by rw [(Eq.trans (xv_m hg142 (qr131 _ _ (qS88 _ _ (qb84 _ _ hk69))) (by decide) (by decide)) (xv_m hg132 (qS88 _ _ (qb84 _ _ hk69)) (by decide) (by decide))), (Eq.trans (xv_m hg142 (qr131 _ _ (qS88 _ _ (qb84 _ _ hk76))) (by decide) (by decide)) (xv_m hg132 (qS88 _ _ (qb84 _ _ hk76)) (by decide) (by decide)))]; exact wt9) (by rw [(Eq.trans (xv_m hg142 (qr131 _ _ (qS88 _ _ (qb84 _ _ hk70))) (by decide) (by decide)) (xv_m hg132 (qS88 _ _ (qb84 _ _ hk70)) (by decide) (by decide))), (Eq.trans (xv_m hg142 (qr131 _ _ (qS88 _ _ (qb84 _ _ hk77))) (by decide) (by decide)) (xv_m hg132 (qS88 _ _ (qb84 _ _ hk77)) (by decide) (by decide)))]; exact ld9) (by rw [(Eq.trans (xv_m hg142 (qr131 _ _ (qS88 _ _ (qb84 _ _ hk68))) (by decide) (by decide)) (xv_m hg132 (qS88 _ _ (qb84 _ _ hk68)) (by decide) (by decide))), (Eq.trans (xv_m hg142 (qr131 _ _ (qS88 _ _ (qb84 _ _ hs_b83))) (by decide) (by decide)) (xv_m hg132 (qS88 _ _ (qb84 _ _ hs_b83)) (by decide) (by decide)))]; exact sk9) (by rw [(Eq.trans (xv_m hg142 (qr131 _ _ (qS88 _ _ (qb84 _ _ hs_b81))) (by decide) (by decide)) (xv_m hg132 (qS88 _ _ (qb84 _ _ hs_b81)) (by decide) (by decide))), (Eq.trans (xv_m hg142 (qr131 _ _ (qS88 _ _ (qb84 _ _ hs_b82))) (by decide) (by decide)) (xv_m hg132 (qS88 _ _ (qb84 _ _ hs_b82)) (by decide) (by decide)))]; exact xTc.mono tc9 (by omega)) (dc9 + dcr131) (ds9 + dsr131) (by omega) (by omega) (by omega)
          · refine X_iconst hK dL_law_310 ?_
            refine X_goto hK 315 dL_law_311 (by decide) ?_
            refine X_aloadn hK (i := 0) 4 dL_law_315 rfl rfl ?_
            refine X_iload hK (i := 4) 0 dL_law_316 rfl ?_
            refine X_iconst hK dL_law_318 ?_
            refine X_iadd hK dL_law_319 ?_
            refine X_scr hK hX hbl hbA hL (by omega) (by omega) dL_law_320 (fun z147 ez147 lz147 uz147 => ?_)
            refine X_aloadn hK (i := 0) 4 dL_law_321 rfl rfl ?_
            refine X_iload hK (i := 4) 0 dL_law_322 rfl ?_
            refine X_iconst hK dL_law_324 ?_
            refine X_iadd hK dL_law_325 ?_
            refine X_scr hK hX hbl hbA hL (by omega) (by omega) dL_law_326 (fun z148 ez148 lz148 uz148 => ?_)
            refine X_callVU hK [.int (iI z126), .int (iI 1), .int (iI z147), .int (iI z148)] [] lk_L_33 (c_X11_boy _ _ _ _ _ S88 g89 b1 z126 1 z147 z148 b35 b36 b9 (qS88 _ _ (qb84 _ _ hk66)) (by omega) (by omega) (by omega) (by omega) el29 (qS88 _ _ (qb84 _ _ hk74)) el39 (qS88 _ _ (qb84 _ _ hk75)) (by omega) exb9 al9 si9) (qS88 _ _ (qb84 _ _ hk66)) ⟨by decide, rfl⟩ dL_law_327 rfl rfl (by simp [Value.category]) (by decide) (by omega) (by omega) (by decide) (fun r149 S151 g150 dcr149 dsr149 pr149 qr149 hg150 => ?_)
            obtain ⟨wr149, z152, rfl, lz152, uz152, k153, k154, k155, k156, k157⟩ := pr149
            refine X_st [.int (iI z152)] rfl ?_
            refine X_pop hK dL_law_330 rfl ?_
            refine X_aloadn hK (i := 2) 2 dL_law_331 rfl rfl ?_
            refine X_aloadn hK (i := 0) 4 dL_law_332 rfl rfl ?_
            refine X_iload hK (i := 4) 0 dL_law_333 rfl ?_
            refine X_iconst hK dL_law_335 ?_
            refine X_iadd hK dL_law_336 ?_
            refine X_scrK hK hX hbl hbA hL (by omega) (by omega) ez126 dL_law_337 ?_
            refine X_aloadn hK (i := 0) 4 dL_law_338 rfl rfl ?_
            refine X_iload hK (i := 4) 0 dL_law_339 rfl ?_
            refine X_iconst hK dL_law_341 ?_
            refine X_iadd hK dL_law_342 ?_
            refine X_scrK hK hX hbl hbA hL (by omega) (by omega) ez127 dL_law_343 ?_
            refine X_if_eq hK 351 (by omega) dL_law_344 (by decide) (fun c158 => ?_) (fun c158 => ?_)
            · refine X_iconst hK dL_law_351 ?_
              refine X_aloadn hK (i := 0) 4 dL_law_352 rfl rfl ?_
              refine X_iload hK (i := 4) 0 dL_law_353 rfl ?_
              refine X_iconst hK dL_law_355 ?_
              refine X_iadd hK dL_law_356 ?_
              refine X_scrK hK hX hbl hbA hL (by omega) (by omega) ez147 dL_law_357 ?_
              refine X_aloadn hK (i := 0) 4 dL_law_358 rfl rfl ?_
              refine X_iload hK (i := 4) 0 dL_law_359 rfl ?_
              refine X_iconst hK dL_law_361 ?_
              refine X_iadd hK dL_law_362 ?_
              refine X_scrK hK hX hbl hbA hL (by omega) (by omega) ez148 dL_law_363 ?_
              refine X_callV hK [.int (iI z126), .int (iI 0), .int (iI z147), .int (iI z148)] [] lk_L_37 (c_X12_boy _ _ _ _ _ S151 g150 b37 z126 0 z147 z148 b9 (qr149 _ _ (qS88 _ _ (qb84 _ _ hs_y64))) (by omega) (by omega) (by omega) (by omega) (by omega) ((hg150 b37 13 0 16 (qS88 _ _ (qb84 _ _ hs_y64)) (by decide)).trans emb9)) (qr149 _ _ (qS88 _ _ (qb84 _ _ hs_y64))) ⟨by decide, rfl⟩ dL_law_364 rfl rfl (by simp [Value.category]) (by decide) (by omega) (by omega) (by decide) (fun r159 S161 g160 pr159 qr159 hg160 => ?_)
              obtain ⟨rfl, z162, rfl, lz162, uz162, k163, k164⟩ := pr159
              refine X_st [.int (iI z162)] rfl ?_
              refine X_pop hK dL_law_367 rfl ?_
              refine X_goto hK 1465 dL_law_368 (by decide) ?_
              refine X_iinc hK (i := 4) (z := i9) (n := 6) 0 [(4, .int (iI (i9 + 6))), (3, .ref b84), (2, .ref b37), (1, .ref b1), (0, .ref b)] dL_law_1465 rfl (by decide) rfl ?_
              refine X_goto hK 23 dL_law_1468 (by decide) ?_
              exact ih9 S151 (xLe.tr qS88 qr149) g160 (i9 + 6) k9 t9 c9 (if b9 < 40 ∧ 6 ≤ z126 ∧ z126 ≤ 18 ∧ -1 ≤ z147 ∧ z147 ≤ 399 ∧ 0 ≤ z148 ∧ z148 ≤ 99 then b9 + 1 else b9) sh9 sp9 sm9 (by omega) (by omega) (by omega) (by omega) (by first | omega | (split <;> omega)) (by omega) (by omega) (by omega) (xLs_mod k153 hg160 (by decide)) k154 (xPi_m (xPi_m pi9 hg150 qr149 (by decide)) hg160 xLe.rf (by decide)) (xMp_m (xMp_m mp9 hg150 qr149 (by decide)) hg160 xLe.rf (by decide)) (xTw_m (xTw_m tw9 hg150 qr149 (by decide)) hg160 xLe.rf (by decide)) (xPw_m (xPw_m pw9 hg150 qr149 (by decide)) hg160 xLe.rf (by decide)) ((hg160 b1 12 0 0 (qr149 _ _ (qS88 _ _ (qb84 _ _ hk66))) (by decide)).trans ((hg150 b1 12 0 0 (qS88 _ _ (qb84 _ _ hk66)) (by decide)).trans el09)) ((hg160 b1 12 0 3 (qr149 _ _ (qS88 _ _ (qb84 _ _ hk66))) (by decide)).trans ((hg150 b1 12 0 3 (qS88 _ _ (qb84 _ _ hk66)) (by decide)).trans el19)) ((hg160 b1 12 0 1 (qr149 _ _ (qS88 _ _ (qb84 _ _ hk66))) (by decide)).trans ((hg150 b1 12 0 1 (qS88 _ _ (qb84 _ _ hk66)) (by decide)).trans el29)) ((hg160 b35 6 0 1 (qr149 _ _ (qS88 _ _ (qb84 _ _ hk74))) (by decide)).trans ((hg150 b35 6 0 1 (qS88 _ _ (qb84 _ _ hk74)) (by decide)).trans el39)) ((hg160 b1 12 0 2 (qr149 _ _ (qS88 _ _ (qb84 _ _ hk66))) (by decide)).trans ((hg150 b1 12 0 2 (qS88 _ _ (qb84 _ _ hk66)) (by decide)).trans el49)) ((hg160 b19 4 0 0 (qr149 _ _ (qS88 _ _ (qb84 _ _ hk67))) (by decide)).trans ((hg150 b19 4 0 0 (qS88 _ _ (qb84 _ _ hk67)) (by decide)).trans el59)) ((hg160 b19 4 0 2 (qr149 _ _ (qS88 _ _ (qb84 _ _ hk67))) (by decide)).trans ((hg150 b19 4 0 2 (qS88 _ _ (qb84 _ _ hk67)) (by decide)).trans el69)) ((hg160 b19 4 0 3 (qr149 _ _ (qS88 _ _ (qb84 _ _ hk67))) (by decide)).trans ((hg150 b19 4 0 3 (qS88 _ _ (qb84 _ _ hk67)) (by decide)).trans el79)) ((hg160 b19 4 0 4 (qr149 _ _ (qS88 _ _ (qb84 _ _ hk67))) (by decide)).trans ((hg150 b19 4 0 4 (qS88 _ _ (qb84 _ _ hk67)) (by decide)).trans el89)) ((hg160 b33 10 0 0 (qr149 _ _ (qS88 _ _ (qb84 _ _ hk72))) (by decide)).trans ((hg150 b33 10 0 0 (qS88 _ _ (qb84 _ _ hk72)) (by decide)).trans el99)) ((hg160 b37 13 0 1 (qr149 _ _ (qS88 _ _ (qb84 _ _ hs_y64))) (by decide)).trans ((hg150 b37 13 0 1 (qS88 _ _ (qb84 _ _ hs_y64)) (by decide)).trans el109)) ((hg160 b37 13 0 10 (qr149 _ _ (qS88 _ _ (qb84 _ _ hs_y64))) (by decide)).trans ((hg150 b37 13 0 10 (qS88 _ _ (qb84 _ _ hs_y64)) (by decide)).trans el119)) ((hg160 b37 13 0 13 (qr149 _ _ (qS88 _ _ (qb84 _ _ hs_y64))) (by decide)).trans ((hg150 b37 13 0 13 (qS88 _ _ (qb84 _ _ hs_y64)) (by decide)).trans el129)) ((hg160 b37 13 0 14 (qr149 _ _ (qS88 _ _ (qb84 _ _ hs_y64))) (by decide)).trans ((hg150 b37 13 0 14 (qS88 _ _ (qb84 _ _ hs_y64)) (by decide)).trans el139)) ((hg160 b37 13 0 12 (qr149 _ _ (qS88 _ _ (qb84 _ _ hs_y64))) (by decide)).trans ((hg150 b37 13 0 12 (qS88 _ _ (qb84 _ _ hs_y64)) (by decide)).trans el149)) ((hg160 b33 10 0 1 (qr149 _ _ (qS88 _ _ (qb84 _ _ hk72))) (by decide)).trans ((hg150 b33 10 0 1 (qS88 _ _ (qb84 _ _ hk72)) (by decide)).trans exk9)) ((hg160 b37 13 0 2 (qr149 _ _ (qS88 _ _ (qb84 _ _ hs_y64))) (by decide)).trans ((hg150 b37 13 0 2 (qS88 _ _ (qb84 _ _ hs_y64)) (by decide)).trans emk9)) ((hg160 b1 12 0 12 (qr149 _ _ (qS88 _ _ (qb84 _ _ hk66))) (by decide)).trans ((hg150 b1 12 0 12 (qS88 _ _ (qb84 _ _ hk66)) (by decide)).trans ext9)) ((hg160 b37 13 0 3 (qr149 _ _ (qS88 _ _ (qb84 _ _ hs_y64))) (by decide)).trans ((hg150 b37 13 0 3 (qS88 _ _ (qb84 _ _ hs_y64)) (by decide)).trans emt9)) ((hg160 b34 5 0 3 (qr149 _ _ (qS88 _ _ (qb84 _ _ hk73))) (by decide)).trans ((hg150 b34 5 0 3 (qS88 _ _ (qb84 _ _ hk73)) (by decide)).trans exc9)) ((hg160 b37 13 0 69 (qr149 _ _ (qS88 _ _ (qb84 _ _ hs_y64))) (by decide)).trans ((hg150 b37 13 0 69 (qS88 _ _ (qb84 _ _ hs_y64)) (by decide)).trans emc9)) ((hg160 b36 0 0 2 (qr149 _ _ (qS88 _ _ (qb84 _ _ hk75))) (by decide)).trans k157) k164 ((hg160 b1 12 0 16 (qr149 _ _ (qS88 _ _ (qb84 _ _ hk66))) (by decide)).trans ((hg150 b1 12 0 16 (qS88 _ _ (qb84 _ _ hk66)) (by decide)).trans exsh9)) ((hg160 b37 13 0 89 (qr149 _ _ (qS88 _ _ (qb84 _ _ hs_y64))) (by decide)).trans ((hg150 b37 13 0 89 (qS88 _ _ (qb84 _ _ hs_y64)) (by decide)).trans emsh9)) ((hg160 b1 12 0 17 (qr149 _ _ (qS88 _ _ (qb84 _ _ hk66))) (by decide)).trans ((hg150 b1 12 0 17 (qS88 _ _ (qb84 _ _ hk66)) (by decide)).trans exsp9)) ((hg160 b37 13 0 90 (qr149 _ _ (qS88 _ _ (qb84 _ _ hs_y64))) (by decide)).trans ((hg150 b37 13 0 90 (qS88 _ _ (qb84 _ _ hs_y64)) (by decide)).trans emsp9)) ((hg160 b37 13 0 17 (qr149 _ _ (qS88 _ _ (qb84 _ _ hs_y64))) (by decide)).trans ((hg150 b37 13 0 17 (qS88 _ _ (qb84 _ _ hs_y64)) (by decide)).trans emsm9)) (xWn.m (xWn.m wn9 (qS88 _ _ (qb84 _ _ hk71)) (qS88 _ _ (qb84 _ _ hk78)) hg150 qr149 (by decide)) (qr149 _ _ (qS88 _ _ (qb84 _ _ hk71))) (qr149 _ _ (qS88 _ _ (qb84 _ _ hk78))) hg160 xLe.rf (by decide)) (by rw [(Eq.trans (xv_m hg160 (qr149 _ _ (qS88 _ _ (qb84 _ _ hk69))) (by decide) (by decide)) (xv_m hg150 (qS88 _ _ (qb84 _ _ hk69)) (by decide) (by decide))), (Eq.trans (xv_m hg160 (qr149 _ _ (qS88 _ _ (qb84 _ _ hk76))) (by decide) (by decide)) (xv_m hg150 (qS88 _ _ (qb84 _ _ hk76)) (by decide) (by decide)))]; exact wt9) (by rw [(Eq.trans (xv_m hg160 (qr149 _ _ (qS88 _ _ (qb84 _ _ hk70))) (by decide) (by decide)) (xv_m hg150 (qS88 _ _ (qb84 _ _ hk70)) (by decide) (by decide))), (Eq.trans (xv_m hg160 (qr149 _ _ (qS88 _ _ (qb84 _ _ hk77))) (by decide) (by decide)) (xv_m hg150 (qS88 _ _ (qb84 _ _ hk77)) (by decide) (by decide)))]; exact ld9) (by rw [(Eq.trans (xv_m hg160 (qr149 _ _ (qS88 _ _ (qb84 _ _ hk68))) (by decide) (by decide)) (xv_m hg150 (qS88 _ _ (qb84 _ _ hk68)) (by decide) (by decide))), (Eq.trans (xv_m hg160 (qr149 _ _ (qS88 _ _ (qb84 _ _ hs_b83))) (by decide) (by decide)) (xv_m hg150 (qS88 _ _ (qb84 _ _ hs_b83)) (by decide) (by decide)))]; exact sk9) (by rw [(Eq.trans (xv_m hg160 (qr149 _ _ (qS88 _ _ (qb84 _ _ hs_b81))) (by decide) (by decide)) (xv_m hg150 (qS88 _ _ (qb84 _ _ hs_b81)) (by decide) (by decide))), (Eq.trans (xv_m hg160 (qr149 _ _ (qS88 _ _ (qb84 _ _ hs_b82))) (by decide) (by decide)) (xv_m hg150 (qS88 _ _ (qb84 _ _ hs_b82)) (by decide) (by decide)))]; exact xTc.mono tc9 (by omega)) (dc9 + dcr149) (ds9 + dsr149) (by omega) (by omega) (by omega)
            · refine X_iconst hK dL_law_347 ?_
              refine X_goto hK 352 dL_law_348 (by decide) ?_
              refine X_aloadn hK (i := 0) 4 dL_law_352 rfl rfl ?_
              refine X_iload hK (i := 4) 0 dL_law_353 rfl ?_
              refine X_iconst hK dL_law_355 ?_
              refine X_iadd hK dL_law_356 ?_
              refine X_scrK hK hX hbl hbA hL (by omega) (by omega) ez147 dL_law_357 ?_
              refine X_aloadn hK (i := 0) 4 dL_law_358 rfl rfl ?_
              refine X_iload hK (i := 4) 0 dL_law_359 rfl ?_
              refine X_iconst hK dL_law_361 ?_
              refine X_iadd hK dL_law_362 ?_
              refine X_scrK hK hX hbl hbA hL (by omega) (by omega) ez148 dL_law_363 ?_
              refine X_callV hK [.int (iI z126), .int (iI 1), .int (iI z147), .int (iI z148)] [] lk_L_37 (c_X12_boy _ _ _ _ _ S151 g150 b37 z126 1 z147 z148 b9 (qr149 _ _ (qS88 _ _ (qb84 _ _ hs_y64))) (by omega) (by omega) (by omega) (by omega) (by omega) ((hg150 b37 13 0 16 (qS88 _ _ (qb84 _ _ hs_y64)) (by decide)).trans emb9)) (qr149 _ _ (qS88 _ _ (qb84 _ _ hs_y64))) ⟨by decide, rfl⟩ dL_law_364 rfl rfl (by simp [Value.category]) (by decide) (by omega) (by omega) (by decide) (fun r165 S167 g166 pr165 qr165 hg166 => ?_)
              obtain ⟨rfl, z168, rfl, lz168, uz168, k169, k170⟩ := pr165
              refine X_st [.int (iI z168)] rfl ?_
              refine X_pop hK dL_law_367 rfl ?_
              refine X_goto hK 1465 dL_law_368 (by decide) ?_
              refine X_iinc hK (i := 4) (z := i9) (n := 6) 0 [(4, .int (iI (i9 + 6))), (3, .ref b84), (2, .ref b37), (1, .ref b1), (0, .ref b)] dL_law_1465 rfl (by decide) rfl ?_
              refine X_goto hK 23 dL_law_1468 (by decide) ?_
              exact ih9 S151 (xLe.tr qS88 qr149) g166 (i9 + 6) k9 t9 c9 (if b9 < 40 ∧ 6 ≤ z126 ∧ z126 ≤ 18 ∧ -1 ≤ z147 ∧ z147 ≤ 399 ∧ 0 ≤ z148 ∧ z148 ≤ 99 then b9 + 1 else b9) sh9 sp9 sm9 (by omega) (by omega) (by omega) (by omega) (by first | omega | (split <;> omega)) (by omega) (by omega) (by omega) (xLs_mod k153 hg166 (by decide)) k154 (xPi_m (xPi_m pi9 hg150 qr149 (by decide)) hg166 xLe.rf (by decide)) (xMp_m (xMp_m mp9 hg150 qr149 (by decide)) hg166 xLe.rf (by decide)) (xTw_m (xTw_m tw9 hg150 qr149 (by decide)) hg166 xLe.rf (by decide)) (xPw_m (xPw_m pw9 hg150 qr149 (by decide)) hg166 xLe.rf (by decide)) ((hg166 b1 12 0 0 (qr149 _ _ (qS88 _ _ (qb84 _ _ hk66))) (by decide)).trans ((hg150 b1 12 0 0 (qS88 _ _ (qb84 _ _ hk66)) (by decide)).trans el09)) ((hg166 b1 12 0 3 (qr149 _ _ (qS88 _ _ (qb84 _ _ hk66))) (by decide)).trans ((hg150 b1 12 0 3 (qS88 _ _ (qb84 _ _ hk66)) (by decide)).trans el19)) ((hg166 b1 12 0 1 (qr149 _ _ (qS88 _ _ (qb84 _ _ hk66))) (by decide)).trans ((hg150 b1 12 0 1 (qS88 _ _ (qb84 _ _ hk66)) (by decide)).trans el29)) ((hg166 b35 6 0 1 (qr149 _ _ (qS88 _ _ (qb84 _ _ hk74))) (by decide)).trans ((hg150 b35 6 0 1 (qS88 _ _ (qb84 _ _ hk74)) (by decide)).trans el39)) ((hg166 b1 12 0 2 (qr149 _ _ (qS88 _ _ (qb84 _ _ hk66))) (by decide)).trans ((hg150 b1 12 0 2 (qS88 _ _ (qb84 _ _ hk66)) (by decide)).trans el49)) ((hg166 b19 4 0 0 (qr149 _ _ (qS88 _ _ (qb84 _ _ hk67))) (by decide)).trans ((hg150 b19 4 0 0 (qS88 _ _ (qb84 _ _ hk67)) (by decide)).trans el59)) ((hg166 b19 4 0 2 (qr149 _ _ (qS88 _ _ (qb84 _ _ hk67))) (by decide)).trans ((hg150 b19 4 0 2 (qS88 _ _ (qb84 _ _ hk67)) (by decide)).trans el69)) ((hg166 b19 4 0 3 (qr149 _ _ (qS88 _ _ (qb84 _ _ hk67))) (by decide)).trans ((hg150 b19 4 0 3 (qS88 _ _ (qb84 _ _ hk67)) (by decide)).trans el79)) ((hg166 b19 4 0 4 (qr149 _ _ (qS88 _ _ (qb84 _ _ hk67))) (by decide)).trans ((hg150 b19 4 0 4 (qS88 _ _ (qb84 _ _ hk67)) (by decide)).trans el89)) ((hg166 b33 10 0 0 (qr149 _ _ (qS88 _ _ (qb84 _ _ hk72))) (by decide)).trans ((hg150 b33 10 0 0 (qS88 _ _ (qb84 _ _ hk72)) (by decide)).trans el99)) ((hg166 b37 13 0 1 (qr149 _ _ (qS88 _ _ (qb84 _ _ hs_y64))) (by decide)).trans ((hg150 b37 13 0 1 (qS88 _ _ (qb84 _ _ hs_y64)) (by decide)).trans el109)) ((hg166 b37 13 0 10 (qr149 _ _ (qS88 _ _ (qb84 _ _ hs_y64))) (by decide)).trans ((hg150 b37 13 0 10 (qS88 _ _ (qb84 _ _ hs_y64)) (by decide)).trans el119)) ((hg166 b37 13 0 13 (qr149 _ _ (qS88 _ _ (qb84 _ _ hs_y64))) (by decide)).trans ((hg150 b37 13 0 13 (qS88 _ _ (qb84 _ _ hs_y64)) (by decide)).trans el129)) ((hg166 b37 13 0 14 (qr149 _ _ (qS88 _ _ (qb84 _ _ hs_y64))) (by decide)).trans ((hg150 b37 13 0 14 (qS88 _ _ (qb84 _ _ hs_y64)) (by decide)).trans el139)) ((hg166 b37 13 0 12 (qr149 _ _ (qS88 _ _ (qb84 _ _ hs_y64))) (by decide)).trans ((hg150 b37 13 0 12 (qS88 _ _ (qb84 _ _ hs_y64)) (by decide)).trans el149)) ((hg166 b33 10 0 1 (qr149 _ _ (qS88 _ _ (qb84 _ _ hk72))) (by decide)).trans ((hg150 b33 10 0 1 (qS88 _ _ (qb84 _ _ hk72)) (by decide)).trans exk9)) ((hg166 b37 13 0 2 (qr149 _ _ (qS88 _ _ (qb84 _ _ hs_y64))) (by decide)).trans ((hg150 b37 13 0 2 (qS88 _ _ (qb84 _ _ hs_y64)) (by decide)).trans emk9)) ((hg166 b1 12 0 12 (qr149 _ _ (qS88 _ _ (qb84 _ _ hk66))) (by decide)).trans ((hg150 b1 12 0 12 (qS88 _ _ (qb84 _ _ hk66)) (by decide)).trans ext9)) ((hg166 b37 13 0 3 (qr149 _ _ (qS88 _ _ (qb84 _ _ hs_y64))) (by decide)).trans ((hg150 b37 13 0 3 (qS88 _ _ (qb84 _ _ hs_y64)) (by decide)).trans emt9)) ((hg166 b34 5 0 3 (qr149 _ _ (qS88 _ _ (qb84 _ _ hk73))) (by decide)).trans ((hg150 b34 5 0 3 (qS88 _ _ (qb84 _ _ hk73)) (by decide)).trans exc9)) ((hg166 b37 13 0 69 (qr149 _ _ (qS88 _ _ (qb84 _ _ hs_y64))) (by decide)).trans ((hg150 b37 13 0 69 (qS88 _ _ (qb84 _ _ hs_y64)) (by decide)).trans emc9)) ((hg166 b36 0 0 2 (qr149 _ _ (qS88 _ _ (qb84 _ _ hk75))) (by decide)).trans k157) k170 ((hg166 b1 12 0 16 (qr149 _ _ (qS88 _ _ (qb84 _ _ hk66))) (by decide)).trans ((hg150 b1 12 0 16 (qS88 _ _ (qb84 _ _ hk66)) (by decide)).trans exsh9)) ((hg166 b37 13 0 89 (qr149 _ _ (qS88 _ _ (qb84 _ _ hs_y64))) (by decide)).trans ((hg150 b37 13 0 89 (qS88 _ _ (qb84 _ _ hs_y64)) (by decide)).trans emsh9)) ((hg166 b1 12 0 17 (qr149 _ _ (qS88 _ _ (qb84 _ _ hk66))) (by decide)).trans ((hg150 b1 12 0 17 (qS88 _ _ (qb84 _ _ hk66)) (by decide)).trans exsp9)) ((hg166 b37 13 0 90 (qr149 _ _ (qS88 _ _ (qb84 _ _ hs_y64))) (by decide)).trans ((hg150 b37 13 0 90 (qS88 _ _ (qb84 _ _ hs_y64)) (by decide)).trans emsp9)) ((hg166 b37 13 0 17 (qr149 _ _ (qS88 _ _ (qb84 _ _ hs_y64))) (by decide)).trans ((hg150 b37 13 0 17 (qS88 _ _ (qb84 _ _ hs_y64)) (by decide)).trans emsm9)) (xWn.m (xWn.m wn9 (qS88 _ _ (qb84 _ _ hk71)) (qS88 _ _ (qb84 _ _ hk78)) hg150 qr149 (by decide)) (qr149 _ _ (qS88 _ _ (qb84 _ _ hk71))) (qr149 _ _ (qS88 _ _ (qb84 _ _ hk78))) hg166 xLe.rf (by decide)) (by rw [(Eq.trans (xv_m hg166 (qr149 _ _ (qS88 _ _ (qb84 _ _ hk69))) (by decide) (by decide)) (xv_m hg150 (qS88 _ _ (qb84 _ _ hk69)) (by decide) (by decide))), (Eq.trans (xv_m hg166 (qr149 _ _ (qS88 _ _ (qb84 _ _ hk76))) (by decide) (by decide)) (xv_m hg150 (qS88 _ _ (qb84 _ _ hk76)) (by decide) (by decide)))]; exact wt9) (by rw [(Eq.trans (xv_m hg166 (qr149 _ _ (qS88 _ _ (qb84 _ _ hk70))) (by decide) (by decide)) (xv_m hg150 (qS88 _ _ (qb84 _ _ hk70)) (by decide) (by decide))), (Eq.trans (xv_m hg166 (qr149 _ _ (qS88 _ _ (qb84 _ _ hk77))) (by decide) (by decide)) (xv_m hg150 (qS88 _ _ (qb84 _ _ hk77)) (by decide) (by decide)))]; exact ld9) (by rw [(Eq.trans (xv_m hg166 (qr149 _ _ (qS88 _ _ (qb84 _ _ hk68))) (by decide) (by decide)) (xv_m hg150 (qS88 _ _ (qb84 _ _ hk68)) (by decide) (by decide))), (Eq.trans (xv_m hg166 (qr149 _ _ (qS88 _ _ (qb84 _ _ hs_b83))) (by decide) (by decide)) (xv_m hg150 (qS88 _ _ (qb84 _ _ hs_b83)) (by decide) (by decide)))]; exact sk9) (by rw [(Eq.trans (xv_m hg166 (qr149 _ _ (qS88 _ _ (qb84 _ _ hs_b81))) (by decide) (by decide)) (xv_m hg150 (qS88 _ _ (qb84 _ _ hs_b81)) (by decide) (by decide))), (Eq.trans (xv_m hg166 (qr149 _ _ (qS88 _ _ (qb84 _ _ hs_b82))) (by decide) (by decide)) (xv_m hg150 (qS88 _ _ (qb84 _ _ hs_b82)) (by decide) (by decide)))]; exact xTc.mono tc9 (by omega)) (dc9 + dcr149) (ds9 + dsr149) (by omega) (by omega) (by omega)
        · refine X_tableIn hK 371 3 (by decide) c93 (by decide) (by decide) dL_law_40 rfl (by decide) ?_
          refine X_aloadn hK (i := 1) 3 dL_law_371 rfl rfl ?_
          refine X_aloadn hK (i := 0) 4 dL_law_372 rfl rfl ?_
          refine X_iload hK (i := 4) 0 dL_law_373 rfl ?_
          refine X_iconst hK dL_law_375 ?_
          refine X_iadd hK dL_law_376 ?_
          refine X_scr hK hX hbl hbA hL (by omega) (by omega) dL_law_377 (fun z171 ez171 lz171 uz171 => ?_)
          refine X_aloadn hK (i := 0) 4 dL_law_378 rfl rfl ?_
          refine X_iload hK (i := 4) 0 dL_law_379 rfl ?_
          refine X_iconst hK dL_law_381 ?_
          refine X_iadd hK dL_law_382 ?_
          refine X_scr hK hX hbl hbA hL (by omega) (by omega) dL_law_383 (fun z172 ez172 lz172 uz172 => ?_)
          refine X_callV hK [.int (iI z171), .int (iI z172)] [] lk_L_38 (c_X11_badge _ _ _ _ _ S88 g89 b1 z171 z172 b35 b36 b9 (qS88 _ _ (qb84 _ _ hk66)) (by omega) (by omega) el29 (qS88 _ _ (qb84 _ _ hk74)) el39 (qS88 _ _ (qb84 _ _ hk75)) (by omega) exb9 al9) (qS88 _ _ (qb84 _ _ hk66)) ⟨by decide, rfl⟩ dL_law_384 rfl rfl (by simp [Value.category]) (by decide) (by omega) (by omega) (by decide) (fun r173 S175 g174 pr173 qr173 hg174 => ?_)
          obtain ⟨rfl, z176, rfl, lz176, uz176, k177⟩ := pr173
          refine X_st [.int (iI z176)] rfl ?_
          refine X_pop hK dL_law_387 rfl ?_
          refine X_aloadn hK (i := 2) 2 dL_law_388 rfl rfl ?_
          refine X_aloadn hK (i := 0) 4 dL_law_389 rfl rfl ?_
          refine X_iload hK (i := 4) 0 dL_law_390 rfl ?_
          refine X_iconst hK dL_law_392 ?_
          refine X_iadd hK dL_law_393 ?_
          refine X_scrK hK hX hbl hbA hL (by omega) (by omega) ez171 dL_law_394 ?_
          refine X_aloadn hK (i := 0) 4 dL_law_395 rfl rfl ?_
          refine X_iload hK (i := 4) 0 dL_law_396 rfl ?_
          refine X_iconst hK dL_law_398 ?_
          refine X_iadd hK dL_law_399 ?_
          refine X_scrK hK hX hbl hbA hL (by omega) (by omega) ez172 dL_law_400 ?_
          refine X_callV hK [.int (iI z171), .int (iI z172)] [] lk_L_42 (c_X12_badge _ _ _ _ _ S88 g174 b37 z171 z172 b9 (qS88 _ _ (qb84 _ _ hs_y64)) (by omega) (by omega) (by omega) ((hg174 b37 13 0 16 (qS88 _ _ (qb84 _ _ hs_y64)) (by decide)).trans emb9)) (qS88 _ _ (qb84 _ _ hs_y64)) ⟨by decide, rfl⟩ dL_law_401 rfl rfl (by simp [Value.category]) (by decide) (by omega) (by omega) (by decide) (fun r178 S180 g179 pr178 qr178 hg179 => ?_)
          obtain ⟨rfl, z181, rfl, lz181, uz181, k182⟩ := pr178
          refine X_st [.int (iI z181)] rfl ?_
          refine X_pop hK dL_law_404 rfl ?_
          refine X_goto hK 1465 dL_law_405 (by decide) ?_
          refine X_iinc hK (i := 4) (z := i9) (n := 6) 0 [(4, .int (iI (i9 + 6))), (3, .ref b84), (2, .ref b37), (1, .ref b1), (0, .ref b)] dL_law_1465 rfl (by decide) rfl ?_
          refine X_goto hK 23 dL_law_1468 (by decide) ?_
          exact ih9 S88 qS88 g179 (i9 + 6) k9 t9 c9 b9 sh9 sp9 sm9 (by omega) (by omega) (by omega) (by omega) (by omega) (by omega) (by omega) (by omega) (xLs_mod (xLs_mod al9 hg174 (by decide)) hg179 (by decide)) si9 (xPi_m (xPi_m pi9 hg174 xLe.rf (by decide)) hg179 xLe.rf (by decide)) (xMp_m (xMp_m mp9 hg174 xLe.rf (by decide)) hg179 xLe.rf (by decide)) (xTw_m (xTw_m tw9 hg174 xLe.rf (by decide)) hg179 xLe.rf (by decide)) (xPw_m (xPw_m pw9 hg174 xLe.rf (by decide)) hg179 xLe.rf (by decide)) ((hg179 b1 12 0 0 (qS88 _ _ (qb84 _ _ hk66)) (by decide)).trans ((hg174 b1 12 0 0 (qS88 _ _ (qb84 _ _ hk66)) (by decide)).trans el09)) ((hg179 b1 12 0 3 (qS88 _ _ (qb84 _ _ hk66)) (by decide)).trans ((hg174 b1 12 0 3 (qS88 _ _ (qb84 _ _ hk66)) (by decide)).trans el19)) ((hg179 b1 12 0 1 (qS88 _ _ (qb84 _ _ hk66)) (by decide)).trans ((hg174 b1 12 0 1 (qS88 _ _ (qb84 _ _ hk66)) (by decide)).trans el29)) ((hg179 b35 6 0 1 (qS88 _ _ (qb84 _ _ hk74)) (by decide)).trans ((hg174 b35 6 0 1 (qS88 _ _ (qb84 _ _ hk74)) (by decide)).trans el39)) ((hg179 b1 12 0 2 (qS88 _ _ (qb84 _ _ hk66)) (by decide)).trans ((hg174 b1 12 0 2 (qS88 _ _ (qb84 _ _ hk66)) (by decide)).trans el49)) ((hg179 b19 4 0 0 (qS88 _ _ (qb84 _ _ hk67)) (by decide)).trans ((hg174 b19 4 0 0 (qS88 _ _ (qb84 _ _ hk67)) (by decide)).trans el59)) ((hg179 b19 4 0 2 (qS88 _ _ (qb84 _ _ hk67)) (by decide)).trans ((hg174 b19 4 0 2 (qS88 _ _ (qb84 _ _ hk67)) (by decide)).trans el69)) ((hg179 b19 4 0 3 (qS88 _ _ (qb84 _ _ hk67)) (by decide)).trans ((hg174 b19 4 0 3 (qS88 _ _ (qb84 _ _ hk67)) (by decide)).trans el79)) ((hg179 b19 4 0 4 (qS88 _ _ (qb84 _ _ hk67)) (by decide)).trans ((hg174 b19 4 0 4 (qS88 _ _ (qb84 _ _ hk67)) (by decide)).trans el89)) ((hg179 b33 10 0 0 (qS88 _ _ (qb84 _ _ hk72)) (by decide)).trans ((hg174 b33 10 0 0 (qS88 _ _ (qb84 _ _ hk72)) (by decide)).trans el99)) ((hg179 b37 13 0 1 (qS88 _ _ (qb84 _ _ hs_y64)) (by decide)).trans ((hg174 b37 13 0 1 (qS88 _ _ (qb84 _ _ hs_y64)) (by decide)).trans el109)) ((hg179 b37 13 0 10 (qS88 _ _ (qb84 _ _ hs_y64)) (by decide)).trans ((hg174 b37 13 0 10 (qS88 _ _ (qb84 _ _ hs_y64)) (by decide)).trans el119)) ((hg179 b37 13 0 13 (qS88 _ _ (qb84 _ _ hs_y64)) (by decide)).trans ((hg174 b37 13 0 13 (qS88 _ _ (qb84 _ _ hs_y64)) (by decide)).trans el129)) ((hg179 b37 13 0 14 (qS88 _ _ (qb84 _ _ hs_y64)) (by decide)).trans ((hg174 b37 13 0 14 (qS88 _ _ (qb84 _ _ hs_y64)) (by decide)).trans el139)) ((hg179 b37 13 0 12 (qS88 _ _ (qb84 _ _ hs_y64)) (by decide)).trans ((hg174 b37 13 0 12 (qS88 _ _ (qb84 _ _ hs_y64)) (by decide)).trans el149)) ((hg179 b33 10 0 1 (qS88 _ _ (qb84 _ _ hk72)) (by decide)).trans ((hg174 b33 10 0 1 (qS88 _ _ (qb84 _ _ hk72)) (by decide)).trans exk9)) ((hg179 b37 13 0 2 (qS88 _ _ (qb84 _ _ hs_y64)) (by decide)).trans ((hg174 b37 13 0 2 (qS88 _ _ (qb84 _ _ hs_y64)) (by decide)).trans emk9)) ((hg179 b1 12 0 12 (qS88 _ _ (qb84 _ _ hk66)) (by decide)).trans ((hg174 b1 12 0 12 (qS88 _ _ (qb84 _ _ hk66)) (by decide)).trans ext9)) ((hg179 b37 13 0 3 (qS88 _ _ (qb84 _ _ hs_y64)) (by decide)).trans ((hg174 b37 13 0 3 (qS88 _ _ (qb84 _ _ hs_y64)) (by decide)).trans emt9)) ((hg179 b34 5 0 3 (qS88 _ _ (qb84 _ _ hk73)) (by decide)).trans ((hg174 b34 5 0 3 (qS88 _ _ (qb84 _ _ hk73)) (by decide)).trans exc9)) ((hg179 b37 13 0 69 (qS88 _ _ (qb84 _ _ hs_y64)) (by decide)).trans ((hg174 b37 13 0 69 (qS88 _ _ (qb84 _ _ hs_y64)) (by decide)).trans emc9)) ((hg179 b36 0 0 2 (qS88 _ _ (qb84 _ _ hk75)) (by decide)).trans ((hg174 b36 0 0 2 (qS88 _ _ (qb84 _ _ hk75)) (by decide)).trans exb9)) ((hg179 b37 13 0 16 (qS88 _ _ (qb84 _ _ hs_y64)) (by decide)).trans ((hg174 b37 13 0 16 (qS88 _ _ (qb84 _ _ hs_y64)) (by decide)).trans emb9)) ((hg179 b1 12 0 16 (qS88 _ _ (qb84 _ _ hk66)) (by decide)).trans ((hg174 b1 12 0 16 (qS88 _ _ (qb84 _ _ hk66)) (by decide)).trans exsh9)) ((hg179 b37 13 0 89 (qS88 _ _ (qb84 _ _ hs_y64)) (by decide)).trans ((hg174 b37 13 0 89 (qS88 _ _ (qb84 _ _ hs_y64)) (by decide)).trans emsh9)) ((hg179 b1 12 0 17 (qS88 _ _ (qb84 _ _ hk66)) (by decide)).trans ((hg174 b1 12 0 17 (qS88 _ _ (qb84 _ _ hk66)) (by decide)).trans exsp9)) ((hg179 b37 13 0 90 (qS88 _ _ (qb84 _ _ hs_y64)) (by decide)).trans ((hg174 b37 13 0 90 (qS88 _ _ (qb84 _ _ hs_y64)) (by decide)).trans emsp9)) ((hg179 b37 13 0 17 (qS88 _ _ (qb84 _ _ hs_y64)) (by decide)).trans ((hg174 b37 13 0 17 (qS88 _ _ (qb84 _ _ hs_y64)) (by decide)).trans emsm9)) (xWn.m (xWn.m wn9 (qS88 _ _ (qb84 _ _ hk71)) (qS88 _ _ (qb84 _ _ hk78)) hg174 xLe.rf (by decide)) (qS88 _ _ (qb84 _ _ hk71)) (qS88 _ _ (qb84 _ _ hk78)) hg179 xLe.rf (by decide)) (by rw [(Eq.trans (xv_m hg179 (qS88 _ _ (qb84 _ _ hk69)) (by decide) (by decide)) (xv_m hg174 (qS88 _ _ (qb84 _ _ hk69)) (by decide) (by decide))), (Eq.trans (xv_m hg179 (qS88 _ _ (qb84 _ _ hk76)) (by decide) (by decide)) (xv_m hg174 (qS88 _ _ (qb84 _ _ hk76)) (by decide) (by decide)))]; exact wt9) (by rw [(Eq.trans (xv_m hg179 (qS88 _ _ (qb84 _ _ hk70)) (by decide) (by decide)) (xv_m hg174 (qS88 _ _ (qb84 _ _ hk70)) (by decide) (by decide))), (Eq.trans (xv_m hg179 (qS88 _ _ (qb84 _ _ hk77)) (by decide) (by decide)) (xv_m hg174 (qS88 _ _ (qb84 _ _ hk77)) (by decide) (by decide)))]; exact ld9) (by rw [(Eq.trans (xv_m hg179 (qS88 _ _ (qb84 _ _ hk68)) (by decide) (by decide)) (xv_m hg174 (qS88 _ _ (qb84 _ _ hk68)) (by decide) (by decide))), (Eq.trans (xv_m hg179 (qS88 _ _ (qb84 _ _ hs_b83)) (by decide) (by decide)) (xv_m hg174 (qS88 _ _ (qb84 _ _ hs_b83)) (by decide) (by decide)))]; exact sk9) (by rw [(Eq.trans (xv_m hg179 (qS88 _ _ (qb84 _ _ hs_b81)) (by decide) (by decide)) (xv_m hg174 (qS88 _ _ (qb84 _ _ hs_b81)) (by decide) (by decide))), (Eq.trans (xv_m hg179 (qS88 _ _ (qb84 _ _ hs_b82)) (by decide) (by decide)) (xv_m hg174 (qS88 _ _ (qb84 _ _ hs_b82)) (by decide) (by decide)))]; exact xTc.mono tc9 (by omega)) dc9 ds9 (by omega) (by omega) (by omega)
        · refine X_tableIn hK 408 4 (by decide) c93 (by decide) (by decide) dL_law_40 rfl (by decide) ?_
          refine X_aloadn hK (i := 1) 3 dL_law_408 rfl rfl ?_
          refine X_aloadn hK (i := 0) 4 dL_law_409 rfl rfl ?_
          refine X_iload hK (i := 4) 0 dL_law_410 rfl ?_
          refine X_iconst hK dL_law_412 ?_
          refine X_iadd hK dL_law_413 ?_
          refine X_scr hK hX hbl hbA hL (by omega) (by omega) dL_law_414 (fun z183 ez183 lz183 uz183 => ?_)
          refine X_aloadn hK (i := 0) 4 dL_law_415 rfl rfl ?_
          refine X_iload hK (i := 4) 0 dL_law_416 rfl ?_
          refine X_iconst hK dL_law_418 ?_
          refine X_iadd hK dL_law_419 ?_
          refine X_scr hK hX hbl hbA hL (by omega) (by omega) dL_law_420 (fun z184 ez184 lz184 uz184 => ?_)
          refine X_callV hK [.int (iI z183), .int (iI z184)] [] lk_L_43 (c_X11_owner _ _ _ _ _ S88 g89 b1 z183 z184 b35 b36 b9 (qS88 _ _ (qb84 _ _ hk66)) (by omega) (by omega) el29 (qS88 _ _ (qb84 _ _ hk74)) el39 (qS88 _ _ (qb84 _ _ hk75)) (by omega) exb9 al9) (qS88 _ _ (qb84 _ _ hk66)) ⟨by decide, rfl⟩ dL_law_421 rfl rfl (by simp [Value.category]) (by decide) (by omega) (by omega) (by decide) (fun r185 S187 g186 pr185 qr185 hg186 => ?_)
          obtain ⟨rfl, z188, rfl, lz188, uz188, k189⟩ := pr185
          refine X_st [.int (iI z188)] rfl ?_
          refine X_pop hK dL_law_424 rfl ?_
          refine X_aloadn hK (i := 2) 2 dL_law_425 rfl rfl ?_
          refine X_aloadn hK (i := 0) 4 dL_law_426 rfl rfl ?_
          refine X_iload hK (i := 4) 0 dL_law_427 rfl ?_
          refine X_iconst hK dL_law_429 ?_
          refine X_iadd hK dL_law_430 ?_
          refine X_scrK hK hX hbl hbA hL (by omega) (by omega) ez183 dL_law_431 ?_
          refine X_aloadn hK (i := 0) 4 dL_law_432 rfl rfl ?_
          refine X_iload hK (i := 4) 0 dL_law_433 rfl ?_
          refine X_iconst hK dL_law_435 ?_
          refine X_iadd hK dL_law_436 ?_
          refine X_scrK hK hX hbl hbA hL (by omega) (by omega) ez184 dL_law_437 ?_
          refine X_callV hK [.int (iI z183), .int (iI z184)] [] lk_L_46 (c_X12_owner _ _ _ _ _ S88 g186 b37 z183 z184 b9 (qS88 _ _ (qb84 _ _ hs_y64)) (by omega) (by omega) (by omega) ((hg186 b37 13 0 16 (qS88 _ _ (qb84 _ _ hs_y64)) (by decide)).trans emb9)) (qS88 _ _ (qb84 _ _ hs_y64)) ⟨by decide, rfl⟩ dL_law_438 rfl rfl (by simp [Value.category]) (by decide) (by omega) (by omega) (by decide) (fun r190 S192 g191 pr190 qr190 hg191 => ?_)
          obtain ⟨rfl, z193, rfl, lz193, uz193, k194⟩ := pr190
          refine X_st [.int (iI z193)] rfl ?_
          refine X_pop hK dL_law_441 rfl ?_
          refine X_goto hK 1465 dL_law_442 (by decide) ?_
          refine X_iinc hK (i := 4) (z := i9) (n := 6) 0 [(4, .int (iI (i9 + 6))), (3, .ref b84), (2, .ref b37), (1, .ref b1), (0, .ref b)] dL_law_1465 rfl (by decide) rfl ?_
          refine X_goto hK 23 dL_law_1468 (by decide) ?_
          exact ih9 S88 qS88 g191 (i9 + 6) k9 t9 c9 b9 sh9 sp9 sm9 (by omega) (by omega) (by omega) (by omega) (by omega) (by omega) (by omega) (by omega) (xLs_mod (xLs_mod al9 hg186 (by decide)) hg191 (by decide)) si9 (xPi_m (xPi_m pi9 hg186 xLe.rf (by decide)) hg191 xLe.rf (by decide)) (xMp_m (xMp_m mp9 hg186 xLe.rf (by decide)) hg191 xLe.rf (by decide)) (xTw_m (xTw_m tw9 hg186 xLe.rf (by decide)) hg191 xLe.rf (by decide)) (xPw_m (xPw_m pw9 hg186 xLe.rf (by decide)) hg191 xLe.rf (by decide)) ((hg191 b1 12 0 0 (qS88 _ _ (qb84 _ _ hk66)) (by decide)).trans ((hg186 b1 12 0 0 (qS88 _ _ (qb84 _ _ hk66)) (by decide)).trans el09)) ((hg191 b1 12 0 3 (qS88 _ _ (qb84 _ _ hk66)) (by decide)).trans ((hg186 b1 12 0 3 (qS88 _ _ (qb84 _ _ hk66)) (by decide)).trans el19)) ((hg191 b1 12 0 1 (qS88 _ _ (qb84 _ _ hk66)) (by decide)).trans ((hg186 b1 12 0 1 (qS88 _ _ (qb84 _ _ hk66)) (by decide)).trans el29)) ((hg191 b35 6 0 1 (qS88 _ _ (qb84 _ _ hk74)) (by decide)).trans ((hg186 b35 6 0 1 (qS88 _ _ (qb84 _ _ hk74)) (by decide)).trans el39)) ((hg191 b1 12 0 2 (qS88 _ _ (qb84 _ _ hk66)) (by decide)).trans ((hg186 b1 12 0 2 (qS88 _ _ (qb84 _ _ hk66)) (by decide)).trans el49)) ((hg191 b19 4 0 0 (qS88 _ _ (qb84 _ _ hk67)) (by decide)).trans ((hg186 b19 4 0 0 (qS88 _ _ (qb84 _ _ hk67)) (by decide)).trans el59)) ((hg191 b19 4 0 2 (qS88 _ _ (qb84 _ _ hk67)) (by decide)).trans ((hg186 b19 4 0 2 (qS88 _ _ (qb84 _ _ hk67)) (by decide)).trans el69)) ((hg191 b19 4 0 3 (qS88 _ _ (qb84 _ _ hk67)) (by decide)).trans ((hg186 b19 4 0 3 (qS88 _ _ (qb84 _ _ hk67)) (by decide)).trans el79)) ((hg191 b19 4 0 4 (qS88 _ _ (qb84 _ _ hk67)) (by decide)).trans ((hg186 b19 4 0 4 (qS88 _ _ (qb84 _ _ hk67)) (by decide)).trans el89)) ((hg191 b33 10 0 0 (qS88 _ _ (qb84 _ _ hk72)) (by decide)).trans ((hg186 b33 10 0 0 (qS88 _ _ (qb84 _ _ hk72)) (by decide)).trans el99)) ((hg191 b37 13 0 1 (qS88 _ _ (qb84 _ _ hs_y64)) (by decide)).trans ((hg186 b37 13 0 1 (qS88 _ _ (qb84 _ _ hs_y64)) (by decide)).trans el109)) ((hg191 b37 13 0 10 (qS88 _ _ (qb84 _ _ hs_y64)) (by decide)).trans ((hg186 b37 13 0 10 (qS88 _ _ (qb84 _ _ hs_y64)) (by decide)).trans el119)) ((hg191 b37 13 0 13 (qS88 _ _ (qb84 _ _ hs_y64)) (by decide)).trans ((hg186 b37 13 0 13 (qS88 _ _ (qb84 _ _ hs_y64)) (by decide)).trans el129)) ((hg191 b37 13 0 14 (qS88 _ _ (qb84 _ _ hs_y64)) (by decide)).trans ((hg186 b37 13 0 14 (qS88 _ _ (qb84 _ _ hs_y64)) (by decide)).trans el139)) ((hg191 b37 13 0 12 (qS88 _ _ (qb84 _ _ hs_y64)) (by decide)).trans ((hg186 b37 13 0 12 (qS88 _ _ (qb84 _ _ hs_y64)) (by decide)).trans el149)) ((hg191 b33 10 0 1 (qS88 _ _ (qb84 _ _ hk72)) (by decide)).trans ((hg186 b33 10 0 1 (qS88 _ _ (qb84 _ _ hk72)) (by decide)).trans exk9)) ((hg191 b37 13 0 2 (qS88 _ _ (qb84 _ _ hs_y64)) (by decide)).trans ((hg186 b37 13 0 2 (qS88 _ _ (qb84 _ _ hs_y64)) (by decide)).trans emk9)) ((hg191 b1 12 0 12 (qS88 _ _ (qb84 _ _ hk66)) (by decide)).trans ((hg186 b1 12 0 12 (qS88 _ _ (qb84 _ _ hk66)) (by decide)).trans ext9)) ((hg191 b37 13 0 3 (qS88 _ _ (qb84 _ _ hs_y64)) (by decide)).trans ((hg186 b37 13 0 3 (qS88 _ _ (qb84 _ _ hs_y64)) (by decide)).trans emt9)) ((hg191 b34 5 0 3 (qS88 _ _ (qb84 _ _ hk73)) (by decide)).trans ((hg186 b34 5 0 3 (qS88 _ _ (qb84 _ _ hk73)) (by decide)).trans exc9)) ((hg191 b37 13 0 69 (qS88 _ _ (qb84 _ _ hs_y64)) (by decide)).trans ((hg186 b37 13 0 69 (qS88 _ _ (qb84 _ _ hs_y64)) (by decide)).trans emc9)) ((hg191 b36 0 0 2 (qS88 _ _ (qb84 _ _ hk75)) (by decide)).trans ((hg186 b36 0 0 2 (qS88 _ _ (qb84 _ _ hk75)) (by decide)).trans exb9)) ((hg191 b37 13 0 16 (qS88 _ _ (qb84 _ _ hs_y64)) (by decide)).trans ((hg186 b37 13 0 16 (qS88 _ _ (qb84 _ _ hs_y64)) (by decide)).trans emb9)) ((hg191 b1 12 0 16 (qS88 _ _ (qb84 _ _ hk66)) (by decide)).trans ((hg186 b1 12 0 16 (qS88 _ _ (qb84 _ _ hk66)) (by decide)).trans exsh9)) ((hg191 b37 13 0 89 (qS88 _ _ (qb84 _ _ hs_y64)) (by decide)).trans ((hg186 b37 13 0 89 (qS88 _ _ (qb84 _ _ hs_y64)) (by decide)).trans emsh9)) ((hg191 b1 12 0 17 (qS88 _ _ (qb84 _ _ hk66)) (by decide)).trans ((hg186 b1 12 0 17 (qS88 _ _ (qb84 _ _ hk66)) (by decide)).trans exsp9)) ((hg191 b37 13 0 90 (qS88 _ _ (qb84 _ _ hs_y64)) (by decide)).trans ((hg186 b37 13 0 90 (qS88 _ _ (qb84 _ _ hs_y64)) (by decide)).trans emsp9)) ((hg191 b37 13 0 17 (qS88 _ _ (qb84 _ _ hs_y64)) (by decide)).trans ((hg186 b37 13 0 17 (qS88 _ _ (qb84 _ _ hs_y64)) (by decide)).trans emsm9)) (xWn.m (xWn.m wn9 (qS88 _ _ (qb84 _ _ hk71)) (qS88 _ _ (qb84 _ _ hk78)) hg186 xLe.rf (by decide)) (qS88 _ _ (qb84 _ _ hk71)) (qS88 _ _ (qb84 _ _ hk78)) hg191 xLe.rf (by decide)) (by rw [(Eq.trans (xv_m hg191 (qS88 _ _ (qb84 _ _ hk69)) (by decide) (by decide)) (xv_m hg186 (qS88 _ _ (qb84 _ _ hk69)) (by decide) (by decide))), (Eq.trans (xv_m hg191 (qS88 _ _ (qb84 _ _ hk76)) (by decide) (by decide)) (xv_m hg186 (qS88 _ _ (qb84 _ _ hk76)) (by decide) (by decide)))]; exact wt9) (by rw [(Eq.trans (xv_m hg191 (qS88 _ _ (qb84 _ _ hk70)) (by decide) (by decide)) (xv_m hg186 (qS88 _ _ (qb84 _ _ hk70)) (by decide) (by decide))), (Eq.trans (xv_m hg191 (qS88 _ _ (qb84 _ _ hk77)) (by decide) (by decide)) (xv_m hg186 (qS88 _ _ (qb84 _ _ hk77)) (by decide) (by decide)))]; exact ld9) (by rw [(Eq.trans (xv_m hg191 (qS88 _ _ (qb84 _ _ hk68)) (by decide) (by decide)) (xv_m hg186 (qS88 _ _ (qb84 _ _ hk68)) (by decide) (by decide))), (Eq.trans (xv_m hg191 (qS88 _ _ (qb84 _ _ hs_b83)) (by decide) (by decide)) (xv_m hg186 (qS88 _ _ (qb84 _ _ hs_b83)) (by decide) (by decide)))]; exact sk9) (by rw [(Eq.trans (xv_m hg191 (qS88 _ _ (qb84 _ _ hs_b81)) (by decide) (by decide)) (xv_m hg186 (qS88 _ _ (qb84 _ _ hs_b81)) (by decide) (by decide))), (Eq.trans (xv_m hg191 (qS88 _ _ (qb84 _ _ hs_b82)) (by decide) (by decide)) (xv_m hg186 (qS88 _ _ (qb84 _ _ hs_b82)) (by decide) (by decide)))]; exact xTc.mono tc9 (by omega)) dc9 ds9 (by omega) (by omega) (by omega)
        · refine X_tableIn hK 445 5 (by decide) c93 (by decide) (by decide) dL_law_40 rfl (by decide) ?_
          refine X_aloadn hK (i := 1) 3 dL_law_445 rfl rfl ?_
          refine X_callV hK [] [] lk_L_47 (c_X11_weather _ _ _ _ _ S88 g89 b1 b33 k9 b81 b19 b20 (qS88 _ _ (qb84 _ _ hk66)) el09 (qS88 _ _ (qb84 _ _ hk72)) (by omega) exk9 el99 (qS88 _ _ (qb84 _ _ hs_b81)) el49 (qS88 _ _ (qb84 _ _ hk67)) el59 (qS88 _ _ (qb84 _ _ hk68))) (qS88 _ _ (qb84 _ _ hk66)) ⟨by decide, rfl⟩ dL_law_446 rfl rfl (by simp [Value.category]) (by decide) (by omega) (by omega) (by decide) (fun r195 S197 g196 pr195 qr195 hg196 => ?_)
          obtain ⟨rfl, z198, rfl, lz198, uz198, k199, k200, k201⟩ := pr195
          refine X_st [.int (iI z198)] rfl ?_
          refine X_pop hK dL_law_449 rfl ?_
          refine X_aloadn hK (i := 2) 2 dL_law_450 rfl rfl ?_
          refine X_callV hK [] [] lk_L_51 (c3_weather _ _ _ _ _ S88 g196 b37 k9 b82 sm9 b83 (qS88 _ _ (qb84 _ _ hs_y64)) (by omega) ((hg196 b37 13 0 2 (qS88 _ _ (qb84 _ _ hs_y64)) (by decide)).trans emk9) ((hg196 b37 13 0 1 (qS88 _ _ (qb84 _ _ hs_y64)) (by decide)).trans el109) (qS88 _ _ (qb84 _ _ hs_b82)) (by omega) ((hg196 b37 13 0 17 (qS88 _ _ (qb84 _ _ hs_y64)) (by decide)).trans emsm9) ((hg196 b37 13 0 10 (qS88 _ _ (qb84 _ _ hs_y64)) (by decide)).trans el119) (qS88 _ _ (qb84 _ _ hs_b83))) (qS88 _ _ (qb84 _ _ hs_y64)) ⟨by decide, rfl⟩ dL_law_451 rfl rfl (by simp [Value.category]) (by decide) (by omega) (by omega) (by decide) (fun r202 S204 g203 pr202 qr202 hg203 => ?_)
          obtain ⟨rfl, z205, rfl, lz205, uz205, k206, k207, k208⟩ := pr202
          refine X_st [.int (iI z205)] rfl ?_
          have hq9 : z198 = z205 := xbeq k200 k207 (by rw [(xv_m hg196 (qS88 _ _ (qb84 _ _ hs_b82)) (by decide) (by decide)), tc9.wk]) (by omega) (by omega)
          obtain ⟨z209, lz209, uz209, ez209, iz209⟩ : ∃ s8 : Int, 0 ≤ s8 ∧ s8 ≤ 400 ∧ g203 b37 17 = .int (iI s8) ∧ xSm (xv g203 b20) (xv g203 b83) s8 := by
            by_cases h9 : z198 = 1
            · have hb9 := k200.mp h9
              obtain ⟨a1, a2⟩ := k208.1 (by omega)
              exact ⟨_, by omega, by omega, a1, xSm.of (by omega) (by rw [(xv_m hg203 (qS88 _ _ (qb84 _ _ hk68)) (by decide) (by decide))]; exact k201.1 h9) a2 (by rw [(xv_m hg196 (qS88 _ _ (qb84 _ _ hs_b82)) (by decide) (by decide))]; exact tc9)⟩
            · obtain ⟨a1, a2⟩ := k208.2 (by omega)
              exact ⟨_, by omega, by omega, a1, by rw [(xv_m hg203 (qS88 _ _ (qb84 _ _ hk68)) (by decide) (by decide)), k201.2 h9, a2, (xv_m hg196 (qS88 _ _ (qb84 _ _ hs_b83)) (by decide) (by decide))]; exact sk9⟩
          refine X_pop hK dL_law_454 rfl ?_
          refine X_goto hK 1465 dL_law_455 (by decide) ?_
          refine X_iinc hK (i := 4) (z := i9) (n := 6) 0 [(4, .int (iI (i9 + 6))), (3, .ref b84), (2, .ref b37), (1, .ref b1), (0, .ref b)] dL_law_1465 rfl (by decide) rfl ?_
          refine X_goto hK 23 dL_law_1468 (by decide) ?_
          exact ih9 S88 qS88 g203 (i9 + 6) (0) t9 c9 b9 sh9 sp9 z209 (by omega) (by omega) (by omega) (by omega) (by omega) (by omega) (by omega) (by omega) (xLs_mod (xLs_mod al9 hg196 (by decide)) hg203 (by decide)) si9 (xPi_m (xPi_m pi9 hg196 xLe.rf (by decide)) hg203 xLe.rf (by decide)) (xMp_m (xMp_m mp9 hg196 xLe.rf (by decide)) hg203 xLe.rf (by decide)) (xTw_m (xTw_m tw9 hg196 xLe.rf (by decide)) hg203 xLe.rf (by decide)) (xPw_m (xPw_m pw9 hg196 xLe.rf (by decide)) hg203 xLe.rf (by decide)) ((hg203 b1 12 0 0 (qS88 _ _ (qb84 _ _ hk66)) (by decide)).trans ((hg196 b1 12 0 0 (qS88 _ _ (qb84 _ _ hk66)) (by decide)).trans el09)) ((hg203 b1 12 0 3 (qS88 _ _ (qb84 _ _ hk66)) (by decide)).trans ((hg196 b1 12 0 3 (qS88 _ _ (qb84 _ _ hk66)) (by decide)).trans el19)) ((hg203 b1 12 0 1 (qS88 _ _ (qb84 _ _ hk66)) (by decide)).trans ((hg196 b1 12 0 1 (qS88 _ _ (qb84 _ _ hk66)) (by decide)).trans el29)) ((hg203 b35 6 0 1 (qS88 _ _ (qb84 _ _ hk74)) (by decide)).trans ((hg196 b35 6 0 1 (qS88 _ _ (qb84 _ _ hk74)) (by decide)).trans el39)) ((hg203 b1 12 0 2 (qS88 _ _ (qb84 _ _ hk66)) (by decide)).trans ((hg196 b1 12 0 2 (qS88 _ _ (qb84 _ _ hk66)) (by decide)).trans el49)) ((hg203 b19 4 0 0 (qS88 _ _ (qb84 _ _ hk67)) (by decide)).trans ((hg196 b19 4 0 0 (qS88 _ _ (qb84 _ _ hk67)) (by decide)).trans el59)) ((hg203 b19 4 0 2 (qS88 _ _ (qb84 _ _ hk67)) (by decide)).trans ((hg196 b19 4 0 2 (qS88 _ _ (qb84 _ _ hk67)) (by decide)).trans el69)) ((hg203 b19 4 0 3 (qS88 _ _ (qb84 _ _ hk67)) (by decide)).trans ((hg196 b19 4 0 3 (qS88 _ _ (qb84 _ _ hk67)) (by decide)).trans el79)) ((hg203 b19 4 0 4 (qS88 _ _ (qb84 _ _ hk67)) (by decide)).trans ((hg196 b19 4 0 4 (qS88 _ _ (qb84 _ _ hk67)) (by decide)).trans el89)) ((hg203 b33 10 0 0 (qS88 _ _ (qb84 _ _ hk72)) (by decide)).trans ((hg196 b33 10 0 0 (qS88 _ _ (qb84 _ _ hk72)) (by decide)).trans el99)) ((hg203 b37 13 0 1 (qS88 _ _ (qb84 _ _ hs_y64)) (by decide)).trans ((hg196 b37 13 0 1 (qS88 _ _ (qb84 _ _ hs_y64)) (by decide)).trans el109)) ((hg203 b37 13 0 10 (qS88 _ _ (qb84 _ _ hs_y64)) (by decide)).trans ((hg196 b37 13 0 10 (qS88 _ _ (qb84 _ _ hs_y64)) (by decide)).trans el119)) ((hg203 b37 13 0 13 (qS88 _ _ (qb84 _ _ hs_y64)) (by decide)).trans ((hg196 b37 13 0 13 (qS88 _ _ (qb84 _ _ hs_y64)) (by decide)).trans el129)) ((hg203 b37 13 0 14 (qS88 _ _ (qb84 _ _ hs_y64)) (by decide)).trans ((hg196 b37 13 0 14 (qS88 _ _ (qb84 _ _ hs_y64)) (by decide)).trans el139)) ((hg203 b37 13 0 12 (qS88 _ _ (qb84 _ _ hs_y64)) (by decide)).trans ((hg196 b37 13 0 12 (qS88 _ _ (qb84 _ _ hs_y64)) (by decide)).trans el149)) ((hg203 b33 10 0 1 (qS88 _ _ (qb84 _ _ hk72)) (by decide)).trans k199) k206 ((hg203 b1 12 0 12 (qS88 _ _ (qb84 _ _ hk66)) (by decide)).trans ((hg196 b1 12 0 12 (qS88 _ _ (qb84 _ _ hk66)) (by decide)).trans ext9)) ((hg203 b37 13 0 3 (qS88 _ _ (qb84 _ _ hs_y64)) (by decide)).trans ((hg196 b37 13 0 3 (qS88 _ _ (qb84 _ _ hs_y64)) (by decide)).trans emt9)) ((hg203 b34 5 0 3 (qS88 _ _ (qb84 _ _ hk73)) (by decide)).trans ((hg196 b34 5 0 3 (qS88 _ _ (qb84 _ _ hk73)) (by decide)).trans exc9)) ((hg203 b37 13 0 69 (qS88 _ _ (qb84 _ _ hs_y64)) (by decide)).trans ((hg196 b37 13 0 69 (qS88 _ _ (qb84 _ _ hs_y64)) (by decide)).trans emc9)) ((hg203 b36 0 0 2 (qS88 _ _ (qb84 _ _ hk75)) (by decide)).trans ((hg196 b36 0 0 2 (qS88 _ _ (qb84 _ _ hk75)) (by decide)).trans exb9)) ((hg203 b37 13 0 16 (qS88 _ _ (qb84 _ _ hs_y64)) (by decide)).trans ((hg196 b37 13 0 16 (qS88 _ _ (qb84 _ _ hs_y64)) (by decide)).trans emb9)) ((hg203 b1 12 0 16 (qS88 _ _ (qb84 _ _ hk66)) (by decide)).trans ((hg196 b1 12 0 16 (qS88 _ _ (qb84 _ _ hk66)) (by decide)).trans exsh9)) ((hg203 b37 13 0 89 (qS88 _ _ (qb84 _ _ hs_y64)) (by decide)).trans ((hg196 b37 13 0 89 (qS88 _ _ (qb84 _ _ hs_y64)) (by decide)).trans emsh9)) ((hg203 b1 12 0 17 (qS88 _ _ (qb84 _ _ hk66)) (by decide)).trans ((hg196 b1 12 0 17 (qS88 _ _ (qb84 _ _ hk66)) (by decide)).trans exsp9)) ((hg203 b37 13 0 90 (qS88 _ _ (qb84 _ _ hs_y64)) (by decide)).trans ((hg196 b37 13 0 90 (qS88 _ _ (qb84 _ _ hs_y64)) (by decide)).trans emsp9)) ez209 (xWn.m (xWn.m wn9 (qS88 _ _ (qb84 _ _ hk71)) (qS88 _ _ (qb84 _ _ hk78)) hg196 xLe.rf (by decide)) (qS88 _ _ (qb84 _ _ hk71)) (qS88 _ _ (qb84 _ _ hk78)) hg203 xLe.rf (by decide)) (by rw [(Eq.trans (xv_m hg203 (qS88 _ _ (qb84 _ _ hk69)) (by decide) (by decide)) (xv_m hg196 (qS88 _ _ (qb84 _ _ hk69)) (by decide) (by decide))), (Eq.trans (xv_m hg203 (qS88 _ _ (qb84 _ _ hk76)) (by decide) (by decide)) (xv_m hg196 (qS88 _ _ (qb84 _ _ hk76)) (by decide) (by decide)))]; exact wt9) (by rw [(Eq.trans (xv_m hg203 (qS88 _ _ (qb84 _ _ hk70)) (by decide) (by decide)) (xv_m hg196 (qS88 _ _ (qb84 _ _ hk70)) (by decide) (by decide))), (Eq.trans (xv_m hg203 (qS88 _ _ (qb84 _ _ hk77)) (by decide) (by decide)) (xv_m hg196 (qS88 _ _ (qb84 _ _ hk77)) (by decide) (by decide)))]; exact ld9) iz209 (by rw [(Eq.trans (xv_m hg203 (qS88 _ _ (qb84 _ _ hs_b81)) (by decide) (by decide)) (xv_m hg196 (qS88 _ _ (qb84 _ _ hs_b81)) (by decide) (by decide))), (Eq.trans (xv_m hg203 (qS88 _ _ (qb84 _ _ hs_b82)) (by decide) (by decide)) (xv_m hg196 (qS88 _ _ (qb84 _ _ hs_b82)) (by decide) (by decide)))]; exact xTc.mono tc9 (by omega)) dc9 ds9 (by omega) (by omega) (by omega)
        · refine X_tableIn hK 458 6 (by decide) c93 (by decide) (by decide) dL_law_40 rfl (by decide) ?_
          refine X_aloadn hK (i := 1) 3 dL_law_458 rfl rfl ?_
          refine X_aloadn hK (i := 0) 4 dL_law_459 rfl rfl ?_
          refine X_iload hK (i := 4) 0 dL_law_460 rfl ?_
          refine X_iconst hK dL_law_462 ?_
          refine X_iadd hK dL_law_463 ?_
          refine X_scr hK hX hbl hbA hL (by omega) (by omega) dL_law_464 (fun z210 ez210 lz210 uz210 => ?_)
          refine X_callV hK [.int (iI z210)] [] lk_L_52 (c_X11_sky _ _ _ _ _ S88 g89 b1 z210 b19 b20 (qS88 _ _ (qb84 _ _ hk66)) (by omega) el49 (qS88 _ _ (qb84 _ _ hk67)) el59 (qS88 _ _ (qb84 _ _ hk68))) (qS88 _ _ (qb84 _ _ hk66)) ⟨by decide, rfl⟩ dL_law_465 rfl rfl (by simp [Value.category]) (by decide) (by omega) (by omega) (by decide) (fun r211 S213 g212 pr211 qr211 hg212 => ?_)
          obtain ⟨rfl, rfl, z214, rfl, lz214, uz214, k215⟩ := pr211
          refine X_st [.int (iI z214)] rfl ?_
          refine X_pop hK dL_law_468 rfl ?_
          refine X_aloadn hK (i := 2) 2 dL_law_469 rfl rfl ?_
          refine X_aloadn hK (i := 0) 4 dL_law_470 rfl rfl ?_
          refine X_iload hK (i := 4) 0 dL_law_471 rfl ?_
          refine X_iconst hK dL_law_473 ?_
          refine X_iadd hK dL_law_474 ?_
          refine X_scrK hK hX hbl hbA hL (by omega) (by omega) ez210 dL_law_475 ?_
          refine X_callV hK [.int (iI z210)] [] lk_L_55 (c_X12_sky _ _ _ _ _ S88 g89 b37 z210 sm9 b83 (qS88 _ _ (qb84 _ _ hs_y64)) (by omega) (by omega) emsm9 el119 (qS88 _ _ (qb84 _ _ hs_b83))) (qS88 _ _ (qb84 _ _ hs_y64)) ⟨by decide, rfl⟩ dL_law_476 rfl rfl (by simp [Value.category]) (by decide) (by omega) (by omega) (by decide) (fun r216 S218 g217 pr216 qr216 hg217 => ?_)
          obtain ⟨rfl, z219, rfl, lz219, uz219, k220⟩ := pr216
          refine X_st [.int (iI z219)] rfl ?_
          refine X_pop hK dL_law_479 rfl ?_
          refine X_goto hK 1465 dL_law_480 (by decide) ?_
          refine X_iinc hK (i := 4) (z := i9) (n := 6) 0 [(4, .int (iI (i9 + 6))), (3, .ref b84), (2, .ref b37), (1, .ref b1), (0, .ref b)] dL_law_1465 rfl (by decide) rfl ?_
          refine X_goto hK 23 dL_law_1468 (by decide) ?_
          exact ih9 S88 qS88 g217 (i9 + 6) k9 t9 c9 b9 sh9 sp9 sm9 (by omega) (by omega) (by omega) (by omega) (by omega) (by omega) (by omega) (by omega) (xLs_mod al9 hg217 (by decide)) si9 (xPi_m pi9 hg217 xLe.rf (by decide)) (xMp_m mp9 hg217 xLe.rf (by decide)) (xTw_m tw9 hg217 xLe.rf (by decide)) (xPw_m pw9 hg217 xLe.rf (by decide)) ((hg217 b1 12 0 0 (qS88 _ _ (qb84 _ _ hk66)) (by decide)).trans el09) ((hg217 b1 12 0 3 (qS88 _ _ (qb84 _ _ hk66)) (by decide)).trans el19) ((hg217 b1 12 0 1 (qS88 _ _ (qb84 _ _ hk66)) (by decide)).trans el29) ((hg217 b35 6 0 1 (qS88 _ _ (qb84 _ _ hk74)) (by decide)).trans el39) ((hg217 b1 12 0 2 (qS88 _ _ (qb84 _ _ hk66)) (by decide)).trans el49) ((hg217 b19 4 0 0 (qS88 _ _ (qb84 _ _ hk67)) (by decide)).trans el59) ((hg217 b19 4 0 2 (qS88 _ _ (qb84 _ _ hk67)) (by decide)).trans el69) ((hg217 b19 4 0 3 (qS88 _ _ (qb84 _ _ hk67)) (by decide)).trans el79) ((hg217 b19 4 0 4 (qS88 _ _ (qb84 _ _ hk67)) (by decide)).trans el89) ((hg217 b33 10 0 0 (qS88 _ _ (qb84 _ _ hk72)) (by decide)).trans el99) ((hg217 b37 13 0 1 (qS88 _ _ (qb84 _ _ hs_y64)) (by decide)).trans el109) ((hg217 b37 13 0 10 (qS88 _ _ (qb84 _ _ hs_y64)) (by decide)).trans el119) ((hg217 b37 13 0 13 (qS88 _ _ (qb84 _ _ hs_y64)) (by decide)).trans el129) ((hg217 b37 13 0 14 (qS88 _ _ (qb84 _ _ hs_y64)) (by decide)).trans el139) ((hg217 b37 13 0 12 (qS88 _ _ (qb84 _ _ hs_y64)) (by decide)).trans el149) ((hg217 b33 10 0 1 (qS88 _ _ (qb84 _ _ hk72)) (by decide)).trans exk9) ((hg217 b37 13 0 2 (qS88 _ _ (qb84 _ _ hs_y64)) (by decide)).trans emk9) ((hg217 b1 12 0 12 (qS88 _ _ (qb84 _ _ hk66)) (by decide)).trans ext9) ((hg217 b37 13 0 3 (qS88 _ _ (qb84 _ _ hs_y64)) (by decide)).trans emt9) ((hg217 b34 5 0 3 (qS88 _ _ (qb84 _ _ hk73)) (by decide)).trans exc9) ((hg217 b37 13 0 69 (qS88 _ _ (qb84 _ _ hs_y64)) (by decide)).trans emc9) ((hg217 b36 0 0 2 (qS88 _ _ (qb84 _ _ hk75)) (by decide)).trans exb9) ((hg217 b37 13 0 16 (qS88 _ _ (qb84 _ _ hs_y64)) (by decide)).trans emb9) ((hg217 b1 12 0 16 (qS88 _ _ (qb84 _ _ hk66)) (by decide)).trans exsh9) ((hg217 b37 13 0 89 (qS88 _ _ (qb84 _ _ hs_y64)) (by decide)).trans emsh9) ((hg217 b1 12 0 17 (qS88 _ _ (qb84 _ _ hk66)) (by decide)).trans exsp9) ((hg217 b37 13 0 90 (qS88 _ _ (qb84 _ _ hs_y64)) (by decide)).trans emsp9) ((hg217 b37 13 0 17 (qS88 _ _ (qb84 _ _ hs_y64)) (by decide)).trans emsm9) (xWn.m wn9 (qS88 _ _ (qb84 _ _ hk71)) (qS88 _ _ (qb84 _ _ hk78)) hg217 xLe.rf (by decide)) (by rw [(xv_m hg217 (qS88 _ _ (qb84 _ _ hk69)) (by decide) (by decide)), (xv_m hg217 (qS88 _ _ (qb84 _ _ hk76)) (by decide) (by decide))]; exact wt9) (by rw [(xv_m hg217 (qS88 _ _ (qb84 _ _ hk70)) (by decide) (by decide)), (xv_m hg217 (qS88 _ _ (qb84 _ _ hk77)) (by decide) (by decide))]; exact ld9) (by rw [(xv_m hg217 (qS88 _ _ (qb84 _ _ hk68)) (by decide) (by decide)), (xv_m hg217 (qS88 _ _ (qb84 _ _ hs_b83)) (by decide) (by decide))]; exact sk9) (by rw [(xv_m hg217 (qS88 _ _ (qb84 _ _ hs_b81)) (by decide) (by decide)), (xv_m hg217 (qS88 _ _ (qb84 _ _ hs_b82)) (by decide) (by decide))]; exact xTc.mono tc9 (by omega)) dc9 ds9 (by omega) (by omega) (by omega)
        · refine X_tableIn hK 483 7 (by decide) c93 (by decide) (by decide) dL_law_40 rfl (by decide) ?_
          refine X_aloadn hK (i := 1) 3 dL_law_483 rfl rfl ?_
          refine X_aloadn hK (i := 0) 4 dL_law_484 rfl rfl ?_
          refine X_iload hK (i := 4) 0 dL_law_485 rfl ?_
          refine X_iconst hK dL_law_487 ?_
          refine X_iadd hK dL_law_488 ?_
          refine X_scr hK hX hbl hbA hL (by omega) (by omega) dL_law_489 (fun z221 ez221 lz221 uz221 => ?_)
          refine X_aloadn hK (i := 0) 4 dL_law_490 rfl rfl ?_
          refine X_iload hK (i := 4) 0 dL_law_491 rfl ?_
          refine X_iconst hK dL_law_493 ?_
          refine X_iadd hK dL_law_494 ?_
          refine X_scr hK hX hbl hbA hL (by omega) (by omega) dL_law_495 (fun z222 ez222 lz222 uz222 => ?_)
          refine X_aloadn hK (i := 0) 4 dL_law_496 rfl rfl ?_
          refine X_iload hK (i := 4) 0 dL_law_497 rfl ?_
          refine X_iconst hK dL_law_499 ?_
          refine X_iadd hK dL_law_500 ?_
          refine X_scr hK hX hbl hbA hL (by omega) (by omega) dL_law_501 (fun z223 ez223 lz223 uz223 => ?_)
          refine X_callV hK [.int (iI z221), .int (iI z222), .int (iI z223)] [] lk_L_56 (c_X11_headline _ _ _ _ _ S88 g89 b1 z221 z222 z223 t9 (qS88 _ _ (qb84 _ _ hk66)) (by omega) (by omega) (by omega) (by omega) ext9) (qS88 _ _ (qb84 _ _ hk66)) ⟨by decide, rfl⟩ dL_law_502 rfl rfl (by simp [Value.category]) (by decide) (by omega) (by omega) (by decide) (fun r224 S226 g225 pr224 qr224 hg225 => ?_)
          obtain ⟨rfl, z227, rfl, lz227, uz227, k228⟩ := pr224
          refine X_st [.int (iI z227)] rfl ?_
          refine X_pop hK dL_law_505 rfl ?_
          refine X_aloadn hK (i := 2) 2 dL_law_506 rfl rfl ?_
          refine X_aloadn hK (i := 0) 4 dL_law_507 rfl rfl ?_
          refine X_iload hK (i := 4) 0 dL_law_508 rfl ?_
          refine X_iconst hK dL_law_510 ?_
          refine X_iadd hK dL_law_511 ?_
          refine X_scrK hK hX hbl hbA hL (by omega) (by omega) ez221 dL_law_512 ?_
          refine X_aloadn hK (i := 0) 4 dL_law_513 rfl rfl ?_
          refine X_iload hK (i := 4) 0 dL_law_514 rfl ?_
          refine X_iconst hK dL_law_516 ?_
          refine X_iadd hK dL_law_517 ?_
          refine X_scrK hK hX hbl hbA hL (by omega) (by omega) ez222 dL_law_518 ?_
          refine X_aloadn hK (i := 0) 4 dL_law_519 rfl rfl ?_
          refine X_iload hK (i := 4) 0 dL_law_520 rfl ?_
          refine X_iconst hK dL_law_522 ?_
          refine X_iadd hK dL_law_523 ?_
          refine X_scrK hK hX hbl hbA hL (by omega) (by omega) ez223 dL_law_524 ?_
          refine X_callV hK [.int (iI z221), .int (iI z222), .int (iI z223)] [] lk_L_60 (c_X12_headline _ _ _ _ _ S88 g225 b37 z221 z222 z223 t9 (qS88 _ _ (qb84 _ _ hs_y64)) (by omega) (by omega) (by omega) (by omega) ((hg225 b37 13 0 3 (qS88 _ _ (qb84 _ _ hs_y64)) (by decide)).trans emt9)) (qS88 _ _ (qb84 _ _ hs_y64)) ⟨by decide, rfl⟩ dL_law_525 rfl rfl (by simp [Value.category]) (by decide) (by omega) (by omega) (by decide) (fun r229 S231 g230 pr229 qr229 hg230 => ?_)
          obtain ⟨rfl, z232, rfl, lz232, uz232, k233⟩ := pr229
          refine X_st [.int (iI z232)] rfl ?_
          refine X_pop hK dL_law_528 rfl ?_
          refine X_goto hK 1465 dL_law_529 (by decide) ?_
          refine X_iinc hK (i := 4) (z := i9) (n := 6) 0 [(4, .int (iI (i9 + 6))), (3, .ref b84), (2, .ref b37), (1, .ref b1), (0, .ref b)] dL_law_1465 rfl (by decide) rfl ?_
          refine X_goto hK 23 dL_law_1468 (by decide) ?_
          exact ih9 S88 qS88 g230 (i9 + 6) k9 t9 c9 b9 sh9 sp9 sm9 (by omega) (by omega) (by omega) (by omega) (by omega) (by omega) (by omega) (by omega) (xLs_mod (xLs_mod al9 hg225 (by decide)) hg230 (by decide)) si9 (xPi_m (xPi_m pi9 hg225 xLe.rf (by decide)) hg230 xLe.rf (by decide)) (xMp_m (xMp_m mp9 hg225 xLe.rf (by decide)) hg230 xLe.rf (by decide)) (xTw_m (xTw_m tw9 hg225 xLe.rf (by decide)) hg230 xLe.rf (by decide)) (xPw_m (xPw_m pw9 hg225 xLe.rf (by decide)) hg230 xLe.rf (by decide)) ((hg230 b1 12 0 0 (qS88 _ _ (qb84 _ _ hk66)) (by decide)).trans ((hg225 b1 12 0 0 (qS88 _ _ (qb84 _ _ hk66)) (by decide)).trans el09)) ((hg230 b1 12 0 3 (qS88 _ _ (qb84 _ _ hk66)) (by decide)).trans ((hg225 b1 12 0 3 (qS88 _ _ (qb84 _ _ hk66)) (by decide)).trans el19)) ((hg230 b1 12 0 1 (qS88 _ _ (qb84 _ _ hk66)) (by decide)).trans ((hg225 b1 12 0 1 (qS88 _ _ (qb84 _ _ hk66)) (by decide)).trans el29)) ((hg230 b35 6 0 1 (qS88 _ _ (qb84 _ _ hk74)) (by decide)).trans ((hg225 b35 6 0 1 (qS88 _ _ (qb84 _ _ hk74)) (by decide)).trans el39)) ((hg230 b1 12 0 2 (qS88 _ _ (qb84 _ _ hk66)) (by decide)).trans ((hg225 b1 12 0 2 (qS88 _ _ (qb84 _ _ hk66)) (by decide)).trans el49)) ((hg230 b19 4 0 0 (qS88 _ _ (qb84 _ _ hk67)) (by decide)).trans ((hg225 b19 4 0 0 (qS88 _ _ (qb84 _ _ hk67)) (by decide)).trans el59)) ((hg230 b19 4 0 2 (qS88 _ _ (qb84 _ _ hk67)) (by decide)).trans ((hg225 b19 4 0 2 (qS88 _ _ (qb84 _ _ hk67)) (by decide)).trans el69)) ((hg230 b19 4 0 3 (qS88 _ _ (qb84 _ _ hk67)) (by decide)).trans ((hg225 b19 4 0 3 (qS88 _ _ (qb84 _ _ hk67)) (by decide)).trans el79)) ((hg230 b19 4 0 4 (qS88 _ _ (qb84 _ _ hk67)) (by decide)).trans ((hg225 b19 4 0 4 (qS88 _ _ (qb84 _ _ hk67)) (by decide)).trans el89)) ((hg230 b33 10 0 0 (qS88 _ _ (qb84 _ _ hk72)) (by decide)).trans ((hg225 b33 10 0 0 (qS88 _ _ (qb84 _ _ hk72)) (by decide)).trans el99)) ((hg230 b37 13 0 1 (qS88 _ _ (qb84 _ _ hs_y64)) (by decide)).trans ((hg225 b37 13 0 1 (qS88 _ _ (qb84 _ _ hs_y64)) (by decide)).trans el109)) ((hg230 b37 13 0 10 (qS88 _ _ (qb84 _ _ hs_y64)) (by decide)).trans ((hg225 b37 13 0 10 (qS88 _ _ (qb84 _ _ hs_y64)) (by decide)).trans el119)) ((hg230 b37 13 0 13 (qS88 _ _ (qb84 _ _ hs_y64)) (by decide)).trans ((hg225 b37 13 0 13 (qS88 _ _ (qb84 _ _ hs_y64)) (by decide)).trans el129)) ((hg230 b37 13 0 14 (qS88 _ _ (qb84 _ _ hs_y64)) (by decide)).trans ((hg225 b37 13 0 14 (qS88 _ _ (qb84 _ _ hs_y64)) (by decide)).trans el139)) ((hg230 b37 13 0 12 (qS88 _ _ (qb84 _ _ hs_y64)) (by decide)).trans ((hg225 b37 13 0 12 (qS88 _ _ (qb84 _ _ hs_y64)) (by decide)).trans el149)) ((hg230 b33 10 0 1 (qS88 _ _ (qb84 _ _ hk72)) (by decide)).trans ((hg225 b33 10 0 1 (qS88 _ _ (qb84 _ _ hk72)) (by decide)).trans exk9)) ((hg230 b37 13 0 2 (qS88 _ _ (qb84 _ _ hs_y64)) (by decide)).trans ((hg225 b37 13 0 2 (qS88 _ _ (qb84 _ _ hs_y64)) (by decide)).trans emk9)) ((hg230 b1 12 0 12 (qS88 _ _ (qb84 _ _ hk66)) (by decide)).trans ((hg225 b1 12 0 12 (qS88 _ _ (qb84 _ _ hk66)) (by decide)).trans ext9)) ((hg230 b37 13 0 3 (qS88 _ _ (qb84 _ _ hs_y64)) (by decide)).trans ((hg225 b37 13 0 3 (qS88 _ _ (qb84 _ _ hs_y64)) (by decide)).trans emt9)) ((hg230 b34 5 0 3 (qS88 _ _ (qb84 _ _ hk73)) (by decide)).trans ((hg225 b34 5 0 3 (qS88 _ _ (qb84 _ _ hk73)) (by decide)).trans exc9)) ((hg230 b37 13 0 69 (qS88 _ _ (qb84 _ _ hs_y64)) (by decide)).trans ((hg225 b37 13 0 69 (qS88 _ _ (qb84 _ _ hs_y64)) (by decide)).trans emc9)) ((hg230 b36 0 0 2 (qS88 _ _ (qb84 _ _ hk75)) (by decide)).trans ((hg225 b36 0 0 2 (qS88 _ _ (qb84 _ _ hk75)) (by decide)).trans exb9)) ((hg230 b37 13 0 16 (qS88 _ _ (qb84 _ _ hs_y64)) (by decide)).trans ((hg225 b37 13 0 16 (qS88 _ _ (qb84 _ _ hs_y64)) (by decide)).trans emb9)) ((hg230 b1 12 0 16 (qS88 _ _ (qb84 _ _ hk66)) (by decide)).trans ((hg225 b1 12 0 16 (qS88 _ _ (qb84 _ _ hk66)) (by decide)).trans exsh9)) ((hg230 b37 13 0 89 (qS88 _ _ (qb84 _ _ hs_y64)) (by decide)).trans ((hg225 b37 13 0 89 (qS88 _ _ (qb84 _ _ hs_y64)) (by decide)).trans emsh9)) ((hg230 b1 12 0 17 (qS88 _ _ (qb84 _ _ hk66)) (by decide)).trans ((hg225 b1 12 0 17 (qS88 _ _ (qb84 _ _ hk66)) (by decide)).trans exsp9)) ((hg230 b37 13 0 90 (qS88 _ _ (qb84 _ _ hs_y64)) (by decide)).trans ((hg225 b37 13 0 90 (qS88 _ _ (qb84 _ _ hs_y64)) (by decide)).trans emsp9)) ((hg230 b37 13 0 17 (qS88 _ _ (qb84 _ _ hs_y64)) (by decide)).trans ((hg225 b37 13 0 17 (qS88 _ _ (qb84 _ _ hs_y64)) (by decide)).trans emsm9)) (xWn.m (xWn.m wn9 (qS88 _ _ (qb84 _ _ hk71)) (qS88 _ _ (qb84 _ _ hk78)) hg225 xLe.rf (by decide)) (qS88 _ _ (qb84 _ _ hk71)) (qS88 _ _ (qb84 _ _ hk78)) hg230 xLe.rf (by decide)) (by rw [(Eq.trans (xv_m hg230 (qS88 _ _ (qb84 _ _ hk69)) (by decide) (by decide)) (xv_m hg225 (qS88 _ _ (qb84 _ _ hk69)) (by decide) (by decide))), (Eq.trans (xv_m hg230 (qS88 _ _ (qb84 _ _ hk76)) (by decide) (by decide)) (xv_m hg225 (qS88 _ _ (qb84 _ _ hk76)) (by decide) (by decide)))]; exact wt9) (by rw [(Eq.trans (xv_m hg230 (qS88 _ _ (qb84 _ _ hk70)) (by decide) (by decide)) (xv_m hg225 (qS88 _ _ (qb84 _ _ hk70)) (by decide) (by decide))), (Eq.trans (xv_m hg230 (qS88 _ _ (qb84 _ _ hk77)) (by decide) (by decide)) (xv_m hg225 (qS88 _ _ (qb84 _ _ hk77)) (by decide) (by decide)))]; exact ld9) (by rw [(Eq.trans (xv_m hg230 (qS88 _ _ (qb84 _ _ hk68)) (by decide) (by decide)) (xv_m hg225 (qS88 _ _ (qb84 _ _ hk68)) (by decide) (by decide))), (Eq.trans (xv_m hg230 (qS88 _ _ (qb84 _ _ hs_b83)) (by decide) (by decide)) (xv_m hg225 (qS88 _ _ (qb84 _ _ hs_b83)) (by decide) (by decide)))]; exact sk9) (by rw [(Eq.trans (xv_m hg230 (qS88 _ _ (qb84 _ _ hs_b81)) (by decide) (by decide)) (xv_m hg225 (qS88 _ _ (qb84 _ _ hs_b81)) (by decide) (by decide))), (Eq.trans (xv_m hg230 (qS88 _ _ (qb84 _ _ hs_b82)) (by decide) (by decide)) (xv_m hg225 (qS88 _ _ (qb84 _ _ hs_b82)) (by decide) (by decide)))]; exact xTc.mono tc9 (by omega)) dc9 ds9 (by omega) (by omega) (by omega)
        · refine X_tableIn hK 532 8 (by decide) c93 (by decide) (by decide) dL_law_40 rfl (by decide) ?_
          refine X_aloadn hK (i := 1) 3 dL_law_532 rfl rfl ?_
          refine X_aloadn hK (i := 0) 4 dL_law_533 rfl rfl ?_
          refine X_iload hK (i := 4) 0 dL_law_534 rfl ?_
          refine X_iconst hK dL_law_536 ?_
          refine X_iadd hK dL_law_537 ?_
          refine X_scr hK hX hbl hbA hL (by omega) (by omega) dL_law_538 (fun z234 ez234 lz234 uz234 => ?_)
          refine X_aloadn hK (i := 0) 4 dL_law_539 rfl rfl ?_
          refine X_iload hK (i := 4) 0 dL_law_540 rfl ?_
          refine X_iconst hK dL_law_542 ?_
          refine X_iadd hK dL_law_543 ?_
          refine X_scr hK hX hbl hbA hL (by omega) (by omega) dL_law_544 (fun z235 ez235 lz235 uz235 => ?_)
          refine X_aloadn hK (i := 0) 4 dL_law_545 rfl rfl ?_
          refine X_iload hK (i := 4) 0 dL_law_546 rfl ?_
          refine X_iconst hK dL_law_548 ?_
          refine X_iadd hK dL_law_549 ?_
          refine X_scr hK hX hbl hbA hL (by omega) (by omega) dL_law_550 (fun z236 ez236 lz236 uz236 => ?_)
          refine X_callV hK [.int (iI z234), .int (iI z235), .int (iI z236)] [] lk_L_61 (c_X11_table _ _ _ _ _ S88 g89 b1 z234 z235 z236 b19 b21 b22 (qS88 _ _ (qb84 _ _ hk66)) (by omega) (by omega) (by omega) el49 (qS88 _ _ (qb84 _ _ hk67)) el69 (qS88 _ _ (qb84 _ _ hk69)) el79 (qS88 _ _ (qb84 _ _ hk70))) (qS88 _ _ (qb84 _ _ hk66)) ⟨by decide, rfl⟩ dL_law_551 rfl rfl (by simp [Value.category]) (by decide) (by omega) (by omega) (by decide) (fun r237 S239 g238 pr237 qr237 hg238 => ?_)
          obtain ⟨rfl, z240, rfl, lz240, uz240, k241, k242⟩ := pr237
          refine X_st [.int (iI z240)] rfl ?_
          refine X_pop hK dL_law_554 rfl ?_
          refine X_aloadn hK (i := 2) 2 dL_law_555 rfl rfl ?_
          refine X_aloadn hK (i := 0) 4 dL_law_556 rfl rfl ?_
          refine X_iload hK (i := 4) 0 dL_law_557 rfl ?_
          refine X_iconst hK dL_law_559 ?_
          refine X_iadd hK dL_law_560 ?_
          refine X_scrK hK hX hbl hbA hL (by omega) (by omega) ez234 dL_law_561 ?_
          refine X_aloadn hK (i := 0) 4 dL_law_562 rfl rfl ?_
          refine X_iload hK (i := 4) 0 dL_law_563 rfl ?_
          refine X_iconst hK dL_law_565 ?_
          refine X_iadd hK dL_law_566 ?_
          refine X_scrK hK hX hbl hbA hL (by omega) (by omega) ez235 dL_law_567 ?_
          refine X_aloadn hK (i := 0) 4 dL_law_568 rfl rfl ?_
          refine X_iload hK (i := 4) 0 dL_law_569 rfl ?_
          refine X_iconst hK dL_law_571 ?_
          refine X_iadd hK dL_law_572 ?_
          refine X_scrK hK hX hbl hbA hL (by omega) (by omega) ez236 dL_law_573 ?_
          refine X_callV hK [.int (iI z234), .int (iI z235), .int (iI z236)] [] lk_L_64 (c_X12_table _ _ _ _ _ S88 g238 b37 z234 z235 z236 b60 b61 (qS88 _ _ (qb84 _ _ hs_y64)) (by omega) (by omega) (by omega) ((hg238 b37 13 0 13 (qS88 _ _ (qb84 _ _ hs_y64)) (by decide)).trans el129) (qS88 _ _ (qb84 _ _ hk76)) ((hg238 b37 13 0 14 (qS88 _ _ (qb84 _ _ hs_y64)) (by decide)).trans el139) (qS88 _ _ (qb84 _ _ hk77))) (qS88 _ _ (qb84 _ _ hs_y64)) ⟨by decide, rfl⟩ dL_law_574 rfl rfl (by simp [Value.category]) (by decide) (by omega) (by omega) (by decide) (fun r243 S245 g244 pr243 qr243 hg244 => ?_)
          obtain ⟨rfl, z246, rfl, lz246, uz246, k247, k248⟩ := pr243
          refine X_st [.int (iI z246)] rfl ?_
          have tb249 := xTb.tc (by rw [(xv_m hg238 (qS88 _ _ (qb84 _ _ hk76)) (by decide) (by decide))]; exact wt9) (by rw [(xv_m hg238 (qS88 _ _ (qb84 _ _ hk77)) (by decide) (by decide))]; exact ld9) k242 k248 (by omega)
          refine X_pop hK dL_law_577 rfl ?_
          refine X_goto hK 1465 dL_law_578 (by decide) ?_
          refine X_iinc hK (i := 4) (z := i9) (n := 6) 0 [(4, .int (iI (i9 + 6))), (3, .ref b84), (2, .ref b37), (1, .ref b1), (0, .ref b)] dL_law_1465 rfl (by decide) rfl ?_
          refine X_goto hK 23 dL_law_1468 (by decide) ?_
          exact ih9 S88 qS88 g244 (i9 + 6) k9 t9 c9 b9 sh9 sp9 sm9 (by omega) (by omega) (by omega) (by omega) (by omega) (by omega) (by omega) (by omega) (xLs_mod (xLs_mod al9 hg238 (by decide)) hg244 (by decide)) si9 (xPi_m (xPi_m pi9 hg238 xLe.rf (by decide)) hg244 xLe.rf (by decide)) (xMp_m (xMp_m mp9 hg238 xLe.rf (by decide)) hg244 xLe.rf (by decide)) (xTw_m (xTw_m tw9 hg238 xLe.rf (by decide)) hg244 xLe.rf (by decide)) (xPw_m (xPw_m pw9 hg238 xLe.rf (by decide)) hg244 xLe.rf (by decide)) ((hg244 b1 12 0 0 (qS88 _ _ (qb84 _ _ hk66)) (by decide)).trans ((hg238 b1 12 0 0 (qS88 _ _ (qb84 _ _ hk66)) (by decide)).trans el09)) ((hg244 b1 12 0 3 (qS88 _ _ (qb84 _ _ hk66)) (by decide)).trans ((hg238 b1 12 0 3 (qS88 _ _ (qb84 _ _ hk66)) (by decide)).trans el19)) ((hg244 b1 12 0 1 (qS88 _ _ (qb84 _ _ hk66)) (by decide)).trans ((hg238 b1 12 0 1 (qS88 _ _ (qb84 _ _ hk66)) (by decide)).trans el29)) ((hg244 b35 6 0 1 (qS88 _ _ (qb84 _ _ hk74)) (by decide)).trans ((hg238 b35 6 0 1 (qS88 _ _ (qb84 _ _ hk74)) (by decide)).trans el39)) ((hg244 b1 12 0 2 (qS88 _ _ (qb84 _ _ hk66)) (by decide)).trans ((hg238 b1 12 0 2 (qS88 _ _ (qb84 _ _ hk66)) (by decide)).trans el49)) ((hg244 b19 4 0 0 (qS88 _ _ (qb84 _ _ hk67)) (by decide)).trans ((hg238 b19 4 0 0 (qS88 _ _ (qb84 _ _ hk67)) (by decide)).trans el59)) ((hg244 b19 4 0 2 (qS88 _ _ (qb84 _ _ hk67)) (by decide)).trans ((hg238 b19 4 0 2 (qS88 _ _ (qb84 _ _ hk67)) (by decide)).trans el69)) ((hg244 b19 4 0 3 (qS88 _ _ (qb84 _ _ hk67)) (by decide)).trans ((hg238 b19 4 0 3 (qS88 _ _ (qb84 _ _ hk67)) (by decide)).trans el79)) ((hg244 b19 4 0 4 (qS88 _ _ (qb84 _ _ hk67)) (by decide)).trans ((hg238 b19 4 0 4 (qS88 _ _ (qb84 _ _ hk67)) (by decide)).trans el89)) ((hg244 b33 10 0 0 (qS88 _ _ (qb84 _ _ hk72)) (by decide)).trans ((hg238 b33 10 0 0 (qS88 _ _ (qb84 _ _ hk72)) (by decide)).trans el99)) ((hg244 b37 13 0 1 (qS88 _ _ (qb84 _ _ hs_y64)) (by decide)).trans ((hg238 b37 13 0 1 (qS88 _ _ (qb84 _ _ hs_y64)) (by decide)).trans el109)) ((hg244 b37 13 0 10 (qS88 _ _ (qb84 _ _ hs_y64)) (by decide)).trans ((hg238 b37 13 0 10 (qS88 _ _ (qb84 _ _ hs_y64)) (by decide)).trans el119)) ((hg244 b37 13 0 13 (qS88 _ _ (qb84 _ _ hs_y64)) (by decide)).trans ((hg238 b37 13 0 13 (qS88 _ _ (qb84 _ _ hs_y64)) (by decide)).trans el129)) ((hg244 b37 13 0 14 (qS88 _ _ (qb84 _ _ hs_y64)) (by decide)).trans ((hg238 b37 13 0 14 (qS88 _ _ (qb84 _ _ hs_y64)) (by decide)).trans el139)) ((hg244 b37 13 0 12 (qS88 _ _ (qb84 _ _ hs_y64)) (by decide)).trans ((hg238 b37 13 0 12 (qS88 _ _ (qb84 _ _ hs_y64)) (by decide)).trans el149)) ((hg244 b33 10 0 1 (qS88 _ _ (qb84 _ _ hk72)) (by decide)).trans ((hg238 b33 10 0 1 (qS88 _ _ (qb84 _ _ hk72)) (by decide)).trans exk9)) ((hg244 b37 13 0 2 (qS88 _ _ (qb84 _ _ hs_y64)) (by decide)).trans ((hg238 b37 13 0 2 (qS88 _ _ (qb84 _ _ hs_y64)) (by decide)).trans emk9)) ((hg244 b1 12 0 12 (qS88 _ _ (qb84 _ _ hk66)) (by decide)).trans ((hg238 b1 12 0 12 (qS88 _ _ (qb84 _ _ hk66)) (by decide)).trans ext9)) ((hg244 b37 13 0 3 (qS88 _ _ (qb84 _ _ hs_y64)) (by decide)).trans ((hg238 b37 13 0 3 (qS88 _ _ (qb84 _ _ hs_y64)) (by decide)).trans emt9)) ((hg244 b34 5 0 3 (qS88 _ _ (qb84 _ _ hk73)) (by decide)).trans ((hg238 b34 5 0 3 (qS88 _ _ (qb84 _ _ hk73)) (by decide)).trans exc9)) ((hg244 b37 13 0 69 (qS88 _ _ (qb84 _ _ hs_y64)) (by decide)).trans ((hg238 b37 13 0 69 (qS88 _ _ (qb84 _ _ hs_y64)) (by decide)).trans emc9)) ((hg244 b36 0 0 2 (qS88 _ _ (qb84 _ _ hk75)) (by decide)).trans ((hg238 b36 0 0 2 (qS88 _ _ (qb84 _ _ hk75)) (by decide)).trans exb9)) ((hg244 b37 13 0 16 (qS88 _ _ (qb84 _ _ hs_y64)) (by decide)).trans ((hg238 b37 13 0 16 (qS88 _ _ (qb84 _ _ hs_y64)) (by decide)).trans emb9)) ((hg244 b1 12 0 16 (qS88 _ _ (qb84 _ _ hk66)) (by decide)).trans ((hg238 b1 12 0 16 (qS88 _ _ (qb84 _ _ hk66)) (by decide)).trans exsh9)) ((hg244 b37 13 0 89 (qS88 _ _ (qb84 _ _ hs_y64)) (by decide)).trans ((hg238 b37 13 0 89 (qS88 _ _ (qb84 _ _ hs_y64)) (by decide)).trans emsh9)) ((hg244 b1 12 0 17 (qS88 _ _ (qb84 _ _ hk66)) (by decide)).trans ((hg238 b1 12 0 17 (qS88 _ _ (qb84 _ _ hk66)) (by decide)).trans exsp9)) ((hg244 b37 13 0 90 (qS88 _ _ (qb84 _ _ hs_y64)) (by decide)).trans ((hg238 b37 13 0 90 (qS88 _ _ (qb84 _ _ hs_y64)) (by decide)).trans emsp9)) ((hg244 b37 13 0 17 (qS88 _ _ (qb84 _ _ hs_y64)) (by decide)).trans ((hg238 b37 13 0 17 (qS88 _ _ (qb84 _ _ hs_y64)) (by decide)).trans emsm9)) (xWn.m (xWn.m wn9 (qS88 _ _ (qb84 _ _ hk71)) (qS88 _ _ (qb84 _ _ hk78)) hg238 xLe.rf (by decide)) (qS88 _ _ (qb84 _ _ hk71)) (qS88 _ _ (qb84 _ _ hk78)) hg244 xLe.rf (by decide)) (by rw [(xv_m hg244 (qS88 _ _ (qb84 _ _ hk69)) (by decide) (by decide))]; exact tb249.1) (by rw [(xv_m hg244 (qS88 _ _ (qb84 _ _ hk70)) (by decide) (by decide))]; exact tb249.2) (by rw [(Eq.trans (xv_m hg244 (qS88 _ _ (qb84 _ _ hk68)) (by decide) (by decide)) (xv_m hg238 (qS88 _ _ (qb84 _ _ hk68)) (by decide) (by decide))), (Eq.trans (xv_m hg244 (qS88 _ _ (qb84 _ _ hs_b83)) (by decide) (by decide)) (xv_m hg238 (qS88 _ _ (qb84 _ _ hs_b83)) (by decide) (by decide)))]; exact sk9) (by rw [(Eq.trans (xv_m hg244 (qS88 _ _ (qb84 _ _ hs_b81)) (by decide) (by decide)) (xv_m hg238 (qS88 _ _ (qb84 _ _ hs_b81)) (by decide) (by decide))), (Eq.trans (xv_m hg244 (qS88 _ _ (qb84 _ _ hs_b82)) (by decide) (by decide)) (xv_m hg238 (qS88 _ _ (qb84 _ _ hs_b82)) (by decide) (by decide)))]; exact xTc.mono tc9 (by omega)) dc9 ds9 (by omega) (by omega) (by omega)
        · refine X_tableIn hK 581 9 (by decide) c93 (by decide) (by decide) dL_law_40 rfl (by decide) ?_
          refine X_aloadn hK (i := 1) 3 dL_law_581 rfl rfl ?_
          refine X_aloadn hK (i := 0) 4 dL_law_582 rfl rfl ?_
          refine X_iload hK (i := 4) 0 dL_law_583 rfl ?_
          refine X_iconst hK dL_law_585 ?_
          refine X_iadd hK dL_law_586 ?_
          refine X_scr hK hX hbl hbA hL (by omega) (by omega) dL_law_587 (fun z250 ez250 lz250 uz250 => ?_)
          refine X_aloadn hK (i := 0) 4 dL_law_588 rfl rfl ?_
          refine X_iload hK (i := 4) 0 dL_law_589 rfl ?_
          refine X_iconst hK dL_law_591 ?_
          refine X_iadd hK dL_law_592 ?_
          refine X_scr hK hX hbl hbA hL (by omega) (by omega) dL_law_593 (fun z251 ez251 lz251 uz251 => ?_)
          refine X_aloadn hK (i := 0) 4 dL_law_594 rfl rfl ?_
          refine X_iload hK (i := 4) 0 dL_law_595 rfl ?_
          refine X_iconst hK dL_law_597 ?_
          refine X_iadd hK dL_law_598 ?_
          refine X_scr hK hX hbl hbA hL (by omega) (by omega) dL_law_599 (fun z252 ez252 lz252 uz252 => ?_)
          refine X_callV hK [.int (iI z250), .int (iI z251), .int (iI z252)] [] lk_L_65 (c_X11_want _ _ _ _ _ S88 g89 b1 z250 z251 z252 b19 b23 (qS88 _ _ (qb84 _ _ hk66)) (by omega) (by omega) (by omega) el49 (qS88 _ _ (qb84 _ _ hk67)) el89 (qS88 _ _ (qb84 _ _ hk71))) (qS88 _ _ (qb84 _ _ hk66)) ⟨by decide, rfl⟩ dL_law_600 rfl rfl (by simp [Value.category]) (by decide) (by omega) (by omega) (by decide) (fun r253 S255 g254 pr253 qr253 hg254 => ?_)
          obtain ⟨rfl, z256, rfl, lz256, uz256, k257, k258⟩ := pr253
          refine X_st [.int (iI z256)] rfl ?_
          refine X_pop hK dL_law_603 rfl ?_
          refine X_aloadn hK (i := 2) 2 dL_law_604 rfl rfl ?_
          refine X_aloadn hK (i := 0) 4 dL_law_605 rfl rfl ?_
          refine X_iload hK (i := 4) 0 dL_law_606 rfl ?_
          refine X_iconst hK dL_law_608 ?_
          refine X_iadd hK dL_law_609 ?_
          refine X_scrK hK hX hbl hbA hL (by omega) (by omega) ez250 dL_law_610 ?_
          refine X_aloadn hK (i := 0) 4 dL_law_611 rfl rfl ?_
          refine X_iload hK (i := 4) 0 dL_law_612 rfl ?_
          refine X_iconst hK dL_law_614 ?_
          refine X_iadd hK dL_law_615 ?_
          refine X_scrK hK hX hbl hbA hL (by omega) (by omega) ez251 dL_law_616 ?_
          refine X_aloadn hK (i := 0) 4 dL_law_617 rfl rfl ?_
          refine X_iload hK (i := 4) 0 dL_law_618 rfl ?_
          refine X_iconst hK dL_law_620 ?_
          refine X_iadd hK dL_law_621 ?_
          refine X_scrK hK hX hbl hbA hL (by omega) (by omega) ez252 dL_law_622 ?_
          refine X_callV hK [.int (iI z250), .int (iI z251), .int (iI z252)] [] lk_L_68 (c_X12_want _ _ _ _ _ S88 g254 b37 z250 z251 z252 b62 (qS88 _ _ (qb84 _ _ hs_y64)) (by omega) (by omega) (by omega) ((hg254 b37 13 0 12 (qS88 _ _ (qb84 _ _ hs_y64)) (by decide)).trans el149) (qS88 _ _ (qb84 _ _ hk78))) (qS88 _ _ (qb84 _ _ hs_y64)) ⟨by decide, rfl⟩ dL_law_623 rfl rfl (by simp [Value.category]) (by decide) (by omega) (by omega) (by decide) (fun r259 S261 g260 pr259 qr259 hg260 => ?_)
          obtain ⟨rfl, z262, rfl, lz262, uz262, k263, k264⟩ := pr259
          refine X_st [.int (iI z262)] rfl ?_
          have wn265 : xWn S88 g260 b23 b62 := by
            by_cases h9 : z256 = 1
            · obtain ⟨w9, a1, a2, a3⟩ := k258.1 h9
              have hb9 := k257.mp h9
              exact xWn.up wn9 (by omega) (by omega) a1 a2 a3 (fun k9 => ((hg260 _ _ _ _ (qS88 _ _ (qb84 _ _ hk71)) (by rw [xky_a (by decide)]; decide)).trans (hg254 _ _ _ _ (qS88 _ _ (qb84 _ _ hk71)) (by rw [xky_a (by decide)]; decide)))) (fun r9 n9 h9 => xv_m hg260 h9 (by decide) (by decide)) (by rw [← (xv_m hg254 (qS88 _ _ (qb84 _ _ hk78)) (by decide) (by decide))]; exact k264.1 (by omega))
            · exact xWn.same wn9 (fun k9 => ((hg260 _ _ _ _ (qS88 _ _ (qb84 _ _ hk71)) (by rw [xky_a (by decide)]; decide)).trans (hg254 _ _ _ _ (qS88 _ _ (qb84 _ _ hk71)) (by rw [xky_a (by decide)]; decide)))) (fun r9 n9 h8 => (xv_m hg260 h8 (by decide) (by decide)).trans (k258.2 h9 r9 n9 h8)) ((k264.2 (by omega)).trans (xv_m hg254 (qS88 _ _ (qb84 _ _ hk78)) (by decide) (by decide)))
          refine X_pop hK dL_law_626 rfl ?_
          refine X_goto hK 1465 dL_law_627 (by decide) ?_
          refine X_iinc hK (i := 4) (z := i9) (n := 6) 0 [(4, .int (iI (i9 + 6))), (3, .ref b84), (2, .ref b37), (1, .ref b1), (0, .ref b)] dL_law_1465 rfl (by decide) rfl ?_
          refine X_goto hK 23 dL_law_1468 (by decide) ?_
          exact ih9 S88 qS88 g260 (i9 + 6) k9 t9 c9 b9 sh9 sp9 sm9 (by omega) (by omega) (by omega) (by omega) (by omega) (by omega) (by omega) (by omega) (xLs_mod (xLs_mod al9 hg254 (by decide)) hg260 (by decide)) si9 (xPi_m (xPi_m pi9 hg254 xLe.rf (by decide)) hg260 xLe.rf (by decide)) (xMp_m (xMp_m mp9 hg254 xLe.rf (by decide)) hg260 xLe.rf (by decide)) (xTw_m (xTw_m tw9 hg254 xLe.rf (by decide)) hg260 xLe.rf (by decide)) (xPw_m (xPw_m pw9 hg254 xLe.rf (by decide)) hg260 xLe.rf (by decide)) ((hg260 b1 12 0 0 (qS88 _ _ (qb84 _ _ hk66)) (by decide)).trans ((hg254 b1 12 0 0 (qS88 _ _ (qb84 _ _ hk66)) (by decide)).trans el09)) ((hg260 b1 12 0 3 (qS88 _ _ (qb84 _ _ hk66)) (by decide)).trans ((hg254 b1 12 0 3 (qS88 _ _ (qb84 _ _ hk66)) (by decide)).trans el19)) ((hg260 b1 12 0 1 (qS88 _ _ (qb84 _ _ hk66)) (by decide)).trans ((hg254 b1 12 0 1 (qS88 _ _ (qb84 _ _ hk66)) (by decide)).trans el29)) ((hg260 b35 6 0 1 (qS88 _ _ (qb84 _ _ hk74)) (by decide)).trans ((hg254 b35 6 0 1 (qS88 _ _ (qb84 _ _ hk74)) (by decide)).trans el39)) ((hg260 b1 12 0 2 (qS88 _ _ (qb84 _ _ hk66)) (by decide)).trans ((hg254 b1 12 0 2 (qS88 _ _ (qb84 _ _ hk66)) (by decide)).trans el49)) ((hg260 b19 4 0 0 (qS88 _ _ (qb84 _ _ hk67)) (by decide)).trans ((hg254 b19 4 0 0 (qS88 _ _ (qb84 _ _ hk67)) (by decide)).trans el59)) ((hg260 b19 4 0 2 (qS88 _ _ (qb84 _ _ hk67)) (by decide)).trans ((hg254 b19 4 0 2 (qS88 _ _ (qb84 _ _ hk67)) (by decide)).trans el69)) ((hg260 b19 4 0 3 (qS88 _ _ (qb84 _ _ hk67)) (by decide)).trans ((hg254 b19 4 0 3 (qS88 _ _ (qb84 _ _ hk67)) (by decide)).trans el79)) ((hg260 b19 4 0 4 (qS88 _ _ (qb84 _ _ hk67)) (by decide)).trans ((hg254 b19 4 0 4 (qS88 _ _ (qb84 _ _ hk67)) (by decide)).trans el89)) ((hg260 b33 10 0 0 (qS88 _ _ (qb84 _ _ hk72)) (by decide)).trans ((hg254 b33 10 0 0 (qS88 _ _ (qb84 _ _ hk72)) (by decide)).trans el99)) ((hg260 b37 13 0 1 (qS88 _ _ (qb84 _ _ hs_y64)) (by decide)).trans ((hg254 b37 13 0 1 (qS88 _ _ (qb84 _ _ hs_y64)) (by decide)).trans el109)) ((hg260 b37 13 0 10 (qS88 _ _ (qb84 _ _ hs_y64)) (by decide)).trans ((hg254 b37 13 0 10 (qS88 _ _ (qb84 _ _ hs_y64)) (by decide)).trans el119)) ((hg260 b37 13 0 13 (qS88 _ _ (qb84 _ _ hs_y64)) (by decide)).trans ((hg254 b37 13 0 13 (qS88 _ _ (qb84 _ _ hs_y64)) (by decide)).trans el129)) ((hg260 b37 13 0 14 (qS88 _ _ (qb84 _ _ hs_y64)) (by decide)).trans ((hg254 b37 13 0 14 (qS88 _ _ (qb84 _ _ hs_y64)) (by decide)).trans el139)) ((hg260 b37 13 0 12 (qS88 _ _ (qb84 _ _ hs_y64)) (by decide)).trans ((hg254 b37 13 0 12 (qS88 _ _ (qb84 _ _ hs_y64)) (by decide)).trans el149)) ((hg260 b33 10 0 1 (qS88 _ _ (qb84 _ _ hk72)) (by decide)).trans ((hg254 b33 10 0 1 (qS88 _ _ (qb84 _ _ hk72)) (by decide)).trans exk9)) ((hg260 b37 13 0 2 (qS88 _ _ (qb84 _ _ hs_y64)) (by decide)).trans ((hg254 b37 13 0 2 (qS88 _ _ (qb84 _ _ hs_y64)) (by decide)).trans emk9)) ((hg260 b1 12 0 12 (qS88 _ _ (qb84 _ _ hk66)) (by decide)).trans ((hg254 b1 12 0 12 (qS88 _ _ (qb84 _ _ hk66)) (by decide)).trans ext9)) ((hg260 b37 13 0 3 (qS88 _ _ (qb84 _ _ hs_y64)) (by decide)).trans ((hg254 b37 13 0 3 (qS88 _ _ (qb84 _ _ hs_y64)) (by decide)).trans emt9)) ((hg260 b34 5 0 3 (qS88 _ _ (qb84 _ _ hk73)) (by decide)).trans ((hg254 b34 5 0 3 (qS88 _ _ (qb84 _ _ hk73)) (by decide)).trans exc9)) ((hg260 b37 13 0 69 (qS88 _ _ (qb84 _ _ hs_y64)) (by decide)).trans ((hg254 b37 13 0 69 (qS88 _ _ (qb84 _ _ hs_y64)) (by decide)).trans emc9)) ((hg260 b36 0 0 2 (qS88 _ _ (qb84 _ _ hk75)) (by decide)).trans ((hg254 b36 0 0 2 (qS88 _ _ (qb84 _ _ hk75)) (by decide)).trans exb9)) ((hg260 b37 13 0 16 (qS88 _ _ (qb84 _ _ hs_y64)) (by decide)).trans ((hg254 b37 13 0 16 (qS88 _ _ (qb84 _ _ hs_y64)) (by decide)).trans emb9)) ((hg260 b1 12 0 16 (qS88 _ _ (qb84 _ _ hk66)) (by decide)).trans ((hg254 b1 12 0 16 (qS88 _ _ (qb84 _ _ hk66)) (by decide)).trans exsh9)) ((hg260 b37 13 0 89 (qS88 _ _ (qb84 _ _ hs_y64)) (by decide)).trans ((hg254 b37 13 0 89 (qS88 _ _ (qb84 _ _ hs_y64)) (by decide)).trans emsh9)) ((hg260 b1 12 0 17 (qS88 _ _ (qb84 _ _ hk66)) (by decide)).trans ((hg254 b1 12 0 17 (qS88 _ _ (qb84 _ _ hk66)) (by decide)).trans exsp9)) ((hg260 b37 13 0 90 (qS88 _ _ (qb84 _ _ hs_y64)) (by decide)).trans ((hg254 b37 13 0 90 (qS88 _ _ (qb84 _ _ hs_y64)) (by decide)).trans emsp9)) ((hg260 b37 13 0 17 (qS88 _ _ (qb84 _ _ hs_y64)) (by decide)).trans ((hg254 b37 13 0 17 (qS88 _ _ (qb84 _ _ hs_y64)) (by decide)).trans emsm9)) wn265 (by rw [(Eq.trans (xv_m hg260 (qS88 _ _ (qb84 _ _ hk69)) (by decide) (by decide)) (xv_m hg254 (qS88 _ _ (qb84 _ _ hk69)) (by decide) (by decide))), (Eq.trans (xv_m hg260 (qS88 _ _ (qb84 _ _ hk76)) (by decide) (by decide)) (xv_m hg254 (qS88 _ _ (qb84 _ _ hk76)) (by decide) (by decide)))]; exact wt9) (by rw [(Eq.trans (xv_m hg260 (qS88 _ _ (qb84 _ _ hk70)) (by decide) (by decide)) (xv_m hg254 (qS88 _ _ (qb84 _ _ hk70)) (by decide) (by decide))), (Eq.trans (xv_m hg260 (qS88 _ _ (qb84 _ _ hk77)) (by decide) (by decide)) (xv_m hg254 (qS88 _ _ (qb84 _ _ hk77)) (by decide) (by decide)))]; exact ld9) (by rw [(Eq.trans (xv_m hg260 (qS88 _ _ (qb84 _ _ hk68)) (by decide) (by decide)) (xv_m hg254 (qS88 _ _ (qb84 _ _ hk68)) (by decide) (by decide))), (Eq.trans (xv_m hg260 (qS88 _ _ (qb84 _ _ hs_b83)) (by decide) (by decide)) (xv_m hg254 (qS88 _ _ (qb84 _ _ hs_b83)) (by decide) (by decide)))]; exact sk9) (by rw [(Eq.trans (xv_m hg260 (qS88 _ _ (qb84 _ _ hs_b81)) (by decide) (by decide)) (xv_m hg254 (qS88 _ _ (qb84 _ _ hs_b81)) (by decide) (by decide))), (Eq.trans (xv_m hg260 (qS88 _ _ (qb84 _ _ hs_b82)) (by decide) (by decide)) (xv_m hg254 (qS88 _ _ (qb84 _ _ hs_b82)) (by decide) (by decide)))]; exact xTc.mono tc9 (by omega)) dc9 ds9 (by omega) (by omega) (by omega)
        · refine X_tableIn hK 630 10 (by decide) c93 (by decide) (by decide) dL_law_40 rfl (by decide) ?_
          refine X_aloadn hK (i := 1) 3 dL_law_630 rfl rfl ?_
          refine X_aloadn hK (i := 0) 4 dL_law_631 rfl rfl ?_
          refine X_iload hK (i := 4) 0 dL_law_632 rfl ?_
          refine X_iconst hK dL_law_634 ?_
          refine X_iadd hK dL_law_635 ?_
          refine X_scr hK hX hbl hbA hL (by omega) (by omega) dL_law_636 (fun z266 ez266 lz266 uz266 => ?_)
          refine X_aloadn hK (i := 0) 4 dL_law_637 rfl rfl ?_
          refine X_iload hK (i := 4) 0 dL_law_638 rfl ?_
          refine X_iconst hK dL_law_640 ?_
          refine X_iadd hK dL_law_641 ?_
          refine X_scr hK hX hbl hbA hL (by omega) (by omega) dL_law_642 (fun z267 ez267 lz267 uz267 => ?_)
          refine X_aloadn hK (i := 0) 4 dL_law_643 rfl rfl ?_
          refine X_iload hK (i := 4) 0 dL_law_644 rfl ?_
          refine X_iconst hK dL_law_646 ?_
          refine X_iadd hK dL_law_647 ?_
          refine X_scr hK hX hbl hbA hL (by omega) (by omega) dL_law_648 (fun z268 ez268 lz268 uz268 => ?_)
          refine X_aloadn hK (i := 0) 4 dL_law_649 rfl rfl ?_
          refine X_iload hK (i := 4) 0 dL_law_650 rfl ?_
          refine X_iconst hK dL_law_652 ?_
          refine X_iadd hK dL_law_653 ?_
          refine X_scr hK hX hbl hbA hL (by omega) (by omega) dL_law_654 (fun z269 ez269 lz269 uz269 => ?_)
          refine X_callV hK [.int (iI z266), .int (iI z267), .int (iI z268), .int (iI z269)] [] lk_L_69 (c_X11_asked _ _ _ _ _ S88 g89 b1 z266 z267 z268 z269 b19 b23 b21 b22 (qS88 _ _ (qb84 _ _ hk66)) (by omega) (by omega) (by omega) (by omega) el49 (qS88 _ _ (qb84 _ _ hk67)) el89 (qS88 _ _ (qb84 _ _ hk71)) el69 (qS88 _ _ (qb84 _ _ hk69)) el79 (qS88 _ _ (qb84 _ _ hk70))) (qS88 _ _ (qb84 _ _ hk66)) ⟨by decide, rfl⟩ dL_law_655 rfl rfl (by simp [Value.category]) (by decide) (by omega) (by omega) (by decide) (fun r270 S272 g271 pr270 qr270 hg271 => ?_)
          obtain ⟨rfl, rfl, z273, rfl, lz273, uz273, k274⟩ := pr270
          refine X_st [.int (iI z273)] rfl ?_
          refine X_pop hK dL_law_658 rfl ?_
          refine X_aloadn hK (i := 2) 2 dL_law_659 rfl rfl ?_
          refine X_aloadn hK (i := 0) 4 dL_law_660 rfl rfl ?_
          refine X_iload hK (i := 4) 0 dL_law_661 rfl ?_
          refine X_iconst hK dL_law_663 ?_
          refine X_iadd hK dL_law_664 ?_
          refine X_scrK hK hX hbl hbA hL (by omega) (by omega) ez266 dL_law_665 ?_
          refine X_aloadn hK (i := 0) 4 dL_law_666 rfl rfl ?_
          refine X_iload hK (i := 4) 0 dL_law_667 rfl ?_
          refine X_iconst hK dL_law_669 ?_
          refine X_iadd hK dL_law_670 ?_
          refine X_scrK hK hX hbl hbA hL (by omega) (by omega) ez267 dL_law_671 ?_
          refine X_aloadn hK (i := 0) 4 dL_law_672 rfl rfl ?_
          refine X_iload hK (i := 4) 0 dL_law_673 rfl ?_
          refine X_iconst hK dL_law_675 ?_
          refine X_iadd hK dL_law_676 ?_
          refine X_scrK hK hX hbl hbA hL (by omega) (by omega) ez268 dL_law_677 ?_
          refine X_aloadn hK (i := 0) 4 dL_law_678 rfl rfl ?_
          refine X_iload hK (i := 4) 0 dL_law_679 rfl ?_
          refine X_iconst hK dL_law_681 ?_
          refine X_iadd hK dL_law_682 ?_
          refine X_scrK hK hX hbl hbA hL (by omega) (by omega) ez269 dL_law_683 ?_
          refine X_callV hK [.int (iI z266), .int (iI z267), .int (iI z268), .int (iI z269)] [] lk_L_73 (c_X12_asked _ _ _ _ _ S88 g89 b37 z266 z267 z268 z269 b62 b60 b61 (qS88 _ _ (qb84 _ _ hs_y64)) (by omega) (by omega) (by omega) (by omega) el149 (qS88 _ _ (qb84 _ _ hk78)) el129 (qS88 _ _ (qb84 _ _ hk76)) el139 (qS88 _ _ (qb84 _ _ hk77))) (qS88 _ _ (qb84 _ _ hs_y64)) ⟨by decide, rfl⟩ dL_law_684 rfl rfl (by simp [Value.category]) (by decide) (by omega) (by omega) (by decide) (fun r275 S277 g276 pr275 qr275 hg276 => ?_)
          obtain ⟨rfl, z278, rfl, lz278, uz278, k279⟩ := pr275
          refine X_st [.int (iI z278)] rfl ?_
          refine X_pop hK dL_law_687 rfl ?_
          refine X_goto hK 1465 dL_law_688 (by decide) ?_
          refine X_iinc hK (i := 4) (z := i9) (n := 6) 0 [(4, .int (iI (i9 + 6))), (3, .ref b84), (2, .ref b37), (1, .ref b1), (0, .ref b)] dL_law_1465 rfl (by decide) rfl ?_
          refine X_goto hK 23 dL_law_1468 (by decide) ?_
          exact ih9 S88 qS88 g276 (i9 + 6) k9 t9 c9 b9 sh9 sp9 sm9 (by omega) (by omega) (by omega) (by omega) (by omega) (by omega) (by omega) (by omega) (xLs_mod al9 hg276 (by decide)) si9 (xPi_m pi9 hg276 xLe.rf (by decide)) (xMp_m mp9 hg276 xLe.rf (by decide)) (xTw_m tw9 hg276 xLe.rf (by decide)) (xPw_m pw9 hg276 xLe.rf (by decide)) ((hg276 b1 12 0 0 (qS88 _ _ (qb84 _ _ hk66)) (by decide)).trans el09) ((hg276 b1 12 0 3 (qS88 _ _ (qb84 _ _ hk66)) (by decide)).trans el19) ((hg276 b1 12 0 1 (qS88 _ _ (qb84 _ _ hk66)) (by decide)).trans el29) ((hg276 b35 6 0 1 (qS88 _ _ (qb84 _ _ hk74)) (by decide)).trans el39) ((hg276 b1 12 0 2 (qS88 _ _ (qb84 _ _ hk66)) (by decide)).trans el49) ((hg276 b19 4 0 0 (qS88 _ _ (qb84 _ _ hk67)) (by decide)).trans el59) ((hg276 b19 4 0 2 (qS88 _ _ (qb84 _ _ hk67)) (by decide)).trans el69) ((hg276 b19 4 0 3 (qS88 _ _ (qb84 _ _ hk67)) (by decide)).trans el79) ((hg276 b19 4 0 4 (qS88 _ _ (qb84 _ _ hk67)) (by decide)).trans el89) ((hg276 b33 10 0 0 (qS88 _ _ (qb84 _ _ hk72)) (by decide)).trans el99) ((hg276 b37 13 0 1 (qS88 _ _ (qb84 _ _ hs_y64)) (by decide)).trans el109) ((hg276 b37 13 0 10 (qS88 _ _ (qb84 _ _ hs_y64)) (by decide)).trans el119) ((hg276 b37 13 0 13 (qS88 _ _ (qb84 _ _ hs_y64)) (by decide)).trans el129) ((hg276 b37 13 0 14 (qS88 _ _ (qb84 _ _ hs_y64)) (by decide)).trans el139) ((hg276 b37 13 0 12 (qS88 _ _ (qb84 _ _ hs_y64)) (by decide)).trans el149) ((hg276 b33 10 0 1 (qS88 _ _ (qb84 _ _ hk72)) (by decide)).trans exk9) ((hg276 b37 13 0 2 (qS88 _ _ (qb84 _ _ hs_y64)) (by decide)).trans emk9) ((hg276 b1 12 0 12 (qS88 _ _ (qb84 _ _ hk66)) (by decide)).trans ext9) ((hg276 b37 13 0 3 (qS88 _ _ (qb84 _ _ hs_y64)) (by decide)).trans emt9) ((hg276 b34 5 0 3 (qS88 _ _ (qb84 _ _ hk73)) (by decide)).trans exc9) ((hg276 b37 13 0 69 (qS88 _ _ (qb84 _ _ hs_y64)) (by decide)).trans emc9) ((hg276 b36 0 0 2 (qS88 _ _ (qb84 _ _ hk75)) (by decide)).trans exb9) ((hg276 b37 13 0 16 (qS88 _ _ (qb84 _ _ hs_y64)) (by decide)).trans emb9) ((hg276 b1 12 0 16 (qS88 _ _ (qb84 _ _ hk66)) (by decide)).trans exsh9) ((hg276 b37 13 0 89 (qS88 _ _ (qb84 _ _ hs_y64)) (by decide)).trans emsh9) ((hg276 b1 12 0 17 (qS88 _ _ (qb84 _ _ hk66)) (by decide)).trans exsp9) ((hg276 b37 13 0 90 (qS88 _ _ (qb84 _ _ hs_y64)) (by decide)).trans emsp9) ((hg276 b37 13 0 17 (qS88 _ _ (qb84 _ _ hs_y64)) (by decide)).trans emsm9) (xWn.m wn9 (qS88 _ _ (qb84 _ _ hk71)) (qS88 _ _ (qb84 _ _ hk78)) hg276 xLe.rf (by decide)) (by rw [(xv_m hg276 (qS88 _ _ (qb84 _ _ hk69)) (by decide) (by decide)), (xv_m hg276 (qS88 _ _ (qb84 _ _ hk76)) (by decide) (by decide))]; exact wt9) (by rw [(xv_m hg276 (qS88 _ _ (qb84 _ _ hk70)) (by decide) (by decide)), (xv_m hg276 (qS88 _ _ (qb84 _ _ hk77)) (by decide) (by decide))]; exact ld9) (by rw [(xv_m hg276 (qS88 _ _ (qb84 _ _ hk68)) (by decide) (by decide)), (xv_m hg276 (qS88 _ _ (qb84 _ _ hs_b83)) (by decide) (by decide))]; exact sk9) (by rw [(xv_m hg276 (qS88 _ _ (qb84 _ _ hs_b81)) (by decide) (by decide)), (xv_m hg276 (qS88 _ _ (qb84 _ _ hs_b82)) (by decide) (by decide))]; exact xTc.mono tc9 (by omega)) dc9 ds9 (by omega) (by omega) (by omega)
        · refine X_tableIn hK 691 11 (by decide) c93 (by decide) (by decide) dL_law_40 rfl (by decide) ?_
          refine X_aloadn hK (i := 1) 3 dL_law_691 rfl rfl ?_
          refine X_aloadn hK (i := 0) 4 dL_law_692 rfl rfl ?_
          refine X_iload hK (i := 4) 0 dL_law_693 rfl ?_
          refine X_iconst hK dL_law_695 ?_
          refine X_iadd hK dL_law_696 ?_
          refine X_scr hK hX hbl hbA hL (by omega) (by omega) dL_law_697 (fun z280 ez280 lz280 uz280 => ?_)
          refine X_aloadn hK (i := 0) 4 dL_law_698 rfl rfl ?_
          refine X_iload hK (i := 4) 0 dL_law_699 rfl ?_
          refine X_iconst hK dL_law_701 ?_
          refine X_iadd hK dL_law_702 ?_
          refine X_scr hK hX hbl hbA hL (by omega) (by omega) dL_law_703 (fun z281 ez281 lz281 uz281 => ?_)
          refine X_aloadn hK (i := 0) 4 dL_law_704 rfl rfl ?_
          refine X_iload hK (i := 4) 0 dL_law_705 rfl ?_
          refine X_iconst hK dL_law_707 ?_
          refine X_iadd hK dL_law_708 ?_
          refine X_scr hK hX hbl hbA hL (by omega) (by omega) dL_law_709 (fun z282 ez282 lz282 uz282 => ?_)
          refine X_callV hK [.int (iI z280), .int (iI z281), .int (iI z282)] [] lk_L_74 (c_X11_minutes _ _ _ _ _ S88 g89 b1 z280 z281 z282 (qS88 _ _ (qb84 _ _ hk66)) (by omega) (by omega) (by omega)) (qS88 _ _ (qb84 _ _ hk66)) ⟨by decide, rfl⟩ dL_law_710 rfl rfl (by simp [Value.category]) (by decide) (by omega) (by omega) (by decide) (fun r283 S285 g284 pr283 qr283 hg284 => ?_)
          obtain ⟨rfl, z286, rfl, lz286, uz286, k287⟩ := pr283
          refine X_st [.int (iI z286)] rfl ?_
          refine X_pop hK dL_law_713 rfl ?_
          refine X_aloadn hK (i := 2) 2 dL_law_714 rfl rfl ?_
          refine X_aloadn hK (i := 0) 4 dL_law_715 rfl rfl ?_
          refine X_iload hK (i := 4) 0 dL_law_716 rfl ?_
          refine X_iconst hK dL_law_718 ?_
          refine X_iadd hK dL_law_719 ?_
          refine X_scrK hK hX hbl hbA hL (by omega) (by omega) ez280 dL_law_720 ?_
          refine X_aloadn hK (i := 0) 4 dL_law_721 rfl rfl ?_
          refine X_iload hK (i := 4) 0 dL_law_722 rfl ?_
          refine X_iconst hK dL_law_724 ?_
          refine X_iadd hK dL_law_725 ?_
          refine X_scrK hK hX hbl hbA hL (by omega) (by omega) ez281 dL_law_726 ?_
          refine X_aloadn hK (i := 0) 4 dL_law_727 rfl rfl ?_
          refine X_iload hK (i := 4) 0 dL_law_728 rfl ?_
          refine X_iconst hK dL_law_730 ?_
          refine X_iadd hK dL_law_731 ?_
          refine X_scrK hK hX hbl hbA hL (by omega) (by omega) ez282 dL_law_732 ?_
          refine X_callV hK [.int (iI z280), .int (iI z281), .int (iI z282)] [] lk_L_77 (c_X12_minutes _ _ _ _ _ S88 g284 b37 z280 z281 z282 (qS88 _ _ (qb84 _ _ hs_y64)) (by omega) (by omega) (by omega)) (qS88 _ _ (qb84 _ _ hs_y64)) ⟨by decide, rfl⟩ dL_law_733 rfl rfl (by simp [Value.category]) (by decide) (by omega) (by omega) (by decide) (fun r288 S290 g289 pr288 qr288 hg289 => ?_)
          obtain ⟨rfl, z291, rfl, lz291, uz291, k292⟩ := pr288
          refine X_st [.int (iI z291)] rfl ?_
          refine X_pop hK dL_law_736 rfl ?_
          refine X_goto hK 1465 dL_law_737 (by decide) ?_
          refine X_iinc hK (i := 4) (z := i9) (n := 6) 0 [(4, .int (iI (i9 + 6))), (3, .ref b84), (2, .ref b37), (1, .ref b1), (0, .ref b)] dL_law_1465 rfl (by decide) rfl ?_
          refine X_goto hK 23 dL_law_1468 (by decide) ?_
          exact ih9 S88 qS88 g289 (i9 + 6) k9 t9 c9 b9 sh9 sp9 sm9 (by omega) (by omega) (by omega) (by omega) (by omega) (by omega) (by omega) (by omega) (xLs_mod (xLs_mod al9 hg284 (by decide)) hg289 (by decide)) si9 (xPi_m (xPi_m pi9 hg284 xLe.rf (by decide)) hg289 xLe.rf (by decide)) (xMp_m (xMp_m mp9 hg284 xLe.rf (by decide)) hg289 xLe.rf (by decide)) (xTw_m (xTw_m tw9 hg284 xLe.rf (by decide)) hg289 xLe.rf (by decide)) (xPw_m (xPw_m pw9 hg284 xLe.rf (by decide)) hg289 xLe.rf (by decide)) ((hg289 b1 12 0 0 (qS88 _ _ (qb84 _ _ hk66)) (by decide)).trans ((hg284 b1 12 0 0 (qS88 _ _ (qb84 _ _ hk66)) (by decide)).trans el09)) ((hg289 b1 12 0 3 (qS88 _ _ (qb84 _ _ hk66)) (by decide)).trans ((hg284 b1 12 0 3 (qS88 _ _ (qb84 _ _ hk66)) (by decide)).trans el19)) ((hg289 b1 12 0 1 (qS88 _ _ (qb84 _ _ hk66)) (by decide)).trans ((hg284 b1 12 0 1 (qS88 _ _ (qb84 _ _ hk66)) (by decide)).trans el29)) ((hg289 b35 6 0 1 (qS88 _ _ (qb84 _ _ hk74)) (by decide)).trans ((hg284 b35 6 0 1 (qS88 _ _ (qb84 _ _ hk74)) (by decide)).trans el39)) ((hg289 b1 12 0 2 (qS88 _ _ (qb84 _ _ hk66)) (by decide)).trans ((hg284 b1 12 0 2 (qS88 _ _ (qb84 _ _ hk66)) (by decide)).trans el49)) ((hg289 b19 4 0 0 (qS88 _ _ (qb84 _ _ hk67)) (by decide)).trans ((hg284 b19 4 0 0 (qS88 _ _ (qb84 _ _ hk67)) (by decide)).trans el59)) ((hg289 b19 4 0 2 (qS88 _ _ (qb84 _ _ hk67)) (by decide)).trans ((hg284 b19 4 0 2 (qS88 _ _ (qb84 _ _ hk67)) (by decide)).trans el69)) ((hg289 b19 4 0 3 (qS88 _ _ (qb84 _ _ hk67)) (by decide)).trans ((hg284 b19 4 0 3 (qS88 _ _ (qb84 _ _ hk67)) (by decide)).trans el79)) ((hg289 b19 4 0 4 (qS88 _ _ (qb84 _ _ hk67)) (by decide)).trans ((hg284 b19 4 0 4 (qS88 _ _ (qb84 _ _ hk67)) (by decide)).trans el89)) ((hg289 b33 10 0 0 (qS88 _ _ (qb84 _ _ hk72)) (by decide)).trans ((hg284 b33 10 0 0 (qS88 _ _ (qb84 _ _ hk72)) (by decide)).trans el99)) ((hg289 b37 13 0 1 (qS88 _ _ (qb84 _ _ hs_y64)) (by decide)).trans ((hg284 b37 13 0 1 (qS88 _ _ (qb84 _ _ hs_y64)) (by decide)).trans el109)) ((hg289 b37 13 0 10 (qS88 _ _ (qb84 _ _ hs_y64)) (by decide)).trans ((hg284 b37 13 0 10 (qS88 _ _ (qb84 _ _ hs_y64)) (by decide)).trans el119)) ((hg289 b37 13 0 13 (qS88 _ _ (qb84 _ _ hs_y64)) (by decide)).trans ((hg284 b37 13 0 13 (qS88 _ _ (qb84 _ _ hs_y64)) (by decide)).trans el129)) ((hg289 b37 13 0 14 (qS88 _ _ (qb84 _ _ hs_y64)) (by decide)).trans ((hg284 b37 13 0 14 (qS88 _ _ (qb84 _ _ hs_y64)) (by decide)).trans el139)) ((hg289 b37 13 0 12 (qS88 _ _ (qb84 _ _ hs_y64)) (by decide)).trans ((hg284 b37 13 0 12 (qS88 _ _ (qb84 _ _ hs_y64)) (by decide)).trans el149)) ((hg289 b33 10 0 1 (qS88 _ _ (qb84 _ _ hk72)) (by decide)).trans ((hg284 b33 10 0 1 (qS88 _ _ (qb84 _ _ hk72)) (by decide)).trans exk9)) ((hg289 b37 13 0 2 (qS88 _ _ (qb84 _ _ hs_y64)) (by decide)).trans ((hg284 b37 13 0 2 (qS88 _ _ (qb84 _ _ hs_y64)) (by decide)).trans emk9)) ((hg289 b1 12 0 12 (qS88 _ _ (qb84 _ _ hk66)) (by decide)).trans ((hg284 b1 12 0 12 (qS88 _ _ (qb84 _ _ hk66)) (by decide)).trans ext9)) ((hg289 b37 13 0 3 (qS88 _ _ (qb84 _ _ hs_y64)) (by decide)).trans ((hg284 b37 13 0 3 (qS88 _ _ (qb84 _ _ hs_y64)) (by decide)).trans emt9)) ((hg289 b34 5 0 3 (qS88 _ _ (qb84 _ _ hk73)) (by decide)).trans ((hg284 b34 5 0 3 (qS88 _ _ (qb84 _ _ hk73)) (by decide)).trans exc9)) ((hg289 b37 13 0 69 (qS88 _ _ (qb84 _ _ hs_y64)) (by decide)).trans ((hg284 b37 13 0 69 (qS88 _ _ (qb84 _ _ hs_y64)) (by decide)).trans emc9)) ((hg289 b36 0 0 2 (qS88 _ _ (qb84 _ _ hk75)) (by decide)).trans ((hg284 b36 0 0 2 (qS88 _ _ (qb84 _ _ hk75)) (by decide)).trans exb9)) ((hg289 b37 13 0 16 (qS88 _ _ (qb84 _ _ hs_y64)) (by decide)).trans ((hg284 b37 13 0 16 (qS88 _ _ (qb84 _ _ hs_y64)) (by decide)).trans emb9)) ((hg289 b1 12 0 16 (qS88 _ _ (qb84 _ _ hk66)) (by decide)).trans ((hg284 b1 12 0 16 (qS88 _ _ (qb84 _ _ hk66)) (by decide)).trans exsh9)) ((hg289 b37 13 0 89 (qS88 _ _ (qb84 _ _ hs_y64)) (by decide)).trans ((hg284 b37 13 0 89 (qS88 _ _ (qb84 _ _ hs_y64)) (by decide)).trans emsh9)) ((hg289 b1 12 0 17 (qS88 _ _ (qb84 _ _ hk66)) (by decide)).trans ((hg284 b1 12 0 17 (qS88 _ _ (qb84 _ _ hk66)) (by decide)).trans exsp9)) ((hg289 b37 13 0 90 (qS88 _ _ (qb84 _ _ hs_y64)) (by decide)).trans ((hg284 b37 13 0 90 (qS88 _ _ (qb84 _ _ hs_y64)) (by decide)).trans emsp9)) ((hg289 b37 13 0 17 (qS88 _ _ (qb84 _ _ hs_y64)) (by decide)).trans ((hg284 b37 13 0 17 (qS88 _ _ (qb84 _ _ hs_y64)) (by decide)).trans emsm9)) (xWn.m (xWn.m wn9 (qS88 _ _ (qb84 _ _ hk71)) (qS88 _ _ (qb84 _ _ hk78)) hg284 xLe.rf (by decide)) (qS88 _ _ (qb84 _ _ hk71)) (qS88 _ _ (qb84 _ _ hk78)) hg289 xLe.rf (by decide)) (by rw [(Eq.trans (xv_m hg289 (qS88 _ _ (qb84 _ _ hk69)) (by decide) (by decide)) (xv_m hg284 (qS88 _ _ (qb84 _ _ hk69)) (by decide) (by decide))), (Eq.trans (xv_m hg289 (qS88 _ _ (qb84 _ _ hk76)) (by decide) (by decide)) (xv_m hg284 (qS88 _ _ (qb84 _ _ hk76)) (by decide) (by decide)))]; exact wt9) (by rw [(Eq.trans (xv_m hg289 (qS88 _ _ (qb84 _ _ hk70)) (by decide) (by decide)) (xv_m hg284 (qS88 _ _ (qb84 _ _ hk70)) (by decide) (by decide))), (Eq.trans (xv_m hg289 (qS88 _ _ (qb84 _ _ hk77)) (by decide) (by decide)) (xv_m hg284 (qS88 _ _ (qb84 _ _ hk77)) (by decide) (by decide)))]; exact ld9) (by rw [(Eq.trans (xv_m hg289 (qS88 _ _ (qb84 _ _ hk68)) (by decide) (by decide)) (xv_m hg284 (qS88 _ _ (qb84 _ _ hk68)) (by decide) (by decide))), (Eq.trans (xv_m hg289 (qS88 _ _ (qb84 _ _ hs_b83)) (by decide) (by decide)) (xv_m hg284 (qS88 _ _ (qb84 _ _ hs_b83)) (by decide) (by decide)))]; exact sk9) (by rw [(Eq.trans (xv_m hg289 (qS88 _ _ (qb84 _ _ hs_b81)) (by decide) (by decide)) (xv_m hg284 (qS88 _ _ (qb84 _ _ hs_b81)) (by decide) (by decide))), (Eq.trans (xv_m hg289 (qS88 _ _ (qb84 _ _ hs_b82)) (by decide) (by decide)) (xv_m hg284 (qS88 _ _ (qb84 _ _ hs_b82)) (by decide) (by decide)))]; exact xTc.mono tc9 (by omega)) dc9 ds9 (by omega) (by omega) (by omega)
        · refine X_tableIn hK 740 12 (by decide) c93 (by decide) (by decide) dL_law_40 rfl (by decide) ?_
          refine X_aloadn hK (i := 1) 3 dL_law_740 rfl rfl ?_
          refine X_aloadn hK (i := 0) 4 dL_law_741 rfl rfl ?_
          refine X_iload hK (i := 4) 0 dL_law_742 rfl ?_
          refine X_iconst hK dL_law_744 ?_
          refine X_iadd hK dL_law_745 ?_
          refine X_scr hK hX hbl hbA hL (by omega) (by omega) dL_law_746 (fun z293 ez293 lz293 uz293 => ?_)
          refine X_callVU hK [.int (iI z293)] [] lk_L_78 (c_X11_terms _ _ _ _ _ S88 g89 b1 z293 b33 k9 (qS88 _ _ (qb84 _ _ hk66)) (by omega) el09 (qS88 _ _ (qb84 _ _ hk72)) (by omega) exk9 al9 si9) (qS88 _ _ (qb84 _ _ hk66)) ⟨by decide, rfl⟩ dL_law_747 rfl rfl (by simp [Value.category]) (by decide) (by omega) (by omega) (by decide) (fun r294 S296 g295 dcr294 dsr294 pr294 qr294 hg295 => ?_)
          obtain ⟨wr294, z297, rfl, lz297, uz297, k298, k299, k300, k301⟩ := pr294
          refine X_st [.int (iI z297)] rfl ?_
          refine X_pop hK dL_law_750 rfl ?_
          refine X_aloadn hK (i := 2) 2 dL_law_751 rfl rfl ?_
          refine X_aloadn hK (i := 0) 4 dL_law_752 rfl rfl ?_
          refine X_iload hK (i := 4) 0 dL_law_753 rfl ?_
          refine X_iconst hK dL_law_755 ?_
          refine X_iadd hK dL_law_756 ?_
          refine X_scrK hK hX hbl hbA hL (by omega) (by omega) ez293 dL_law_757 ?_
          refine X_callV hK [.int (iI z293)] [] lk_L_81 (c_X12_terms _ _ _ _ _ S296 g295 b37 z293 k9 (qr294 _ _ (qS88 _ _ (qb84 _ _ hs_y64))) (by omega) (by omega) ((hg295 b37 13 0 2 (qS88 _ _ (qb84 _ _ hs_y64)) (by decide)).trans emk9) (xTw_m tw9 hg295 qr294 (by decide))) (qr294 _ _ (qS88 _ _ (qb84 _ _ hs_y64))) ⟨by decide, rfl⟩ dL_law_758 rfl rfl (by simp [Value.category]) (by decide) (by omega) (by omega) (by decide) (fun r302 S304 g303 pr302 qr302 hg303 => ?_)
          obtain ⟨rfl, z305, rfl, lz305, uz305, k306, k307⟩ := pr302
          refine X_st [.int (iI z305)] rfl ?_
          refine X_pop hK dL_law_761 rfl ?_
          refine X_goto hK 1465 dL_law_762 (by decide) ?_
          refine X_iinc hK (i := 4) (z := i9) (n := 6) 0 [(4, .int (iI (i9 + 6))), (3, .ref b84), (2, .ref b37), (1, .ref b1), (0, .ref b)] dL_law_1465 rfl (by decide) rfl ?_
          refine X_goto hK 23 dL_law_1468 (by decide) ?_
          exact ih9 S296 (xLe.tr qS88 qr294) g303 (i9 + 6) (0) t9 c9 b9 sh9 sp9 sm9 (by omega) (by omega) (by omega) (by omega) (by omega) (by omega) (by omega) (by omega) (xLs_mod k298 hg303 (by decide)) k299 (xPi_m (xPi_m pi9 hg295 qr294 (by decide)) hg303 xLe.rf (by decide)) (xMp_m (xMp_m mp9 hg295 qr294 (by decide)) hg303 xLe.rf (by decide)) k307 (xPw_m (xPw_m pw9 hg295 qr294 (by decide)) hg303 xLe.rf (by decide)) ((hg303 b1 12 0 0 (qr294 _ _ (qS88 _ _ (qb84 _ _ hk66))) (by decide)).trans ((hg295 b1 12 0 0 (qS88 _ _ (qb84 _ _ hk66)) (by decide)).trans el09)) ((hg303 b1 12 0 3 (qr294 _ _ (qS88 _ _ (qb84 _ _ hk66))) (by decide)).trans ((hg295 b1 12 0 3 (qS88 _ _ (qb84 _ _ hk66)) (by decide)).trans el19)) ((hg303 b1 12 0 1 (qr294 _ _ (qS88 _ _ (qb84 _ _ hk66))) (by decide)).trans ((hg295 b1 12 0 1 (qS88 _ _ (qb84 _ _ hk66)) (by decide)).trans el29)) ((hg303 b35 6 0 1 (qr294 _ _ (qS88 _ _ (qb84 _ _ hk74))) (by decide)).trans ((hg295 b35 6 0 1 (qS88 _ _ (qb84 _ _ hk74)) (by decide)).trans el39)) ((hg303 b1 12 0 2 (qr294 _ _ (qS88 _ _ (qb84 _ _ hk66))) (by decide)).trans ((hg295 b1 12 0 2 (qS88 _ _ (qb84 _ _ hk66)) (by decide)).trans el49)) ((hg303 b19 4 0 0 (qr294 _ _ (qS88 _ _ (qb84 _ _ hk67))) (by decide)).trans ((hg295 b19 4 0 0 (qS88 _ _ (qb84 _ _ hk67)) (by decide)).trans el59)) ((hg303 b19 4 0 2 (qr294 _ _ (qS88 _ _ (qb84 _ _ hk67))) (by decide)).trans ((hg295 b19 4 0 2 (qS88 _ _ (qb84 _ _ hk67)) (by decide)).trans el69)) ((hg303 b19 4 0 3 (qr294 _ _ (qS88 _ _ (qb84 _ _ hk67))) (by decide)).trans ((hg295 b19 4 0 3 (qS88 _ _ (qb84 _ _ hk67)) (by decide)).trans el79)) ((hg303 b19 4 0 4 (qr294 _ _ (qS88 _ _ (qb84 _ _ hk67))) (by decide)).trans ((hg295 b19 4 0 4 (qS88 _ _ (qb84 _ _ hk67)) (by decide)).trans el89)) ((hg303 b33 10 0 0 (qr294 _ _ (qS88 _ _ (qb84 _ _ hk72))) (by decide)).trans ((hg295 b33 10 0 0 (qS88 _ _ (qb84 _ _ hk72)) (by decide)).trans el99)) ((hg303 b37 13 0 1 (qr294 _ _ (qS88 _ _ (qb84 _ _ hs_y64))) (by decide)).trans ((hg295 b37 13 0 1 (qS88 _ _ (qb84 _ _ hs_y64)) (by decide)).trans el109)) ((hg303 b37 13 0 10 (qr294 _ _ (qS88 _ _ (qb84 _ _ hs_y64))) (by decide)).trans ((hg295 b37 13 0 10 (qS88 _ _ (qb84 _ _ hs_y64)) (by decide)).trans el119)) ((hg303 b37 13 0 13 (qr294 _ _ (qS88 _ _ (qb84 _ _ hs_y64))) (by decide)).trans ((hg295 b37 13 0 13 (qS88 _ _ (qb84 _ _ hs_y64)) (by decide)).trans el129)) ((hg303 b37 13 0 14 (qr294 _ _ (qS88 _ _ (qb84 _ _ hs_y64))) (by decide)).trans ((hg295 b37 13 0 14 (qS88 _ _ (qb84 _ _ hs_y64)) (by decide)).trans el139)) ((hg303 b37 13 0 12 (qr294 _ _ (qS88 _ _ (qb84 _ _ hs_y64))) (by decide)).trans ((hg295 b37 13 0 12 (qS88 _ _ (qb84 _ _ hs_y64)) (by decide)).trans el149)) ((hg303 b33 10 0 1 (qr294 _ _ (qS88 _ _ (qb84 _ _ hk72))) (by decide)).trans k301) k306 ((hg303 b1 12 0 12 (qr294 _ _ (qS88 _ _ (qb84 _ _ hk66))) (by decide)).trans ((hg295 b1 12 0 12 (qS88 _ _ (qb84 _ _ hk66)) (by decide)).trans ext9)) ((hg303 b37 13 0 3 (qr294 _ _ (qS88 _ _ (qb84 _ _ hs_y64))) (by decide)).trans ((hg295 b37 13 0 3 (qS88 _ _ (qb84 _ _ hs_y64)) (by decide)).trans emt9)) ((hg303 b34 5 0 3 (qr294 _ _ (qS88 _ _ (qb84 _ _ hk73))) (by decide)).trans ((hg295 b34 5 0 3 (qS88 _ _ (qb84 _ _ hk73)) (by decide)).trans exc9)) ((hg303 b37 13 0 69 (qr294 _ _ (qS88 _ _ (qb84 _ _ hs_y64))) (by decide)).trans ((hg295 b37 13 0 69 (qS88 _ _ (qb84 _ _ hs_y64)) (by decide)).trans emc9)) ((hg303 b36 0 0 2 (qr294 _ _ (qS88 _ _ (qb84 _ _ hk75))) (by decide)).trans ((hg295 b36 0 0 2 (qS88 _ _ (qb84 _ _ hk75)) (by decide)).trans exb9)) ((hg303 b37 13 0 16 (qr294 _ _ (qS88 _ _ (qb84 _ _ hs_y64))) (by decide)).trans ((hg295 b37 13 0 16 (qS88 _ _ (qb84 _ _ hs_y64)) (by decide)).trans emb9)) ((hg303 b1 12 0 16 (qr294 _ _ (qS88 _ _ (qb84 _ _ hk66))) (by decide)).trans ((hg295 b1 12 0 16 (qS88 _ _ (qb84 _ _ hk66)) (by decide)).trans exsh9)) ((hg303 b37 13 0 89 (qr294 _ _ (qS88 _ _ (qb84 _ _ hs_y64))) (by decide)).trans ((hg295 b37 13 0 89 (qS88 _ _ (qb84 _ _ hs_y64)) (by decide)).trans emsh9)) ((hg303 b1 12 0 17 (qr294 _ _ (qS88 _ _ (qb84 _ _ hk66))) (by decide)).trans ((hg295 b1 12 0 17 (qS88 _ _ (qb84 _ _ hk66)) (by decide)).trans exsp9)) ((hg303 b37 13 0 90 (qr294 _ _ (qS88 _ _ (qb84 _ _ hs_y64))) (by decide)).trans ((hg295 b37 13 0 90 (qS88 _ _ (qb84 _ _ hs_y64)) (by decide)).trans emsp9)) ((hg303 b37 13 0 17 (qr294 _ _ (qS88 _ _ (qb84 _ _ hs_y64))) (by decide)).trans ((hg295 b37 13 0 17 (qS88 _ _ (qb84 _ _ hs_y64)) (by decide)).trans emsm9)) (xWn.m (xWn.m wn9 (qS88 _ _ (qb84 _ _ hk71)) (qS88 _ _ (qb84 _ _ hk78)) hg295 qr294 (by decide)) (qr294 _ _ (qS88 _ _ (qb84 _ _ hk71))) (qr294 _ _ (qS88 _ _ (qb84 _ _ hk78))) hg303 xLe.rf (by decide)) (by rw [(Eq.trans (xv_m hg303 (qr294 _ _ (qS88 _ _ (qb84 _ _ hk69))) (by decide) (by decide)) (xv_m hg295 (qS88 _ _ (qb84 _ _ hk69)) (by decide) (by decide))), (Eq.trans (xv_m hg303 (qr294 _ _ (qS88 _ _ (qb84 _ _ hk76))) (by decide) (by decide)) (xv_m hg295 (qS88 _ _ (qb84 _ _ hk76)) (by decide) (by decide)))]; exact wt9) (by rw [(Eq.trans (xv_m hg303 (qr294 _ _ (qS88 _ _ (qb84 _ _ hk70))) (by decide) (by decide)) (xv_m hg295 (qS88 _ _ (qb84 _ _ hk70)) (by decide) (by decide))), (Eq.trans (xv_m hg303 (qr294 _ _ (qS88 _ _ (qb84 _ _ hk77))) (by decide) (by decide)) (xv_m hg295 (qS88 _ _ (qb84 _ _ hk77)) (by decide) (by decide)))]; exact ld9) (by rw [(Eq.trans (xv_m hg303 (qr294 _ _ (qS88 _ _ (qb84 _ _ hk68))) (by decide) (by decide)) (xv_m hg295 (qS88 _ _ (qb84 _ _ hk68)) (by decide) (by decide))), (Eq.trans (xv_m hg303 (qr294 _ _ (qS88 _ _ (qb84 _ _ hs_b83))) (by decide) (by decide)) (xv_m hg295 (qS88 _ _ (qb84 _ _ hs_b83)) (by decide) (by decide)))]; exact sk9) (by rw [(Eq.trans (xv_m hg303 (qr294 _ _ (qS88 _ _ (qb84 _ _ hs_b81))) (by decide) (by decide)) (xv_m hg295 (qS88 _ _ (qb84 _ _ hs_b81)) (by decide) (by decide))), (Eq.trans (xv_m hg303 (qr294 _ _ (qS88 _ _ (qb84 _ _ hs_b82))) (by decide) (by decide)) (xv_m hg295 (qS88 _ _ (qb84 _ _ hs_b82)) (by decide) (by decide)))]; exact xTc.mono tc9 (by omega)) (dc9 + dcr294) (ds9 + dsr294) (by omega) (by omega) (by omega)
        · refine X_tableIn hK 765 13 (by decide) c93 (by decide) (by decide) dL_law_40 rfl (by decide) ?_
          refine X_aloadn hK (i := 1) 3 dL_law_765 rfl rfl ?_
          refine X_callV hK [] [] lk_L_82 (c_X11_fault _ _ _ _ _ S88 g89 b1 (qS88 _ _ (qb84 _ _ hk66))) (qS88 _ _ (qb84 _ _ hk66)) ⟨by decide, rfl⟩ dL_law_766 rfl rfl (by simp [Value.category]) (by decide) (by omega) (by omega) (by decide) (fun r308 S310 g309 pr308 qr308 hg309 => ?_)
          obtain ⟨rfl, rfl, z311, rfl, lz311, uz311⟩ := pr308
          refine X_st [.int (iI z311)] rfl ?_
          refine X_pop hK dL_law_769 rfl ?_
          refine X_aloadn hK (i := 2) 2 dL_law_770 rfl rfl ?_
          refine X_callV hK [] [] lk_L_86 (c_X12_fault _ _ _ _ _ S88 g89 b37 (qS88 _ _ (qb84 _ _ hs_y64))) (qS88 _ _ (qb84 _ _ hs_y64)) ⟨by decide, rfl⟩ dL_law_771 rfl rfl (by simp [Value.category]) (by decide) (by omega) (by omega) (by decide) (fun r312 S314 g313 pr312 qr312 hg313 => ?_)
          obtain ⟨rfl, z315, rfl, lz315, uz315⟩ := pr312
          refine X_st [.int (iI z315)] rfl ?_
          refine X_pop hK dL_law_774 rfl ?_
          refine X_goto hK 1465 dL_law_775 (by decide) ?_
          refine X_iinc hK (i := 4) (z := i9) (n := 6) 0 [(4, .int (iI (i9 + 6))), (3, .ref b84), (2, .ref b37), (1, .ref b1), (0, .ref b)] dL_law_1465 rfl (by decide) rfl ?_
          refine X_goto hK 23 dL_law_1468 (by decide) ?_
          exact ih9 S88 qS88 g313 (i9 + 6) k9 t9 c9 b9 sh9 sp9 sm9 (by omega) (by omega) (by omega) (by omega) (by omega) (by omega) (by omega) (by omega) (xLs_mod al9 hg313 (by decide)) si9 (xPi_m pi9 hg313 xLe.rf (by decide)) (xMp_m mp9 hg313 xLe.rf (by decide)) (xTw_m tw9 hg313 xLe.rf (by decide)) (xPw_m pw9 hg313 xLe.rf (by decide)) ((hg313 b1 12 0 0 (qS88 _ _ (qb84 _ _ hk66)) (by decide)).trans el09) ((hg313 b1 12 0 3 (qS88 _ _ (qb84 _ _ hk66)) (by decide)).trans el19) ((hg313 b1 12 0 1 (qS88 _ _ (qb84 _ _ hk66)) (by decide)).trans el29) ((hg313 b35 6 0 1 (qS88 _ _ (qb84 _ _ hk74)) (by decide)).trans el39) ((hg313 b1 12 0 2 (qS88 _ _ (qb84 _ _ hk66)) (by decide)).trans el49) ((hg313 b19 4 0 0 (qS88 _ _ (qb84 _ _ hk67)) (by decide)).trans el59) ((hg313 b19 4 0 2 (qS88 _ _ (qb84 _ _ hk67)) (by decide)).trans el69) ((hg313 b19 4 0 3 (qS88 _ _ (qb84 _ _ hk67)) (by decide)).trans el79) ((hg313 b19 4 0 4 (qS88 _ _ (qb84 _ _ hk67)) (by decide)).trans el89) ((hg313 b33 10 0 0 (qS88 _ _ (qb84 _ _ hk72)) (by decide)).trans el99) ((hg313 b37 13 0 1 (qS88 _ _ (qb84 _ _ hs_y64)) (by decide)).trans el109) ((hg313 b37 13 0 10 (qS88 _ _ (qb84 _ _ hs_y64)) (by decide)).trans el119) ((hg313 b37 13 0 13 (qS88 _ _ (qb84 _ _ hs_y64)) (by decide)).trans el129) ((hg313 b37 13 0 14 (qS88 _ _ (qb84 _ _ hs_y64)) (by decide)).trans el139) ((hg313 b37 13 0 12 (qS88 _ _ (qb84 _ _ hs_y64)) (by decide)).trans el149) ((hg313 b33 10 0 1 (qS88 _ _ (qb84 _ _ hk72)) (by decide)).trans exk9) ((hg313 b37 13 0 2 (qS88 _ _ (qb84 _ _ hs_y64)) (by decide)).trans emk9) ((hg313 b1 12 0 12 (qS88 _ _ (qb84 _ _ hk66)) (by decide)).trans ext9) ((hg313 b37 13 0 3 (qS88 _ _ (qb84 _ _ hs_y64)) (by decide)).trans emt9) ((hg313 b34 5 0 3 (qS88 _ _ (qb84 _ _ hk73)) (by decide)).trans exc9) ((hg313 b37 13 0 69 (qS88 _ _ (qb84 _ _ hs_y64)) (by decide)).trans emc9) ((hg313 b36 0 0 2 (qS88 _ _ (qb84 _ _ hk75)) (by decide)).trans exb9) ((hg313 b37 13 0 16 (qS88 _ _ (qb84 _ _ hs_y64)) (by decide)).trans emb9) ((hg313 b1 12 0 16 (qS88 _ _ (qb84 _ _ hk66)) (by decide)).trans exsh9) ((hg313 b37 13 0 89 (qS88 _ _ (qb84 _ _ hs_y64)) (by decide)).trans emsh9) ((hg313 b1 12 0 17 (qS88 _ _ (qb84 _ _ hk66)) (by decide)).trans exsp9) ((hg313 b37 13 0 90 (qS88 _ _ (qb84 _ _ hs_y64)) (by decide)).trans emsp9) ((hg313 b37 13 0 17 (qS88 _ _ (qb84 _ _ hs_y64)) (by decide)).trans emsm9) (xWn.m wn9 (qS88 _ _ (qb84 _ _ hk71)) (qS88 _ _ (qb84 _ _ hk78)) hg313 xLe.rf (by decide)) (by rw [(xv_m hg313 (qS88 _ _ (qb84 _ _ hk69)) (by decide) (by decide)), (xv_m hg313 (qS88 _ _ (qb84 _ _ hk76)) (by decide) (by decide))]; exact wt9) (by rw [(xv_m hg313 (qS88 _ _ (qb84 _ _ hk70)) (by decide) (by decide)), (xv_m hg313 (qS88 _ _ (qb84 _ _ hk77)) (by decide) (by decide))]; exact ld9) (by rw [(xv_m hg313 (qS88 _ _ (qb84 _ _ hk68)) (by decide) (by decide)), (xv_m hg313 (qS88 _ _ (qb84 _ _ hs_b83)) (by decide) (by decide))]; exact sk9) (by rw [(xv_m hg313 (qS88 _ _ (qb84 _ _ hs_b81)) (by decide) (by decide)), (xv_m hg313 (qS88 _ _ (qb84 _ _ hs_b82)) (by decide) (by decide))]; exact xTc.mono tc9 (by omega)) dc9 ds9 (by omega) (by omega) (by omega)
        · refine X_tableIn hK 778 14 (by decide) c93 (by decide) (by decide) dL_law_40 rfl (by decide) ?_
          refine X_aloadn hK (i := 1) 3 dL_law_778 rfl rfl ?_
          refine X_aloadn hK (i := 0) 4 dL_law_779 rfl rfl ?_
          refine X_iload hK (i := 4) 0 dL_law_780 rfl ?_
          refine X_iconst hK dL_law_782 ?_
          refine X_iadd hK dL_law_783 ?_
          refine X_scr hK hX hbl hbA hL (by omega) (by omega) dL_law_784 (fun z316 ez316 lz316 uz316 => ?_)
          refine X_aloadn hK (i := 0) 4 dL_law_785 rfl rfl ?_
          refine X_iload hK (i := 4) 0 dL_law_786 rfl ?_
          refine X_iconst hK dL_law_788 ?_
          refine X_iadd hK dL_law_789 ?_
          refine X_scr hK hX hbl hbA hL (by omega) (by omega) dL_law_790 (fun z317 ez317 lz317 uz317 => ?_)
          refine X_aloadn hK (i := 0) 4 dL_law_791 rfl rfl ?_
          refine X_iload hK (i := 4) 0 dL_law_792 rfl ?_
          refine X_iconst hK dL_law_794 ?_
          refine X_iadd hK dL_law_795 ?_
          refine X_scr hK hX hbl hbA hL (by omega) (by omega) dL_law_796 (fun z318 ez318 lz318 uz318 => ?_)
          refine X_aloadn hK (i := 0) 4 dL_law_797 rfl rfl ?_
          refine X_iload hK (i := 4) 0 dL_law_798 rfl ?_
          refine X_iconst hK dL_law_800 ?_
          refine X_iadd hK dL_law_801 ?_
          refine X_scr hK hX hbl hbA hL (by omega) (by omega) dL_law_802 (fun z319 ez319 lz319 uz319 => ?_)
          refine X_aloadn hK (i := 0) 4 dL_law_803 rfl rfl ?_
          refine X_iload hK (i := 4) 0 dL_law_804 rfl ?_
          refine X_iconst hK dL_law_806 ?_
          refine X_iadd hK dL_law_807 ?_
          refine X_scr hK hX hbl hbA hL (by omega) (by omega) dL_law_808 (fun z320 ez320 lz320 uz320 => ?_)
          refine X_callVU hK [.int (iI z316), .int (iI z317), .int (iI z318), .int (iI z319), .int (iI z320)] [] lk_L_87 (c_X11_bundle _ _ _ _ _ S88 g89 b1 z316 z317 z318 z319 z320 (qS88 _ _ (qb84 _ _ hk66)) (by omega) (by omega) (by omega) (by omega) (by omega) al9 si9) (qS88 _ _ (qb84 _ _ hk66)) ⟨by decide, rfl⟩ dL_law_809 rfl rfl (by simp [Value.category]) (by decide) (by omega) (by omega) (by decide) (fun r321 S323 g322 dcr321 dsr321 pr321 qr321 hg322 => ?_)
          obtain ⟨wr321, z324, rfl, lz324, uz324, k325, k326, k327⟩ := pr321
          refine X_st [.int (iI z324)] rfl ?_
          refine X_pop hK dL_law_812 rfl ?_
          refine X_aloadn hK (i := 2) 2 dL_law_813 rfl rfl ?_
          refine X_aloadn hK (i := 0) 4 dL_law_814 rfl rfl ?_
          refine X_iload hK (i := 4) 0 dL_law_815 rfl ?_
          refine X_iconst hK dL_law_817 ?_
          refine X_iadd hK dL_law_818 ?_
          refine X_scrK hK hX hbl hbA hL (by omega) (by omega) ez316 dL_law_819 ?_
          refine X_aloadn hK (i := 0) 4 dL_law_820 rfl rfl ?_
          refine X_iload hK (i := 4) 0 dL_law_821 rfl ?_
          refine X_iconst hK dL_law_823 ?_
          refine X_iadd hK dL_law_824 ?_
          refine X_scrK hK hX hbl hbA hL (by omega) (by omega) ez317 dL_law_825 ?_
          refine X_aloadn hK (i := 0) 4 dL_law_826 rfl rfl ?_
          refine X_iload hK (i := 4) 0 dL_law_827 rfl ?_
          refine X_iconst hK dL_law_829 ?_
          refine X_iadd hK dL_law_830 ?_
          refine X_scrK hK hX hbl hbA hL (by omega) (by omega) ez318 dL_law_831 ?_
          refine X_aloadn hK (i := 0) 4 dL_law_832 rfl rfl ?_
          refine X_iload hK (i := 4) 0 dL_law_833 rfl ?_
          refine X_iconst hK dL_law_835 ?_
          refine X_iadd hK dL_law_836 ?_
          refine X_scrK hK hX hbl hbA hL (by omega) (by omega) ez319 dL_law_837 ?_
          refine X_aloadn hK (i := 0) 4 dL_law_838 rfl rfl ?_
          refine X_iload hK (i := 4) 0 dL_law_839 rfl ?_
          refine X_iconst hK dL_law_841 ?_
          refine X_iadd hK dL_law_842 ?_
          refine X_scrK hK hX hbl hbA hL (by omega) (by omega) ez320 dL_law_843 ?_
          refine X_callV hK [.int (iI z316), .int (iI z317), .int (iI z318), .int (iI z319), .int (iI z320)] [] lk_L_90 (c_X12_bundle _ _ _ _ _ S323 g322 b37 z316 z317 z318 z319 z320 (qr321 _ _ (qS88 _ _ (qb84 _ _ hs_y64))) (by omega) (by omega) (by omega) (by omega) (by omega) (xTw_m tw9 hg322 qr321 (by decide))) (qr321 _ _ (qS88 _ _ (qb84 _ _ hs_y64))) ⟨by decide, rfl⟩ dL_law_844 rfl rfl (by simp [Value.category]) (by decide) (by omega) (by omega) (by decide) (fun r328 S330 g329 pr328 qr328 hg329 => ?_)
          obtain ⟨rfl, z331, rfl, lz331, uz331⟩ := pr328
          refine X_st [.int (iI z331)] rfl ?_
          refine X_pop hK dL_law_847 rfl ?_
          refine X_goto hK 1465 dL_law_848 (by decide) ?_
          refine X_iinc hK (i := 4) (z := i9) (n := 6) 0 [(4, .int (iI (i9 + 6))), (3, .ref b84), (2, .ref b37), (1, .ref b1), (0, .ref b)] dL_law_1465 rfl (by decide) rfl ?_
          refine X_goto hK 23 dL_law_1468 (by decide) ?_
          exact ih9 S323 (xLe.tr qS88 qr321) g329 (i9 + 6) k9 t9 c9 b9 sh9 sp9 sm9 (by omega) (by omega) (by omega) (by omega) (by omega) (by omega) (by omega) (by omega) (xLs_mod k325 hg329 (by decide)) k326 (xPi_m (xPi_m pi9 hg322 qr321 (by decide)) hg329 xLe.rf (by decide)) (xMp_m (xMp_m mp9 hg322 qr321 (by decide)) hg329 xLe.rf (by decide)) (xTw_m (xTw_m tw9 hg322 qr321 (by decide)) hg329 xLe.rf (by decide)) (xPw_m (xPw_m pw9 hg322 qr321 (by decide)) hg329 xLe.rf (by decide)) ((hg329 b1 12 0 0 (qr321 _ _ (qS88 _ _ (qb84 _ _ hk66))) (by decide)).trans ((hg322 b1 12 0 0 (qS88 _ _ (qb84 _ _ hk66)) (by decide)).trans el09)) ((hg329 b1 12 0 3 (qr321 _ _ (qS88 _ _ (qb84 _ _ hk66))) (by decide)).trans ((hg322 b1 12 0 3 (qS88 _ _ (qb84 _ _ hk66)) (by decide)).trans el19)) ((hg329 b1 12 0 1 (qr321 _ _ (qS88 _ _ (qb84 _ _ hk66))) (by decide)).trans ((hg322 b1 12 0 1 (qS88 _ _ (qb84 _ _ hk66)) (by decide)).trans el29)) ((hg329 b35 6 0 1 (qr321 _ _ (qS88 _ _ (qb84 _ _ hk74))) (by decide)).trans ((hg322 b35 6 0 1 (qS88 _ _ (qb84 _ _ hk74)) (by decide)).trans el39)) ((hg329 b1 12 0 2 (qr321 _ _ (qS88 _ _ (qb84 _ _ hk66))) (by decide)).trans ((hg322 b1 12 0 2 (qS88 _ _ (qb84 _ _ hk66)) (by decide)).trans el49)) ((hg329 b19 4 0 0 (qr321 _ _ (qS88 _ _ (qb84 _ _ hk67))) (by decide)).trans ((hg322 b19 4 0 0 (qS88 _ _ (qb84 _ _ hk67)) (by decide)).trans el59)) ((hg329 b19 4 0 2 (qr321 _ _ (qS88 _ _ (qb84 _ _ hk67))) (by decide)).trans ((hg322 b19 4 0 2 (qS88 _ _ (qb84 _ _ hk67)) (by decide)).trans el69)) ((hg329 b19 4 0 3 (qr321 _ _ (qS88 _ _ (qb84 _ _ hk67))) (by decide)).trans ((hg322 b19 4 0 3 (qS88 _ _ (qb84 _ _ hk67)) (by decide)).trans el79)) ((hg329 b19 4 0 4 (qr321 _ _ (qS88 _ _ (qb84 _ _ hk67))) (by decide)).trans ((hg322 b19 4 0 4 (qS88 _ _ (qb84 _ _ hk67)) (by decide)).trans el89)) ((hg329 b33 10 0 0 (qr321 _ _ (qS88 _ _ (qb84 _ _ hk72))) (by decide)).trans ((hg322 b33 10 0 0 (qS88 _ _ (qb84 _ _ hk72)) (by decide)).trans el99)) ((hg329 b37 13 0 1 (qr321 _ _ (qS88 _ _ (qb84 _ _ hs_y64))) (by decide)).trans ((hg322 b37 13 0 1 (qS88 _ _ (qb84 _ _ hs_y64)) (by decide)).trans el109)) ((hg329 b37 13 0 10 (qr321 _ _ (qS88 _ _ (qb84 _ _ hs_y64))) (by decide)).trans ((hg322 b37 13 0 10 (qS88 _ _ (qb84 _ _ hs_y64)) (by decide)).trans el119)) ((hg329 b37 13 0 13 (qr321 _ _ (qS88 _ _ (qb84 _ _ hs_y64))) (by decide)).trans ((hg322 b37 13 0 13 (qS88 _ _ (qb84 _ _ hs_y64)) (by decide)).trans el129)) ((hg329 b37 13 0 14 (qr321 _ _ (qS88 _ _ (qb84 _ _ hs_y64))) (by decide)).trans ((hg322 b37 13 0 14 (qS88 _ _ (qb84 _ _ hs_y64)) (by decide)).trans el139)) ((hg329 b37 13 0 12 (qr321 _ _ (qS88 _ _ (qb84 _ _ hs_y64))) (by decide)).trans ((hg322 b37 13 0 12 (qS88 _ _ (qb84 _ _ hs_y64)) (by decide)).trans el149)) ((hg329 b33 10 0 1 (qr321 _ _ (qS88 _ _ (qb84 _ _ hk72))) (by decide)).trans ((hg322 b33 10 0 1 (qS88 _ _ (qb84 _ _ hk72)) (by decide)).trans exk9)) ((hg329 b37 13 0 2 (qr321 _ _ (qS88 _ _ (qb84 _ _ hs_y64))) (by decide)).trans ((hg322 b37 13 0 2 (qS88 _ _ (qb84 _ _ hs_y64)) (by decide)).trans emk9)) ((hg329 b1 12 0 12 (qr321 _ _ (qS88 _ _ (qb84 _ _ hk66))) (by decide)).trans ((hg322 b1 12 0 12 (qS88 _ _ (qb84 _ _ hk66)) (by decide)).trans ext9)) ((hg329 b37 13 0 3 (qr321 _ _ (qS88 _ _ (qb84 _ _ hs_y64))) (by decide)).trans ((hg322 b37 13 0 3 (qS88 _ _ (qb84 _ _ hs_y64)) (by decide)).trans emt9)) ((hg329 b34 5 0 3 (qr321 _ _ (qS88 _ _ (qb84 _ _ hk73))) (by decide)).trans ((hg322 b34 5 0 3 (qS88 _ _ (qb84 _ _ hk73)) (by decide)).trans exc9)) ((hg329 b37 13 0 69 (qr321 _ _ (qS88 _ _ (qb84 _ _ hs_y64))) (by decide)).trans ((hg322 b37 13 0 69 (qS88 _ _ (qb84 _ _ hs_y64)) (by decide)).trans emc9)) ((hg329 b36 0 0 2 (qr321 _ _ (qS88 _ _ (qb84 _ _ hk75))) (by decide)).trans ((hg322 b36 0 0 2 (qS88 _ _ (qb84 _ _ hk75)) (by decide)).trans exb9)) ((hg329 b37 13 0 16 (qr321 _ _ (qS88 _ _ (qb84 _ _ hs_y64))) (by decide)).trans ((hg322 b37 13 0 16 (qS88 _ _ (qb84 _ _ hs_y64)) (by decide)).trans emb9)) ((hg329 b1 12 0 16 (qr321 _ _ (qS88 _ _ (qb84 _ _ hk66))) (by decide)).trans ((hg322 b1 12 0 16 (qS88 _ _ (qb84 _ _ hk66)) (by decide)).trans exsh9)) ((hg329 b37 13 0 89 (qr321 _ _ (qS88 _ _ (qb84 _ _ hs_y64))) (by decide)).trans ((hg322 b37 13 0 89 (qS88 _ _ (qb84 _ _ hs_y64)) (by decide)).trans emsh9)) ((hg329 b1 12 0 17 (qr321 _ _ (qS88 _ _ (qb84 _ _ hk66))) (by decide)).trans ((hg322 b1 12 0 17 (qS88 _ _ (qb84 _ _ hk66)) (by decide)).trans exsp9)) ((hg329 b37 13 0 90 (qr321 _ _ (qS88 _ _ (qb84 _ _ hs_y64))) (by decide)).trans ((hg322 b37 13 0 90 (qS88 _ _ (qb84 _ _ hs_y64)) (by decide)).trans emsp9)) ((hg329 b37 13 0 17 (qr321 _ _ (qS88 _ _ (qb84 _ _ hs_y64))) (by decide)).trans ((hg322 b37 13 0 17 (qS88 _ _ (qb84 _ _ hs_y64)) (by decide)).trans emsm9)) (xWn.m (xWn.m wn9 (qS88 _ _ (qb84 _ _ hk71)) (qS88 _ _ (qb84 _ _ hk78)) hg322 qr321 (by decide)) (qr321 _ _ (qS88 _ _ (qb84 _ _ hk71))) (qr321 _ _ (qS88 _ _ (qb84 _ _ hk78))) hg329 xLe.rf (by decide)) (by rw [(Eq.trans (xv_m hg329 (qr321 _ _ (qS88 _ _ (qb84 _ _ hk69))) (by decide) (by decide)) (xv_m hg322 (qS88 _ _ (qb84 _ _ hk69)) (by decide) (by decide))), (Eq.trans (xv_m hg329 (qr321 _ _ (qS88 _ _ (qb84 _ _ hk76))) (by decide) (by decide)) (xv_m hg322 (qS88 _ _ (qb84 _ _ hk76)) (by decide) (by decide)))]; exact wt9) (by rw [(Eq.trans (xv_m hg329 (qr321 _ _ (qS88 _ _ (qb84 _ _ hk70))) (by decide) (by decide)) (xv_m hg322 (qS88 _ _ (qb84 _ _ hk70)) (by decide) (by decide))), (Eq.trans (xv_m hg329 (qr321 _ _ (qS88 _ _ (qb84 _ _ hk77))) (by decide) (by decide)) (xv_m hg322 (qS88 _ _ (qb84 _ _ hk77)) (by decide) (by decide)))]; exact ld9) (by rw [(Eq.trans (xv_m hg329 (qr321 _ _ (qS88 _ _ (qb84 _ _ hk68))) (by decide) (by decide)) (xv_m hg322 (qS88 _ _ (qb84 _ _ hk68)) (by decide) (by decide))), (Eq.trans (xv_m hg329 (qr321 _ _ (qS88 _ _ (qb84 _ _ hs_b83))) (by decide) (by decide)) (xv_m hg322 (qS88 _ _ (qb84 _ _ hs_b83)) (by decide) (by decide)))]; exact sk9) (by rw [(Eq.trans (xv_m hg329 (qr321 _ _ (qS88 _ _ (qb84 _ _ hs_b81))) (by decide) (by decide)) (xv_m hg322 (qS88 _ _ (qb84 _ _ hs_b81)) (by decide) (by decide))), (Eq.trans (xv_m hg329 (qr321 _ _ (qS88 _ _ (qb84 _ _ hs_b82))) (by decide) (by decide)) (xv_m hg322 (qS88 _ _ (qb84 _ _ hs_b82)) (by decide) (by decide)))]; exact xTc.mono tc9 (by omega)) (dc9 + dcr321) (ds9 + dsr321) (by omega) (by omega) (by omega)
        · refine X_tableIn hK 851 15 (by decide) c93 (by decide) (by decide) dL_law_40 rfl (by decide) ?_
          refine X_aloadn hK (i := 1) 3 dL_law_851 rfl rfl ?_
          refine X_aloadn hK (i := 0) 4 dL_law_852 rfl rfl ?_
          refine X_iload hK (i := 4) 0 dL_law_853 rfl ?_
          refine X_iconst hK dL_law_855 ?_
          refine X_iadd hK dL_law_856 ?_
          refine X_scr hK hX hbl hbA hL (by omega) (by omega) dL_law_857 (fun z332 ez332 lz332 uz332 => ?_)
          refine X_aloadn hK (i := 0) 4 dL_law_858 rfl rfl ?_
          refine X_iload hK (i := 4) 0 dL_law_859 rfl ?_
          refine X_iconst hK dL_law_861 ?_
          refine X_iadd hK dL_law_862 ?_
          refine X_scr hK hX hbl hbA hL (by omega) (by omega) dL_law_863 (fun z333 ez333 lz333 uz333 => ?_)
          refine X_callV hK [.int (iI z332), .int (iI z333)] [] lk_L_91 (c_X11_told _ _ _ _ _ S88 g89 b1 z332 z333 (qS88 _ _ (qb84 _ _ hk66)) (by omega) (by omega) al9) (qS88 _ _ (qb84 _ _ hk66)) ⟨by decide, rfl⟩ dL_law_864 rfl rfl (by simp [Value.category]) (by decide) (by omega) (by omega) (by decide) (fun r334 S336 g335 pr334 qr334 hg335 => ?_)
          obtain ⟨rfl, z337, rfl, lz337, uz337⟩ := pr334
          refine X_st [.int (iI z337)] rfl ?_
          refine X_pop hK dL_law_867 rfl ?_
          refine X_aloadn hK (i := 2) 2 dL_law_868 rfl rfl ?_
          refine X_aloadn hK (i := 0) 4 dL_law_869 rfl rfl ?_
          refine X_iload hK (i := 4) 0 dL_law_870 rfl ?_
          refine X_iconst hK dL_law_872 ?_
          refine X_iadd hK dL_law_873 ?_
          refine X_scrK hK hX hbl hbA hL (by omega) (by omega) ez332 dL_law_874 ?_
          refine X_aloadn hK (i := 0) 4 dL_law_875 rfl rfl ?_
          refine X_iload hK (i := 4) 0 dL_law_876 rfl ?_
          refine X_iconst hK dL_law_878 ?_
          refine X_iadd hK dL_law_879 ?_
          refine X_scrK hK hX hbl hbA hL (by omega) (by omega) ez333 dL_law_880 ?_
          refine X_callV hK [.int (iI z332), .int (iI z333)] [] lk_L_94 (c_X12_told _ _ _ _ _ S88 g335 b37 z332 z333 (qS88 _ _ (qb84 _ _ hs_y64)) (by omega) (by omega) (xTw_m tw9 hg335 xLe.rf (by decide))) (qS88 _ _ (qb84 _ _ hs_y64)) ⟨by decide, rfl⟩ dL_law_881 rfl rfl (by simp [Value.category]) (by decide) (by omega) (by omega) (by decide) (fun r338 S340 g339 pr338 qr338 hg339 => ?_)
          obtain ⟨rfl, z341, rfl, lz341, uz341⟩ := pr338
          refine X_st [.int (iI z341)] rfl ?_
          refine X_pop hK dL_law_884 rfl ?_
          refine X_goto hK 1465 dL_law_885 (by decide) ?_
          refine X_iinc hK (i := 4) (z := i9) (n := 6) 0 [(4, .int (iI (i9 + 6))), (3, .ref b84), (2, .ref b37), (1, .ref b1), (0, .ref b)] dL_law_1465 rfl (by decide) rfl ?_
          refine X_goto hK 23 dL_law_1468 (by decide) ?_
          exact ih9 S88 qS88 g339 (i9 + 6) k9 t9 c9 b9 sh9 sp9 sm9 (by omega) (by omega) (by omega) (by omega) (by omega) (by omega) (by omega) (by omega) (xLs_mod (xLs_mod al9 hg335 (by decide)) hg339 (by decide)) si9 (xPi_m (xPi_m pi9 hg335 xLe.rf (by decide)) hg339 xLe.rf (by decide)) (xMp_m (xMp_m mp9 hg335 xLe.rf (by decide)) hg339 xLe.rf (by decide)) (xTw_m (xTw_m tw9 hg335 xLe.rf (by decide)) hg339 xLe.rf (by decide)) (xPw_m (xPw_m pw9 hg335 xLe.rf (by decide)) hg339 xLe.rf (by decide)) ((hg339 b1 12 0 0 (qS88 _ _ (qb84 _ _ hk66)) (by decide)).trans ((hg335 b1 12 0 0 (qS88 _ _ (qb84 _ _ hk66)) (by decide)).trans el09)) ((hg339 b1 12 0 3 (qS88 _ _ (qb84 _ _ hk66)) (by decide)).trans ((hg335 b1 12 0 3 (qS88 _ _ (qb84 _ _ hk66)) (by decide)).trans el19)) ((hg339 b1 12 0 1 (qS88 _ _ (qb84 _ _ hk66)) (by decide)).trans ((hg335 b1 12 0 1 (qS88 _ _ (qb84 _ _ hk66)) (by decide)).trans el29)) ((hg339 b35 6 0 1 (qS88 _ _ (qb84 _ _ hk74)) (by decide)).trans ((hg335 b35 6 0 1 (qS88 _ _ (qb84 _ _ hk74)) (by decide)).trans el39)) ((hg339 b1 12 0 2 (qS88 _ _ (qb84 _ _ hk66)) (by decide)).trans ((hg335 b1 12 0 2 (qS88 _ _ (qb84 _ _ hk66)) (by decide)).trans el49)) ((hg339 b19 4 0 0 (qS88 _ _ (qb84 _ _ hk67)) (by decide)).trans ((hg335 b19 4 0 0 (qS88 _ _ (qb84 _ _ hk67)) (by decide)).trans el59)) ((hg339 b19 4 0 2 (qS88 _ _ (qb84 _ _ hk67)) (by decide)).trans ((hg335 b19 4 0 2 (qS88 _ _ (qb84 _ _ hk67)) (by decide)).trans el69)) ((hg339 b19 4 0 3 (qS88 _ _ (qb84 _ _ hk67)) (by decide)).trans ((hg335 b19 4 0 3 (qS88 _ _ (qb84 _ _ hk67)) (by decide)).trans el79)) ((hg339 b19 4 0 4 (qS88 _ _ (qb84 _ _ hk67)) (by decide)).trans ((hg335 b19 4 0 4 (qS88 _ _ (qb84 _ _ hk67)) (by decide)).trans el89)) ((hg339 b33 10 0 0 (qS88 _ _ (qb84 _ _ hk72)) (by decide)).trans ((hg335 b33 10 0 0 (qS88 _ _ (qb84 _ _ hk72)) (by decide)).trans el99)) ((hg339 b37 13 0 1 (qS88 _ _ (qb84 _ _ hs_y64)) (by decide)).trans ((hg335 b37 13 0 1 (qS88 _ _ (qb84 _ _ hs_y64)) (by decide)).trans el109)) ((hg339 b37 13 0 10 (qS88 _ _ (qb84 _ _ hs_y64)) (by decide)).trans ((hg335 b37 13 0 10 (qS88 _ _ (qb84 _ _ hs_y64)) (by decide)).trans el119)) ((hg339 b37 13 0 13 (qS88 _ _ (qb84 _ _ hs_y64)) (by decide)).trans ((hg335 b37 13 0 13 (qS88 _ _ (qb84 _ _ hs_y64)) (by decide)).trans el129)) ((hg339 b37 13 0 14 (qS88 _ _ (qb84 _ _ hs_y64)) (by decide)).trans ((hg335 b37 13 0 14 (qS88 _ _ (qb84 _ _ hs_y64)) (by decide)).trans el139)) ((hg339 b37 13 0 12 (qS88 _ _ (qb84 _ _ hs_y64)) (by decide)).trans ((hg335 b37 13 0 12 (qS88 _ _ (qb84 _ _ hs_y64)) (by decide)).trans el149)) ((hg339 b33 10 0 1 (qS88 _ _ (qb84 _ _ hk72)) (by decide)).trans ((hg335 b33 10 0 1 (qS88 _ _ (qb84 _ _ hk72)) (by decide)).trans exk9)) ((hg339 b37 13 0 2 (qS88 _ _ (qb84 _ _ hs_y64)) (by decide)).trans ((hg335 b37 13 0 2 (qS88 _ _ (qb84 _ _ hs_y64)) (by decide)).trans emk9)) ((hg339 b1 12 0 12 (qS88 _ _ (qb84 _ _ hk66)) (by decide)).trans ((hg335 b1 12 0 12 (qS88 _ _ (qb84 _ _ hk66)) (by decide)).trans ext9)) ((hg339 b37 13 0 3 (qS88 _ _ (qb84 _ _ hs_y64)) (by decide)).trans ((hg335 b37 13 0 3 (qS88 _ _ (qb84 _ _ hs_y64)) (by decide)).trans emt9)) ((hg339 b34 5 0 3 (qS88 _ _ (qb84 _ _ hk73)) (by decide)).trans ((hg335 b34 5 0 3 (qS88 _ _ (qb84 _ _ hk73)) (by decide)).trans exc9)) ((hg339 b37 13 0 69 (qS88 _ _ (qb84 _ _ hs_y64)) (by decide)).trans ((hg335 b37 13 0 69 (qS88 _ _ (qb84 _ _ hs_y64)) (by decide)).trans emc9)) ((hg339 b36 0 0 2 (qS88 _ _ (qb84 _ _ hk75)) (by decide)).trans ((hg335 b36 0 0 2 (qS88 _ _ (qb84 _ _ hk75)) (by decide)).trans exb9)) ((hg339 b37 13 0 16 (qS88 _ _ (qb84 _ _ hs_y64)) (by decide)).trans ((hg335 b37 13 0 16 (qS88 _ _ (qb84 _ _ hs_y64)) (by decide)).trans emb9)) ((hg339 b1 12 0 16 (qS88 _ _ (qb84 _ _ hk66)) (by decide)).trans ((hg335 b1 12 0 16 (qS88 _ _ (qb84 _ _ hk66)) (by decide)).trans exsh9)) ((hg339 b37 13 0 89 (qS88 _ _ (qb84 _ _ hs_y64)) (by decide)).trans ((hg335 b37 13 0 89 (qS88 _ _ (qb84 _ _ hs_y64)) (by decide)).trans emsh9)) ((hg339 b1 12 0 17 (qS88 _ _ (qb84 _ _ hk66)) (by decide)).trans ((hg335 b1 12 0 17 (qS88 _ _ (qb84 _ _ hk66)) (by decide)).trans exsp9)) ((hg339 b37 13 0 90 (qS88 _ _ (qb84 _ _ hs_y64)) (by decide)).trans ((hg335 b37 13 0 90 (qS88 _ _ (qb84 _ _ hs_y64)) (by decide)).trans emsp9)) ((hg339 b37 13 0 17 (qS88 _ _ (qb84 _ _ hs_y64)) (by decide)).trans ((hg335 b37 13 0 17 (qS88 _ _ (qb84 _ _ hs_y64)) (by decide)).trans emsm9)) (xWn.m (xWn.m wn9 (qS88 _ _ (qb84 _ _ hk71)) (qS88 _ _ (qb84 _ _ hk78)) hg335 xLe.rf (by decide)) (qS88 _ _ (qb84 _ _ hk71)) (qS88 _ _ (qb84 _ _ hk78)) hg339 xLe.rf (by decide)) (by rw [(Eq.trans (xv_m hg339 (qS88 _ _ (qb84 _ _ hk69)) (by decide) (by decide)) (xv_m hg335 (qS88 _ _ (qb84 _ _ hk69)) (by decide) (by decide))), (Eq.trans (xv_m hg339 (qS88 _ _ (qb84 _ _ hk76)) (by decide) (by decide)) (xv_m hg335 (qS88 _ _ (qb84 _ _ hk76)) (by decide) (by decide)))]; exact wt9) (by rw [(Eq.trans (xv_m hg339 (qS88 _ _ (qb84 _ _ hk70)) (by decide) (by decide)) (xv_m hg335 (qS88 _ _ (qb84 _ _ hk70)) (by decide) (by decide))), (Eq.trans (xv_m hg339 (qS88 _ _ (qb84 _ _ hk77)) (by decide) (by decide)) (xv_m hg335 (qS88 _ _ (qb84 _ _ hk77)) (by decide) (by decide)))]; exact ld9) (by rw [(Eq.trans (xv_m hg339 (qS88 _ _ (qb84 _ _ hk68)) (by decide) (by decide)) (xv_m hg335 (qS88 _ _ (qb84 _ _ hk68)) (by decide) (by decide))), (Eq.trans (xv_m hg339 (qS88 _ _ (qb84 _ _ hs_b83)) (by decide) (by decide)) (xv_m hg335 (qS88 _ _ (qb84 _ _ hs_b83)) (by decide) (by decide)))]; exact sk9) (by rw [(Eq.trans (xv_m hg339 (qS88 _ _ (qb84 _ _ hs_b81)) (by decide) (by decide)) (xv_m hg335 (qS88 _ _ (qb84 _ _ hs_b81)) (by decide) (by decide))), (Eq.trans (xv_m hg339 (qS88 _ _ (qb84 _ _ hs_b82)) (by decide) (by decide)) (xv_m hg335 (qS88 _ _ (qb84 _ _ hs_b82)) (by decide) (by decide)))]; exact xTc.mono tc9 (by omega)) dc9 ds9 (by omega) (by omega) (by omega)
        · refine X_tableIn hK 888 16 (by decide) c93 (by decide) (by decide) dL_law_40 rfl (by decide) ?_
          refine X_aloadn hK (i := 1) 3 dL_law_888 rfl rfl ?_
          refine X_callV hK [] [] lk_L_95 (c_X11_why _ _ _ _ _ S88 g89 b1 (qS88 _ _ (qb84 _ _ hk66))) (qS88 _ _ (qb84 _ _ hk66)) ⟨by decide, rfl⟩ dL_law_889 rfl rfl (by simp [Value.category]) (by decide) (by omega) (by omega) (by decide) (fun r342 S344 g343 pr342 qr342 hg343 => ?_)
          obtain ⟨rfl, rfl, z345, rfl, lz345, uz345⟩ := pr342
          refine X_st [.int (iI z345)] rfl ?_
          refine X_pop hK dL_law_892 rfl ?_
          refine X_aloadn hK (i := 2) 2 dL_law_893 rfl rfl ?_
          refine X_callV hK [] [] lk_L_98 (c_X12_why _ _ _ _ _ S88 g89 b37 (qS88 _ _ (qb84 _ _ hs_y64))) (qS88 _ _ (qb84 _ _ hs_y64)) ⟨by decide, rfl⟩ dL_law_894 rfl rfl (by simp [Value.category]) (by decide) (by omega) (by omega) (by decide) (fun r346 S348 g347 pr346 qr346 hg347 => ?_)
          obtain ⟨rfl, z349, rfl, lz349, uz349⟩ := pr346
          refine X_st [.int (iI z349)] rfl ?_
          refine X_pop hK dL_law_897 rfl ?_
          refine X_goto hK 1465 dL_law_898 (by decide) ?_
          refine X_iinc hK (i := 4) (z := i9) (n := 6) 0 [(4, .int (iI (i9 + 6))), (3, .ref b84), (2, .ref b37), (1, .ref b1), (0, .ref b)] dL_law_1465 rfl (by decide) rfl ?_
          refine X_goto hK 23 dL_law_1468 (by decide) ?_
          exact ih9 S88 qS88 g347 (i9 + 6) k9 t9 c9 b9 sh9 sp9 sm9 (by omega) (by omega) (by omega) (by omega) (by omega) (by omega) (by omega) (by omega) (xLs_mod al9 hg347 (by decide)) si9 (xPi_m pi9 hg347 xLe.rf (by decide)) (xMp_m mp9 hg347 xLe.rf (by decide)) (xTw_m tw9 hg347 xLe.rf (by decide)) (xPw_m pw9 hg347 xLe.rf (by decide)) ((hg347 b1 12 0 0 (qS88 _ _ (qb84 _ _ hk66)) (by decide)).trans el09) ((hg347 b1 12 0 3 (qS88 _ _ (qb84 _ _ hk66)) (by decide)).trans el19) ((hg347 b1 12 0 1 (qS88 _ _ (qb84 _ _ hk66)) (by decide)).trans el29) ((hg347 b35 6 0 1 (qS88 _ _ (qb84 _ _ hk74)) (by decide)).trans el39) ((hg347 b1 12 0 2 (qS88 _ _ (qb84 _ _ hk66)) (by decide)).trans el49) ((hg347 b19 4 0 0 (qS88 _ _ (qb84 _ _ hk67)) (by decide)).trans el59) ((hg347 b19 4 0 2 (qS88 _ _ (qb84 _ _ hk67)) (by decide)).trans el69) ((hg347 b19 4 0 3 (qS88 _ _ (qb84 _ _ hk67)) (by decide)).trans el79) ((hg347 b19 4 0 4 (qS88 _ _ (qb84 _ _ hk67)) (by decide)).trans el89) ((hg347 b33 10 0 0 (qS88 _ _ (qb84 _ _ hk72)) (by decide)).trans el99) ((hg347 b37 13 0 1 (qS88 _ _ (qb84 _ _ hs_y64)) (by decide)).trans el109) ((hg347 b37 13 0 10 (qS88 _ _ (qb84 _ _ hs_y64)) (by decide)).trans el119) ((hg347 b37 13 0 13 (qS88 _ _ (qb84 _ _ hs_y64)) (by decide)).trans el129) ((hg347 b37 13 0 14 (qS88 _ _ (qb84 _ _ hs_y64)) (by decide)).trans el139) ((hg347 b37 13 0 12 (qS88 _ _ (qb84 _ _ hs_y64)) (by decide)).trans el149) ((hg347 b33 10 0 1 (qS88 _ _ (qb84 _ _ hk72)) (by decide)).trans exk9) ((hg347 b37 13 0 2 (qS88 _ _ (qb84 _ _ hs_y64)) (by decide)).trans emk9) ((hg347 b1 12 0 12 (qS88 _ _ (qb84 _ _ hk66)) (by decide)).trans ext9) ((hg347 b37 13 0 3 (qS88 _ _ (qb84 _ _ hs_y64)) (by decide)).trans emt9) ((hg347 b34 5 0 3 (qS88 _ _ (qb84 _ _ hk73)) (by decide)).trans exc9) ((hg347 b37 13 0 69 (qS88 _ _ (qb84 _ _ hs_y64)) (by decide)).trans emc9) ((hg347 b36 0 0 2 (qS88 _ _ (qb84 _ _ hk75)) (by decide)).trans exb9) ((hg347 b37 13 0 16 (qS88 _ _ (qb84 _ _ hs_y64)) (by decide)).trans emb9) ((hg347 b1 12 0 16 (qS88 _ _ (qb84 _ _ hk66)) (by decide)).trans exsh9) ((hg347 b37 13 0 89 (qS88 _ _ (qb84 _ _ hs_y64)) (by decide)).trans emsh9) ((hg347 b1 12 0 17 (qS88 _ _ (qb84 _ _ hk66)) (by decide)).trans exsp9) ((hg347 b37 13 0 90 (qS88 _ _ (qb84 _ _ hs_y64)) (by decide)).trans emsp9) ((hg347 b37 13 0 17 (qS88 _ _ (qb84 _ _ hs_y64)) (by decide)).trans emsm9) (xWn.m wn9 (qS88 _ _ (qb84 _ _ hk71)) (qS88 _ _ (qb84 _ _ hk78)) hg347 xLe.rf (by decide)) (by rw [(xv_m hg347 (qS88 _ _ (qb84 _ _ hk69)) (by decide) (by decide)), (xv_m hg347 (qS88 _ _ (qb84 _ _ hk76)) (by decide) (by decide))]; exact wt9) (by rw [(xv_m hg347 (qS88 _ _ (qb84 _ _ hk70)) (by decide) (by decide)), (xv_m hg347 (qS88 _ _ (qb84 _ _ hk77)) (by decide) (by decide))]; exact ld9) (by rw [(xv_m hg347 (qS88 _ _ (qb84 _ _ hk68)) (by decide) (by decide)), (xv_m hg347 (qS88 _ _ (qb84 _ _ hs_b83)) (by decide) (by decide))]; exact sk9) (by rw [(xv_m hg347 (qS88 _ _ (qb84 _ _ hs_b81)) (by decide) (by decide)), (xv_m hg347 (qS88 _ _ (qb84 _ _ hs_b82)) (by decide) (by decide))]; exact xTc.mono tc9 (by omega)) dc9 ds9 (by omega) (by omega) (by omega)
        · refine X_tableIn hK 901 17 (by decide) c93 (by decide) (by decide) dL_law_40 rfl (by decide) ?_
          refine X_aloadn hK (i := 1) 3 dL_law_901 rfl rfl ?_
          refine X_callVU hK [] [] lk_L_99 (c_X11_close _ _ _ _ _ S88 g89 b1 t9 (qS88 _ _ (qb84 _ _ hk66)) (by omega) ext9 al9 si9) (qS88 _ _ (qb84 _ _ hk66)) ⟨by decide, rfl⟩ dL_law_902 rfl rfl (by simp [Value.category]) (by decide) (by omega) (by omega) (by decide) (fun r350 S352 g351 dcr350 dsr350 pr350 qr350 hg351 => ?_)
          obtain ⟨wr350, z353, rfl, lz353, uz353, k354, k355, k356, k357⟩ := pr350
          refine X_st [.int (iI z353)] rfl ?_
          refine X_pop hK dL_law_905 rfl ?_
          refine X_aloadn hK (i := 2) 2 dL_law_906 rfl rfl ?_
          refine X_callV hK [] [] lk_L_102 (c_X12_close _ _ _ _ _ S352 g351 b37 t9 (qr350 _ _ (qS88 _ _ (qb84 _ _ hs_y64))) (by omega) ((hg351 b37 13 0 3 (qS88 _ _ (qb84 _ _ hs_y64)) (by decide)).trans emt9) (xTw_m tw9 hg351 qr350 (by decide))) (qr350 _ _ (qS88 _ _ (qb84 _ _ hs_y64))) ⟨by decide, rfl⟩ dL_law_907 rfl rfl (by simp [Value.category]) (by decide) (by omega) (by omega) (by decide) (fun r358 S360 g359 pr358 qr358 hg359 => ?_)
          obtain ⟨rfl, z361, rfl, lz361, uz361, k362⟩ := pr358
          refine X_st [.int (iI z361)] rfl ?_
          refine X_pop hK dL_law_910 rfl ?_
          refine X_goto hK 1465 dL_law_911 (by decide) ?_
          refine X_iinc hK (i := 4) (z := i9) (n := 6) 0 [(4, .int (iI (i9 + 6))), (3, .ref b84), (2, .ref b37), (1, .ref b1), (0, .ref b)] dL_law_1465 rfl (by decide) rfl ?_
          refine X_goto hK 23 dL_law_1468 (by decide) ?_
          exact ih9 S352 (xLe.tr qS88 qr350) g359 (i9 + 6) k9 (if t9 < 400 then t9 + 1 else t9) c9 b9 sh9 sp9 sm9 (by omega) (by omega) (by first | omega | (split <;> omega)) (by omega) (by omega) (by omega) (by omega) (by omega) (xLs_mod k354 hg359 (by decide)) k355 (xPi_m (xPi_m pi9 hg351 qr350 (by decide)) hg359 xLe.rf (by decide)) (xMp_m (xMp_m mp9 hg351 qr350 (by decide)) hg359 xLe.rf (by decide)) (xTw_m (xTw_m tw9 hg351 qr350 (by decide)) hg359 xLe.rf (by decide)) (xPw_m (xPw_m pw9 hg351 qr350 (by decide)) hg359 xLe.rf (by decide)) ((hg359 b1 12 0 0 (qr350 _ _ (qS88 _ _ (qb84 _ _ hk66))) (by decide)).trans ((hg351 b1 12 0 0 (qS88 _ _ (qb84 _ _ hk66)) (by decide)).trans el09)) ((hg359 b1 12 0 3 (qr350 _ _ (qS88 _ _ (qb84 _ _ hk66))) (by decide)).trans ((hg351 b1 12 0 3 (qS88 _ _ (qb84 _ _ hk66)) (by decide)).trans el19)) ((hg359 b1 12 0 1 (qr350 _ _ (qS88 _ _ (qb84 _ _ hk66))) (by decide)).trans ((hg351 b1 12 0 1 (qS88 _ _ (qb84 _ _ hk66)) (by decide)).trans el29)) ((hg359 b35 6 0 1 (qr350 _ _ (qS88 _ _ (qb84 _ _ hk74))) (by decide)).trans ((hg351 b35 6 0 1 (qS88 _ _ (qb84 _ _ hk74)) (by decide)).trans el39)) ((hg359 b1 12 0 2 (qr350 _ _ (qS88 _ _ (qb84 _ _ hk66))) (by decide)).trans ((hg351 b1 12 0 2 (qS88 _ _ (qb84 _ _ hk66)) (by decide)).trans el49)) ((hg359 b19 4 0 0 (qr350 _ _ (qS88 _ _ (qb84 _ _ hk67))) (by decide)).trans ((hg351 b19 4 0 0 (qS88 _ _ (qb84 _ _ hk67)) (by decide)).trans el59)) ((hg359 b19 4 0 2 (qr350 _ _ (qS88 _ _ (qb84 _ _ hk67))) (by decide)).trans ((hg351 b19 4 0 2 (qS88 _ _ (qb84 _ _ hk67)) (by decide)).trans el69)) ((hg359 b19 4 0 3 (qr350 _ _ (qS88 _ _ (qb84 _ _ hk67))) (by decide)).trans ((hg351 b19 4 0 3 (qS88 _ _ (qb84 _ _ hk67)) (by decide)).trans el79)) ((hg359 b19 4 0 4 (qr350 _ _ (qS88 _ _ (qb84 _ _ hk67))) (by decide)).trans ((hg351 b19 4 0 4 (qS88 _ _ (qb84 _ _ hk67)) (by decide)).trans el89)) ((hg359 b33 10 0 0 (qr350 _ _ (qS88 _ _ (qb84 _ _ hk72))) (by decide)).trans ((hg351 b33 10 0 0 (qS88 _ _ (qb84 _ _ hk72)) (by decide)).trans el99)) ((hg359 b37 13 0 1 (qr350 _ _ (qS88 _ _ (qb84 _ _ hs_y64))) (by decide)).trans ((hg351 b37 13 0 1 (qS88 _ _ (qb84 _ _ hs_y64)) (by decide)).trans el109)) ((hg359 b37 13 0 10 (qr350 _ _ (qS88 _ _ (qb84 _ _ hs_y64))) (by decide)).trans ((hg351 b37 13 0 10 (qS88 _ _ (qb84 _ _ hs_y64)) (by decide)).trans el119)) ((hg359 b37 13 0 13 (qr350 _ _ (qS88 _ _ (qb84 _ _ hs_y64))) (by decide)).trans ((hg351 b37 13 0 13 (qS88 _ _ (qb84 _ _ hs_y64)) (by decide)).trans el129)) ((hg359 b37 13 0 14 (qr350 _ _ (qS88 _ _ (qb84 _ _ hs_y64))) (by decide)).trans ((hg351 b37 13 0 14 (qS88 _ _ (qb84 _ _ hs_y64)) (by decide)).trans el139)) ((hg359 b37 13 0 12 (qr350 _ _ (qS88 _ _ (qb84 _ _ hs_y64))) (by decide)).trans ((hg351 b37 13 0 12 (qS88 _ _ (qb84 _ _ hs_y64)) (by decide)).trans el149)) ((hg359 b33 10 0 1 (qr350 _ _ (qS88 _ _ (qb84 _ _ hk72))) (by decide)).trans ((hg351 b33 10 0 1 (qS88 _ _ (qb84 _ _ hk72)) (by decide)).trans exk9)) ((hg359 b37 13 0 2 (qr350 _ _ (qS88 _ _ (qb84 _ _ hs_y64))) (by decide)).trans ((hg351 b37 13 0 2 (qS88 _ _ (qb84 _ _ hs_y64)) (by decide)).trans emk9)) ((hg359 b1 12 0 12 (qr350 _ _ (qS88 _ _ (qb84 _ _ hk66))) (by decide)).trans k357) k362 ((hg359 b34 5 0 3 (qr350 _ _ (qS88 _ _ (qb84 _ _ hk73))) (by decide)).trans ((hg351 b34 5 0 3 (qS88 _ _ (qb84 _ _ hk73)) (by decide)).trans exc9)) ((hg359 b37 13 0 69 (qr350 _ _ (qS88 _ _ (qb84 _ _ hs_y64))) (by decide)).trans ((hg351 b37 13 0 69 (qS88 _ _ (qb84 _ _ hs_y64)) (by decide)).trans emc9)) ((hg359 b36 0 0 2 (qr350 _ _ (qS88 _ _ (qb84 _ _ hk75))) (by decide)).trans ((hg351 b36 0 0 2 (qS88 _ _ (qb84 _ _ hk75)) (by decide)).trans exb9)) ((hg359 b37 13 0 16 (qr350 _ _ (qS88 _ _ (qb84 _ _ hs_y64))) (by decide)).trans ((hg351 b37 13 0 16 (qS88 _ _ (qb84 _ _ hs_y64)) (by decide)).trans emb9)) ((hg359 b1 12 0 16 (qr350 _ _ (qS88 _ _ (qb84 _ _ hk66))) (by decide)).trans ((hg351 b1 12 0 16 (qS88 _ _ (qb84 _ _ hk66)) (by decide)).trans exsh9)) ((hg359 b37 13 0 89 (qr350 _ _ (qS88 _ _ (qb84 _ _ hs_y64))) (by decide)).trans ((hg351 b37 13 0 89 (qS88 _ _ (qb84 _ _ hs_y64)) (by decide)).trans emsh9)) ((hg359 b1 12 0 17 (qr350 _ _ (qS88 _ _ (qb84 _ _ hk66))) (by decide)).trans ((hg351 b1 12 0 17 (qS88 _ _ (qb84 _ _ hk66)) (by decide)).trans exsp9)) ((hg359 b37 13 0 90 (qr350 _ _ (qS88 _ _ (qb84 _ _ hs_y64))) (by decide)).trans ((hg351 b37 13 0 90 (qS88 _ _ (qb84 _ _ hs_y64)) (by decide)).trans emsp9)) ((hg359 b37 13 0 17 (qr350 _ _ (qS88 _ _ (qb84 _ _ hs_y64))) (by decide)).trans ((hg351 b37 13 0 17 (qS88 _ _ (qb84 _ _ hs_y64)) (by decide)).trans emsm9)) (xWn.m (xWn.m wn9 (qS88 _ _ (qb84 _ _ hk71)) (qS88 _ _ (qb84 _ _ hk78)) hg351 qr350 (by decide)) (qr350 _ _ (qS88 _ _ (qb84 _ _ hk71))) (qr350 _ _ (qS88 _ _ (qb84 _ _ hk78))) hg359 xLe.rf (by decide)) (by rw [(Eq.trans (xv_m hg359 (qr350 _ _ (qS88 _ _ (qb84 _ _ hk69))) (by decide) (by decide)) (xv_m hg351 (qS88 _ _ (qb84 _ _ hk69)) (by decide) (by decide))), (Eq.trans (xv_m hg359 (qr350 _ _ (qS88 _ _ (qb84 _ _ hk76))) (by decide) (by decide)) (xv_m hg351 (qS88 _ _ (qb84 _ _ hk76)) (by decide) (by decide)))]; exact wt9) (by rw [(Eq.trans (xv_m hg359 (qr350 _ _ (qS88 _ _ (qb84 _ _ hk70))) (by decide) (by decide)) (xv_m hg351 (qS88 _ _ (qb84 _ _ hk70)) (by decide) (by decide))), (Eq.trans (xv_m hg359 (qr350 _ _ (qS88 _ _ (qb84 _ _ hk77))) (by decide) (by decide)) (xv_m hg351 (qS88 _ _ (qb84 _ _ hk77)) (by decide) (by decide)))]; exact ld9) (by rw [(Eq.trans (xv_m hg359 (qr350 _ _ (qS88 _ _ (qb84 _ _ hk68))) (by decide) (by decide)) (xv_m hg351 (qS88 _ _ (qb84 _ _ hk68)) (by decide) (by decide))), (Eq.trans (xv_m hg359 (qr350 _ _ (qS88 _ _ (qb84 _ _ hs_b83))) (by decide) (by decide)) (xv_m hg351 (qS88 _ _ (qb84 _ _ hs_b83)) (by decide) (by decide)))]; exact sk9) (by rw [(Eq.trans (xv_m hg359 (qr350 _ _ (qS88 _ _ (qb84 _ _ hs_b81))) (by decide) (by decide)) (xv_m hg351 (qS88 _ _ (qb84 _ _ hs_b81)) (by decide) (by decide))), (Eq.trans (xv_m hg359 (qr350 _ _ (qS88 _ _ (qb84 _ _ hs_b82))) (by decide) (by decide)) (xv_m hg351 (qS88 _ _ (qb84 _ _ hs_b82)) (by decide) (by decide)))]; exact xTc.mono tc9 (by omega)) (dc9 + dcr350) (ds9 + dsr350) (by omega) (by omega) (by omega)
        · refine X_tableIn hK 914 18 (by decide) c93 (by decide) (by decide) dL_law_40 rfl (by decide) ?_
          refine X_aloadn hK (i := 1) 3 dL_law_914 rfl rfl ?_
          refine X_aloadn hK (i := 0) 4 dL_law_915 rfl rfl ?_
          refine X_iload hK (i := 4) 0 dL_law_916 rfl ?_
          refine X_iconst hK dL_law_918 ?_
          refine X_iadd hK dL_law_919 ?_
          refine X_scr hK hX hbl hbA hL (by omega) (by omega) dL_law_920 (fun z363 ez363 lz363 uz363 => ?_)
          refine X_aloadn hK (i := 0) 4 dL_law_921 rfl rfl ?_
          refine X_iload hK (i := 4) 0 dL_law_922 rfl ?_
          refine X_iconst hK dL_law_924 ?_
          refine X_iadd hK dL_law_925 ?_
          refine X_scr hK hX hbl hbA hL (by omega) (by omega) dL_law_926 (fun z364 ez364 lz364 uz364 => ?_)
          refine X_aloadn hK (i := 3) 1 dL_law_927 rfl rfl ?_
          refine X_callSW hK hts hT hp3 (n := 4) [.ref b1, .int (iI z363), .int (iI z364), .ref b84] [] gl_L_of (by decide +kernel) (cw_L_of _ hst _ _ _ _ S88 g89 b1 b84 z363 z364 (qS88 _ _ (qb84 _ _ hk66)) (qS88 _ _ hs_b84) (by omega) (by omega) al9) dL_law_928 rfl rfl (by simp [Value.category]) (by decide) (by omega) (by omega) (by decide) (fun r366 S367 g368 pr366 qr366 hg368 => ?_)
          obtain ⟨rfl, z365, rfl⟩ := pr366
          refine X_st [.int (iI z365)] rfl ?_
          refine X_istore hK (i := 5) [(5, .int (iI z365)), (4, .int (iI i9)), (3, .ref b84), (2, .ref b37), (1, .ref b1), (0, .ref b)] dL_law_931 (by decide) rfl ?_
          refine X_aloadn hK (i := 2) 3 dL_law_933 rfl rfl ?_
          refine X_aloadn hK (i := 0) 5 dL_law_934 rfl rfl ?_
          refine X_iload hK (i := 4) 1 dL_law_935 rfl ?_
          refine X_iconst hK dL_law_937 ?_
          refine X_iadd hK dL_law_938 ?_
          refine X_scrK hK hX hbl hbA hL (by omega) (by omega) ez363 dL_law_939 ?_
          refine X_aloadn hK (i := 0) 5 dL_law_940 rfl rfl ?_
          refine X_iload hK (i := 4) 1 dL_law_941 rfl ?_
          refine X_iconst hK dL_law_943 ?_
          refine X_iadd hK dL_law_944 ?_
          refine X_scrK hK hX hbl hbA hL (by omega) (by omega) ez364 dL_law_945 ?_
          refine X_callV hK [.int (iI z363), .int (iI z364)] [] lk_L_108 (c_X12_of _ _ _ _ _ S88 g368 b37 z363 z364 (qS88 _ _ (qb84 _ _ hs_y64)) (by omega) (by omega)) (qS88 _ _ (qb84 _ _ hs_y64)) ⟨by decide, rfl⟩ dL_law_946 rfl rfl (by simp [Value.category]) (by decide) (by omega) (by omega) (by decide) (fun r369 S371 g370 pr369 qr369 hg370 => ?_)
          obtain ⟨rfl, z372, rfl, lz372, uz372⟩ := pr369
          refine X_st [.int (iI z372)] rfl ?_
          refine X_istore hK (i := 6) [(6, .int (iI z372)), (5, .int (iI z365)), (4, .int (iI i9)), (3, .ref b84), (2, .ref b37), (1, .ref b1), (0, .ref b)] dL_law_949 (by decide) rfl ?_
          refine X_goto hK 1465 dL_law_951 (by decide) ?_
          refine X_iinc hK (i := 4) (z := i9) (n := 6) 2 [(4, .int (iI (i9 + 6))), (6, .int (iI z372)), (5, .int (iI z365)), (3, .ref b84), (2, .ref b37), (1, .ref b1), (0, .ref b)] dL_law_1465 rfl (by decide) rfl ?_
          refine X_goto hK 23 dL_law_1468 (by decide) ?_
          refine X_lv [(4, .int (iI (i9 + 6))), (3, .ref b84), (2, .ref b37), (1, .ref b1), (0, .ref b)] [0, 3, 4, 5, 6] rfl ?_
          exact ih9 S88 qS88 g370 (i9 + 6) k9 t9 c9 b9 sh9 sp9 sm9 (by omega) (by omega) (by omega) (by omega) (by omega) (by omega) (by omega) (by omega) (xLs_mod (xLs_mod al9 hg368 (by decide)) hg370 (by decide)) si9 (xPi_m (xPi_m pi9 hg368 xLe.rf (by decide)) hg370 xLe.rf (by decide)) (xMp_m (xMp_m mp9 hg368 xLe.rf (by decide)) hg370 xLe.rf (by decide)) (xTw_m (xTw_m tw9 hg368 xLe.rf (by decide)) hg370 xLe.rf (by decide)) (xPw_m (xPw_m pw9 hg368 xLe.rf (by decide)) hg370 xLe.rf (by decide)) ((hg370 b1 12 0 0 (qS88 _ _ (qb84 _ _ hk66)) (by decide)).trans ((hg368 b1 12 0 0 (qS88 _ _ (qb84 _ _ hk66)) (by decide)).trans el09)) ((hg370 b1 12 0 3 (qS88 _ _ (qb84 _ _ hk66)) (by decide)).trans ((hg368 b1 12 0 3 (qS88 _ _ (qb84 _ _ hk66)) (by decide)).trans el19)) ((hg370 b1 12 0 1 (qS88 _ _ (qb84 _ _ hk66)) (by decide)).trans ((hg368 b1 12 0 1 (qS88 _ _ (qb84 _ _ hk66)) (by decide)).trans el29)) ((hg370 b35 6 0 1 (qS88 _ _ (qb84 _ _ hk74)) (by decide)).trans ((hg368 b35 6 0 1 (qS88 _ _ (qb84 _ _ hk74)) (by decide)).trans el39)) ((hg370 b1 12 0 2 (qS88 _ _ (qb84 _ _ hk66)) (by decide)).trans ((hg368 b1 12 0 2 (qS88 _ _ (qb84 _ _ hk66)) (by decide)).trans el49)) ((hg370 b19 4 0 0 (qS88 _ _ (qb84 _ _ hk67)) (by decide)).trans ((hg368 b19 4 0 0 (qS88 _ _ (qb84 _ _ hk67)) (by decide)).trans el59)) ((hg370 b19 4 0 2 (qS88 _ _ (qb84 _ _ hk67)) (by decide)).trans ((hg368 b19 4 0 2 (qS88 _ _ (qb84 _ _ hk67)) (by decide)).trans el69)) ((hg370 b19 4 0 3 (qS88 _ _ (qb84 _ _ hk67)) (by decide)).trans ((hg368 b19 4 0 3 (qS88 _ _ (qb84 _ _ hk67)) (by decide)).trans el79)) ((hg370 b19 4 0 4 (qS88 _ _ (qb84 _ _ hk67)) (by decide)).trans ((hg368 b19 4 0 4 (qS88 _ _ (qb84 _ _ hk67)) (by decide)).trans el89)) ((hg370 b33 10 0 0 (qS88 _ _ (qb84 _ _ hk72)) (by decide)).trans ((hg368 b33 10 0 0 (qS88 _ _ (qb84 _ _ hk72)) (by decide)).trans el99)) ((hg370 b37 13 0 1 (qS88 _ _ (qb84 _ _ hs_y64)) (by decide)).trans ((hg368 b37 13 0 1 (qS88 _ _ (qb84 _ _ hs_y64)) (by decide)).trans el109)) ((hg370 b37 13 0 10 (qS88 _ _ (qb84 _ _ hs_y64)) (by decide)).trans ((hg368 b37 13 0 10 (qS88 _ _ (qb84 _ _ hs_y64)) (by decide)).trans el119)) ((hg370 b37 13 0 13 (qS88 _ _ (qb84 _ _ hs_y64)) (by decide)).trans ((hg368 b37 13 0 13 (qS88 _ _ (qb84 _ _ hs_y64)) (by decide)).trans el129)) ((hg370 b37 13 0 14 (qS88 _ _ (qb84 _ _ hs_y64)) (by decide)).trans ((hg368 b37 13 0 14 (qS88 _ _ (qb84 _ _ hs_y64)) (by decide)).trans el139)) ((hg370 b37 13 0 12 (qS88 _ _ (qb84 _ _ hs_y64)) (by decide)).trans ((hg368 b37 13 0 12 (qS88 _ _ (qb84 _ _ hs_y64)) (by decide)).trans el149)) ((hg370 b33 10 0 1 (qS88 _ _ (qb84 _ _ hk72)) (by decide)).trans ((hg368 b33 10 0 1 (qS88 _ _ (qb84 _ _ hk72)) (by decide)).trans exk9)) ((hg370 b37 13 0 2 (qS88 _ _ (qb84 _ _ hs_y64)) (by decide)).trans ((hg368 b37 13 0 2 (qS88 _ _ (qb84 _ _ hs_y64)) (by decide)).trans emk9)) ((hg370 b1 12 0 12 (qS88 _ _ (qb84 _ _ hk66)) (by decide)).trans ((hg368 b1 12 0 12 (qS88 _ _ (qb84 _ _ hk66)) (by decide)).trans ext9)) ((hg370 b37 13 0 3 (qS88 _ _ (qb84 _ _ hs_y64)) (by decide)).trans ((hg368 b37 13 0 3 (qS88 _ _ (qb84 _ _ hs_y64)) (by decide)).trans emt9)) ((hg370 b34 5 0 3 (qS88 _ _ (qb84 _ _ hk73)) (by decide)).trans ((hg368 b34 5 0 3 (qS88 _ _ (qb84 _ _ hk73)) (by decide)).trans exc9)) ((hg370 b37 13 0 69 (qS88 _ _ (qb84 _ _ hs_y64)) (by decide)).trans ((hg368 b37 13 0 69 (qS88 _ _ (qb84 _ _ hs_y64)) (by decide)).trans emc9)) ((hg370 b36 0 0 2 (qS88 _ _ (qb84 _ _ hk75)) (by decide)).trans ((hg368 b36 0 0 2 (qS88 _ _ (qb84 _ _ hk75)) (by decide)).trans exb9)) ((hg370 b37 13 0 16 (qS88 _ _ (qb84 _ _ hs_y64)) (by decide)).trans ((hg368 b37 13 0 16 (qS88 _ _ (qb84 _ _ hs_y64)) (by decide)).trans emb9)) ((hg370 b1 12 0 16 (qS88 _ _ (qb84 _ _ hk66)) (by decide)).trans ((hg368 b1 12 0 16 (qS88 _ _ (qb84 _ _ hk66)) (by decide)).trans exsh9)) ((hg370 b37 13 0 89 (qS88 _ _ (qb84 _ _ hs_y64)) (by decide)).trans ((hg368 b37 13 0 89 (qS88 _ _ (qb84 _ _ hs_y64)) (by decide)).trans emsh9)) ((hg370 b1 12 0 17 (qS88 _ _ (qb84 _ _ hk66)) (by decide)).trans ((hg368 b1 12 0 17 (qS88 _ _ (qb84 _ _ hk66)) (by decide)).trans exsp9)) ((hg370 b37 13 0 90 (qS88 _ _ (qb84 _ _ hs_y64)) (by decide)).trans ((hg368 b37 13 0 90 (qS88 _ _ (qb84 _ _ hs_y64)) (by decide)).trans emsp9)) ((hg370 b37 13 0 17 (qS88 _ _ (qb84 _ _ hs_y64)) (by decide)).trans ((hg368 b37 13 0 17 (qS88 _ _ (qb84 _ _ hs_y64)) (by decide)).trans emsm9)) (xWn.m (xWn.m wn9 (qS88 _ _ (qb84 _ _ hk71)) (qS88 _ _ (qb84 _ _ hk78)) hg368 xLe.rf (by decide)) (qS88 _ _ (qb84 _ _ hk71)) (qS88 _ _ (qb84 _ _ hk78)) hg370 xLe.rf (by decide)) (by rw [(Eq.trans (xv_m hg370 (qS88 _ _ (qb84 _ _ hk69)) (by decide) (by decide)) (xv_m hg368 (qS88 _ _ (qb84 _ _ hk69)) (by decide) (by decide))), (Eq.trans (xv_m hg370 (qS88 _ _ (qb84 _ _ hk76)) (by decide) (by decide)) (xv_m hg368 (qS88 _ _ (qb84 _ _ hk76)) (by decide) (by decide)))]; exact wt9) (by rw [(Eq.trans (xv_m hg370 (qS88 _ _ (qb84 _ _ hk70)) (by decide) (by decide)) (xv_m hg368 (qS88 _ _ (qb84 _ _ hk70)) (by decide) (by decide))), (Eq.trans (xv_m hg370 (qS88 _ _ (qb84 _ _ hk77)) (by decide) (by decide)) (xv_m hg368 (qS88 _ _ (qb84 _ _ hk77)) (by decide) (by decide)))]; exact ld9) (by rw [(Eq.trans (xv_m hg370 (qS88 _ _ (qb84 _ _ hk68)) (by decide) (by decide)) (xv_m hg368 (qS88 _ _ (qb84 _ _ hk68)) (by decide) (by decide))), (Eq.trans (xv_m hg370 (qS88 _ _ (qb84 _ _ hs_b83)) (by decide) (by decide)) (xv_m hg368 (qS88 _ _ (qb84 _ _ hs_b83)) (by decide) (by decide)))]; exact sk9) (by rw [(Eq.trans (xv_m hg370 (qS88 _ _ (qb84 _ _ hs_b81)) (by decide) (by decide)) (xv_m hg368 (qS88 _ _ (qb84 _ _ hs_b81)) (by decide) (by decide))), (Eq.trans (xv_m hg370 (qS88 _ _ (qb84 _ _ hs_b82)) (by decide) (by decide)) (xv_m hg368 (qS88 _ _ (qb84 _ _ hs_b82)) (by decide) (by decide)))]; exact xTc.mono tc9 (by omega)) (dc9 + 1) (ds9 + 6) (by omega) (by omega) (by omega)
        · refine X_tableIn hK 954 19 (by decide) c93 (by decide) (by decide) dL_law_40 rfl (by decide) ?_
          refine X_aloadn hK (i := 1) 3 dL_law_954 rfl rfl ?_
          refine X_aloadn hK (i := 0) 4 dL_law_955 rfl rfl ?_
          refine X_iload hK (i := 4) 0 dL_law_956 rfl ?_
          refine X_iconst hK dL_law_958 ?_
          refine X_iadd hK dL_law_959 ?_
          refine X_scr hK hX hbl hbA hL (by omega) (by omega) dL_law_960 (fun z373 ez373 lz373 uz373 => ?_)
          refine X_aloadn hK (i := 3) 1 dL_law_961 rfl rfl ?_
          refine X_callSW hK hts hT hp3 (n := 3) [.ref b1, .int (iI z373), .ref b84] [] gl_L_coin (by decide +kernel) (cw_L_coin _ hst _ _ _ _ S88 g89 b1 b84 z373 (qS88 _ _ (qb84 _ _ hk66)) (qS88 _ _ hs_b84) (by omega) al9) dL_law_962 rfl rfl (by simp [Value.category]) (by decide) (by omega) (by omega) (by decide) (fun r375 S376 g377 pr375 qr375 hg377 => ?_)
          obtain ⟨rfl, z374, rfl⟩ := pr375
          refine X_st [.int (iI z374)] rfl ?_
          refine X_istore hK (i := 5) [(5, .int (iI z374)), (4, .int (iI i9)), (3, .ref b84), (2, .ref b37), (1, .ref b1), (0, .ref b)] dL_law_965 (by decide) rfl ?_
          refine X_aloadn hK (i := 2) 3 dL_law_967 rfl rfl ?_
          refine X_aloadn hK (i := 0) 5 dL_law_968 rfl rfl ?_
          refine X_iload hK (i := 4) 1 dL_law_969 rfl ?_
          refine X_iconst hK dL_law_971 ?_
          refine X_iadd hK dL_law_972 ?_
          refine X_scrK hK hX hbl hbA hL (by omega) (by omega) ez373 dL_law_973 ?_
          refine X_callV hK [.int (iI z373)] [] lk_L_112 (c_X12_coin _ _ _ _ _ S88 g377 b37 z373 (qS88 _ _ (qb84 _ _ hs_y64)) (by omega)) (qS88 _ _ (qb84 _ _ hs_y64)) ⟨by decide, rfl⟩ dL_law_974 rfl rfl (by simp [Value.category]) (by decide) (by omega) (by omega) (by decide) (fun r378 S380 g379 pr378 qr378 hg379 => ?_)
          obtain ⟨rfl, z381, rfl, lz381, uz381⟩ := pr378
          refine X_st [.int (iI z381)] rfl ?_
          refine X_istore hK (i := 6) [(6, .int (iI z381)), (5, .int (iI z374)), (4, .int (iI i9)), (3, .ref b84), (2, .ref b37), (1, .ref b1), (0, .ref b)] dL_law_977 (by decide) rfl ?_
          refine X_goto hK 1465 dL_law_979 (by decide) ?_
          refine X_iinc hK (i := 4) (z := i9) (n := 6) 2 [(4, .int (iI (i9 + 6))), (6, .int (iI z381)), (5, .int (iI z374)), (3, .ref b84), (2, .ref b37), (1, .ref b1), (0, .ref b)] dL_law_1465 rfl (by decide) rfl ?_
          refine X_goto hK 23 dL_law_1468 (by decide) ?_
          refine X_lv [(4, .int (iI (i9 + 6))), (3, .ref b84), (2, .ref b37), (1, .ref b1), (0, .ref b)] [0, 3, 4, 5, 6] rfl ?_
          exact ih9 S88 qS88 g379 (i9 + 6) k9 t9 c9 b9 sh9 sp9 sm9 (by omega) (by omega) (by omega) (by omega) (by omega) (by omega) (by omega) (by omega) (xLs_mod (xLs_mod al9 hg377 (by decide)) hg379 (by decide)) si9 (xPi_m (xPi_m pi9 hg377 xLe.rf (by decide)) hg379 xLe.rf (by decide)) (xMp_m (xMp_m mp9 hg377 xLe.rf (by decide)) hg379 xLe.rf (by decide)) (xTw_m (xTw_m tw9 hg377 xLe.rf (by decide)) hg379 xLe.rf (by decide)) (xPw_m (xPw_m pw9 hg377 xLe.rf (by decide)) hg379 xLe.rf (by decide)) ((hg379 b1 12 0 0 (qS88 _ _ (qb84 _ _ hk66)) (by decide)).trans ((hg377 b1 12 0 0 (qS88 _ _ (qb84 _ _ hk66)) (by decide)).trans el09)) ((hg379 b1 12 0 3 (qS88 _ _ (qb84 _ _ hk66)) (by decide)).trans ((hg377 b1 12 0 3 (qS88 _ _ (qb84 _ _ hk66)) (by decide)).trans el19)) ((hg379 b1 12 0 1 (qS88 _ _ (qb84 _ _ hk66)) (by decide)).trans ((hg377 b1 12 0 1 (qS88 _ _ (qb84 _ _ hk66)) (by decide)).trans el29)) ((hg379 b35 6 0 1 (qS88 _ _ (qb84 _ _ hk74)) (by decide)).trans ((hg377 b35 6 0 1 (qS88 _ _ (qb84 _ _ hk74)) (by decide)).trans el39)) ((hg379 b1 12 0 2 (qS88 _ _ (qb84 _ _ hk66)) (by decide)).trans ((hg377 b1 12 0 2 (qS88 _ _ (qb84 _ _ hk66)) (by decide)).trans el49)) ((hg379 b19 4 0 0 (qS88 _ _ (qb84 _ _ hk67)) (by decide)).trans ((hg377 b19 4 0 0 (qS88 _ _ (qb84 _ _ hk67)) (by decide)).trans el59)) ((hg379 b19 4 0 2 (qS88 _ _ (qb84 _ _ hk67)) (by decide)).trans ((hg377 b19 4 0 2 (qS88 _ _ (qb84 _ _ hk67)) (by decide)).trans el69)) ((hg379 b19 4 0 3 (qS88 _ _ (qb84 _ _ hk67)) (by decide)).trans ((hg377 b19 4 0 3 (qS88 _ _ (qb84 _ _ hk67)) (by decide)).trans el79)) ((hg379 b19 4 0 4 (qS88 _ _ (qb84 _ _ hk67)) (by decide)).trans ((hg377 b19 4 0 4 (qS88 _ _ (qb84 _ _ hk67)) (by decide)).trans el89)) ((hg379 b33 10 0 0 (qS88 _ _ (qb84 _ _ hk72)) (by decide)).trans ((hg377 b33 10 0 0 (qS88 _ _ (qb84 _ _ hk72)) (by decide)).trans el99)) ((hg379 b37 13 0 1 (qS88 _ _ (qb84 _ _ hs_y64)) (by decide)).trans ((hg377 b37 13 0 1 (qS88 _ _ (qb84 _ _ hs_y64)) (by decide)).trans el109)) ((hg379 b37 13 0 10 (qS88 _ _ (qb84 _ _ hs_y64)) (by decide)).trans ((hg377 b37 13 0 10 (qS88 _ _ (qb84 _ _ hs_y64)) (by decide)).trans el119)) ((hg379 b37 13 0 13 (qS88 _ _ (qb84 _ _ hs_y64)) (by decide)).trans ((hg377 b37 13 0 13 (qS88 _ _ (qb84 _ _ hs_y64)) (by decide)).trans el129)) ((hg379 b37 13 0 14 (qS88 _ _ (qb84 _ _ hs_y64)) (by decide)).trans ((hg377 b37 13 0 14 (qS88 _ _ (qb84 _ _ hs_y64)) (by decide)).trans el139)) ((hg379 b37 13 0 12 (qS88 _ _ (qb84 _ _ hs_y64)) (by decide)).trans ((hg377 b37 13 0 12 (qS88 _ _ (qb84 _ _ hs_y64)) (by decide)).trans el149)) ((hg379 b33 10 0 1 (qS88 _ _ (qb84 _ _ hk72)) (by decide)).trans ((hg377 b33 10 0 1 (qS88 _ _ (qb84 _ _ hk72)) (by decide)).trans exk9)) ((hg379 b37 13 0 2 (qS88 _ _ (qb84 _ _ hs_y64)) (by decide)).trans ((hg377 b37 13 0 2 (qS88 _ _ (qb84 _ _ hs_y64)) (by decide)).trans emk9)) ((hg379 b1 12 0 12 (qS88 _ _ (qb84 _ _ hk66)) (by decide)).trans ((hg377 b1 12 0 12 (qS88 _ _ (qb84 _ _ hk66)) (by decide)).trans ext9)) ((hg379 b37 13 0 3 (qS88 _ _ (qb84 _ _ hs_y64)) (by decide)).trans ((hg377 b37 13 0 3 (qS88 _ _ (qb84 _ _ hs_y64)) (by decide)).trans emt9)) ((hg379 b34 5 0 3 (qS88 _ _ (qb84 _ _ hk73)) (by decide)).trans ((hg377 b34 5 0 3 (qS88 _ _ (qb84 _ _ hk73)) (by decide)).trans exc9)) ((hg379 b37 13 0 69 (qS88 _ _ (qb84 _ _ hs_y64)) (by decide)).trans ((hg377 b37 13 0 69 (qS88 _ _ (qb84 _ _ hs_y64)) (by decide)).trans emc9)) ((hg379 b36 0 0 2 (qS88 _ _ (qb84 _ _ hk75)) (by decide)).trans ((hg377 b36 0 0 2 (qS88 _ _ (qb84 _ _ hk75)) (by decide)).trans exb9)) ((hg379 b37 13 0 16 (qS88 _ _ (qb84 _ _ hs_y64)) (by decide)).trans ((hg377 b37 13 0 16 (qS88 _ _ (qb84 _ _ hs_y64)) (by decide)).trans emb9)) ((hg379 b1 12 0 16 (qS88 _ _ (qb84 _ _ hk66)) (by decide)).trans ((hg377 b1 12 0 16 (qS88 _ _ (qb84 _ _ hk66)) (by decide)).trans exsh9)) ((hg379 b37 13 0 89 (qS88 _ _ (qb84 _ _ hs_y64)) (by decide)).trans ((hg377 b37 13 0 89 (qS88 _ _ (qb84 _ _ hs_y64)) (by decide)).trans emsh9)) ((hg379 b1 12 0 17 (qS88 _ _ (qb84 _ _ hk66)) (by decide)).trans ((hg377 b1 12 0 17 (qS88 _ _ (qb84 _ _ hk66)) (by decide)).trans exsp9)) ((hg379 b37 13 0 90 (qS88 _ _ (qb84 _ _ hs_y64)) (by decide)).trans ((hg377 b37 13 0 90 (qS88 _ _ (qb84 _ _ hs_y64)) (by decide)).trans emsp9)) ((hg379 b37 13 0 17 (qS88 _ _ (qb84 _ _ hs_y64)) (by decide)).trans ((hg377 b37 13 0 17 (qS88 _ _ (qb84 _ _ hs_y64)) (by decide)).trans emsm9)) (xWn.m (xWn.m wn9 (qS88 _ _ (qb84 _ _ hk71)) (qS88 _ _ (qb84 _ _ hk78)) hg377 xLe.rf (by decide)) (qS88 _ _ (qb84 _ _ hk71)) (qS88 _ _ (qb84 _ _ hk78)) hg379 xLe.rf (by decide)) (by rw [(Eq.trans (xv_m hg379 (qS88 _ _ (qb84 _ _ hk69)) (by decide) (by decide)) (xv_m hg377 (qS88 _ _ (qb84 _ _ hk69)) (by decide) (by decide))), (Eq.trans (xv_m hg379 (qS88 _ _ (qb84 _ _ hk76)) (by decide) (by decide)) (xv_m hg377 (qS88 _ _ (qb84 _ _ hk76)) (by decide) (by decide)))]; exact wt9) (by rw [(Eq.trans (xv_m hg379 (qS88 _ _ (qb84 _ _ hk70)) (by decide) (by decide)) (xv_m hg377 (qS88 _ _ (qb84 _ _ hk70)) (by decide) (by decide))), (Eq.trans (xv_m hg379 (qS88 _ _ (qb84 _ _ hk77)) (by decide) (by decide)) (xv_m hg377 (qS88 _ _ (qb84 _ _ hk77)) (by decide) (by decide)))]; exact ld9) (by rw [(Eq.trans (xv_m hg379 (qS88 _ _ (qb84 _ _ hk68)) (by decide) (by decide)) (xv_m hg377 (qS88 _ _ (qb84 _ _ hk68)) (by decide) (by decide))), (Eq.trans (xv_m hg379 (qS88 _ _ (qb84 _ _ hs_b83)) (by decide) (by decide)) (xv_m hg377 (qS88 _ _ (qb84 _ _ hs_b83)) (by decide) (by decide)))]; exact sk9) (by rw [(Eq.trans (xv_m hg379 (qS88 _ _ (qb84 _ _ hs_b81)) (by decide) (by decide)) (xv_m hg377 (qS88 _ _ (qb84 _ _ hs_b81)) (by decide) (by decide))), (Eq.trans (xv_m hg379 (qS88 _ _ (qb84 _ _ hs_b82)) (by decide) (by decide)) (xv_m hg377 (qS88 _ _ (qb84 _ _ hs_b82)) (by decide) (by decide)))]; exact xTc.mono tc9 (by omega)) (dc9 + 1) (ds9 + 6) (by omega) (by omega) (by omega)
        · refine X_tableIn hK 982 20 (by decide) c93 (by decide) (by decide) dL_law_40 rfl (by decide) ?_
          refine X_aloadn hK (i := 1) 3 dL_law_982 rfl rfl ?_
          refine X_aloadn hK (i := 0) 4 dL_law_983 rfl rfl ?_
          refine X_iload hK (i := 4) 0 dL_law_984 rfl ?_
          refine X_iconst hK dL_law_986 ?_
          refine X_iadd hK dL_law_987 ?_
          refine X_scr hK hX hbl hbA hL (by omega) (by omega) dL_law_988 (fun z382 ez382 lz382 uz382 => ?_)
          refine X_aloadn hK (i := 0) 4 dL_law_989 rfl rfl ?_
          refine X_iload hK (i := 4) 0 dL_law_990 rfl ?_
          refine X_iconst hK dL_law_992 ?_
          refine X_iadd hK dL_law_993 ?_
          refine X_scr hK hX hbl hbA hL (by omega) (by omega) dL_law_994 (fun z383 ez383 lz383 uz383 => ?_)
          refine X_aloadn hK (i := 0) 4 dL_law_995 rfl rfl ?_
          refine X_iload hK (i := 4) 0 dL_law_996 rfl ?_
          refine X_iconst hK dL_law_998 ?_
          refine X_iadd hK dL_law_999 ?_
          refine X_scr hK hX hbl hbA hL (by omega) (by omega) dL_law_1000 (fun z384 ez384 lz384 uz384 => ?_)
          refine X_aloadn hK (i := 0) 4 dL_law_1001 rfl rfl ?_
          refine X_iload hK (i := 4) 0 dL_law_1002 rfl ?_
          refine X_iconst hK dL_law_1004 ?_
          refine X_iadd hK dL_law_1005 ?_
          refine X_scr hK hX hbl hbA hL (by omega) (by omega) dL_law_1006 (fun z385 ez385 lz385 uz385 => ?_)
          refine X_callV hK [.int (iI z382), .int (iI z383), .int (iI z384), .int (iI z385)] [] lk_L_113 (c_X11_counted _ _ _ _ _ S88 g89 b1 z382 z383 z384 z385 b34 c9 t9 (qS88 _ _ (qb84 _ _ hk66)) (by omega) (by omega) (by omega) (by omega) el19 (qS88 _ _ (qb84 _ _ hk73)) (by omega) exc9 (by omega) ext9) (qS88 _ _ (qb84 _ _ hk66)) ⟨by decide, rfl⟩ dL_law_1007 rfl rfl (by simp [Value.category]) (by decide) (by omega) (by omega) (by decide) (fun r386 S388 g387 pr386 qr386 hg387 => ?_)
          obtain ⟨rfl, z389, rfl, lz389, uz389, k390, k391⟩ := pr386
          refine X_st [.int (iI z389)] rfl ?_
          refine X_pop hK dL_law_1010 rfl ?_
          refine X_aloadn hK (i := 2) 2 dL_law_1011 rfl rfl ?_
          refine X_aloadn hK (i := 0) 4 dL_law_1012 rfl rfl ?_
          refine X_iload hK (i := 4) 0 dL_law_1013 rfl ?_
          refine X_iconst hK dL_law_1015 ?_
          refine X_iadd hK dL_law_1016 ?_
          refine X_scrK hK hX hbl hbA hL (by omega) (by omega) ez382 dL_law_1017 ?_
          refine X_aloadn hK (i := 0) 4 dL_law_1018 rfl rfl ?_
          refine X_iload hK (i := 4) 0 dL_law_1019 rfl ?_
          refine X_iconst hK dL_law_1021 ?_
          refine X_iadd hK dL_law_1022 ?_
          refine X_scrK hK hX hbl hbA hL (by omega) (by omega) ez383 dL_law_1023 ?_
          refine X_aloadn hK (i := 0) 4 dL_law_1024 rfl rfl ?_
          refine X_iload hK (i := 4) 0 dL_law_1025 rfl ?_
          refine X_iconst hK dL_law_1027 ?_
          refine X_iadd hK dL_law_1028 ?_
          refine X_scrK hK hX hbl hbA hL (by omega) (by omega) ez384 dL_law_1029 ?_
          refine X_aloadn hK (i := 0) 4 dL_law_1030 rfl rfl ?_
          refine X_iload hK (i := 4) 0 dL_law_1031 rfl ?_
          refine X_iconst hK dL_law_1033 ?_
          refine X_iadd hK dL_law_1034 ?_
          refine X_scrK hK hX hbl hbA hL (by omega) (by omega) ez385 dL_law_1035 ?_
          refine X_callV hK [.int (iI z382), .int (iI z383), .int (iI z384), .int (iI z385)] [] lk_L_116 (c_X12_counted _ _ _ _ _ S88 g387 b37 z382 z383 z384 z385 c9 t9 (qS88 _ _ (qb84 _ _ hs_y64)) (by omega) (by omega) (by omega) (by omega) (by omega) ((hg387 b37 13 0 69 (qS88 _ _ (qb84 _ _ hs_y64)) (by decide)).trans emc9) (by omega) ((hg387 b37 13 0 3 (qS88 _ _ (qb84 _ _ hs_y64)) (by decide)).trans emt9)) (qS88 _ _ (qb84 _ _ hs_y64)) ⟨by decide, rfl⟩ dL_law_1036 rfl rfl (by simp [Value.category]) (by decide) (by omega) (by omega) (by decide) (fun r392 S394 g393 pr392 qr392 hg393 => ?_)
          obtain ⟨rfl, z395, rfl, lz395, uz395, k396, k397⟩ := pr392
          refine X_st [.int (iI z395)] rfl ?_
          refine X_pop hK dL_law_1039 rfl ?_
          refine X_goto hK 1465 dL_law_1040 (by decide) ?_
          refine X_iinc hK (i := 4) (z := i9) (n := 6) 0 [(4, .int (iI (i9 + 6))), (3, .ref b84), (2, .ref b37), (1, .ref b1), (0, .ref b)] dL_law_1465 rfl (by decide) rfl ?_
          refine X_goto hK 23 dL_law_1468 (by decide) ?_
          exact ih9 S88 qS88 g393 (i9 + 6) k9 t9 (if c9 < 60 ∧ 0 ≤ z382 ∧ z382 ≤ 3 ∧ 0 ≤ z383 ∧ z383 ≤ 9 ∧ 0 ≤ z384 ∧ z384 < t9 ∧ 0 ≤ z385 ∧ z385 ≤ 10000 then c9 + 1 else c9) b9 sh9 sp9 sm9 (by omega) (by omega) (by omega) (by first | omega | (split <;> omega)) (by omega) (by omega) (by omega) (by omega) (xLs_mod (xLs_mod al9 hg387 (by decide)) hg393 (by decide)) si9 (xPi_m (xPi_m pi9 hg387 xLe.rf (by decide)) hg393 xLe.rf (by decide)) (xMp_m (xMp_m mp9 hg387 xLe.rf (by decide)) hg393 xLe.rf (by decide)) (xTw_m (xTw_m tw9 hg387 xLe.rf (by decide)) hg393 xLe.rf (by decide)) (xPw_m (xPw_m pw9 hg387 xLe.rf (by decide)) hg393 xLe.rf (by decide)) ((hg393 b1 12 0 0 (qS88 _ _ (qb84 _ _ hk66)) (by decide)).trans ((hg387 b1 12 0 0 (qS88 _ _ (qb84 _ _ hk66)) (by decide)).trans el09)) ((hg393 b1 12 0 3 (qS88 _ _ (qb84 _ _ hk66)) (by decide)).trans ((hg387 b1 12 0 3 (qS88 _ _ (qb84 _ _ hk66)) (by decide)).trans el19)) ((hg393 b1 12 0 1 (qS88 _ _ (qb84 _ _ hk66)) (by decide)).trans ((hg387 b1 12 0 1 (qS88 _ _ (qb84 _ _ hk66)) (by decide)).trans el29)) ((hg393 b35 6 0 1 (qS88 _ _ (qb84 _ _ hk74)) (by decide)).trans ((hg387 b35 6 0 1 (qS88 _ _ (qb84 _ _ hk74)) (by decide)).trans el39)) ((hg393 b1 12 0 2 (qS88 _ _ (qb84 _ _ hk66)) (by decide)).trans ((hg387 b1 12 0 2 (qS88 _ _ (qb84 _ _ hk66)) (by decide)).trans el49)) ((hg393 b19 4 0 0 (qS88 _ _ (qb84 _ _ hk67)) (by decide)).trans ((hg387 b19 4 0 0 (qS88 _ _ (qb84 _ _ hk67)) (by decide)).trans el59)) ((hg393 b19 4 0 2 (qS88 _ _ (qb84 _ _ hk67)) (by decide)).trans ((hg387 b19 4 0 2 (qS88 _ _ (qb84 _ _ hk67)) (by decide)).trans el69)) ((hg393 b19 4 0 3 (qS88 _ _ (qb84 _ _ hk67)) (by decide)).trans ((hg387 b19 4 0 3 (qS88 _ _ (qb84 _ _ hk67)) (by decide)).trans el79)) ((hg393 b19 4 0 4 (qS88 _ _ (qb84 _ _ hk67)) (by decide)).trans ((hg387 b19 4 0 4 (qS88 _ _ (qb84 _ _ hk67)) (by decide)).trans el89)) ((hg393 b33 10 0 0 (qS88 _ _ (qb84 _ _ hk72)) (by decide)).trans ((hg387 b33 10 0 0 (qS88 _ _ (qb84 _ _ hk72)) (by decide)).trans el99)) ((hg393 b37 13 0 1 (qS88 _ _ (qb84 _ _ hs_y64)) (by decide)).trans ((hg387 b37 13 0 1 (qS88 _ _ (qb84 _ _ hs_y64)) (by decide)).trans el109)) ((hg393 b37 13 0 10 (qS88 _ _ (qb84 _ _ hs_y64)) (by decide)).trans ((hg387 b37 13 0 10 (qS88 _ _ (qb84 _ _ hs_y64)) (by decide)).trans el119)) ((hg393 b37 13 0 13 (qS88 _ _ (qb84 _ _ hs_y64)) (by decide)).trans ((hg387 b37 13 0 13 (qS88 _ _ (qb84 _ _ hs_y64)) (by decide)).trans el129)) ((hg393 b37 13 0 14 (qS88 _ _ (qb84 _ _ hs_y64)) (by decide)).trans ((hg387 b37 13 0 14 (qS88 _ _ (qb84 _ _ hs_y64)) (by decide)).trans el139)) ((hg393 b37 13 0 12 (qS88 _ _ (qb84 _ _ hs_y64)) (by decide)).trans ((hg387 b37 13 0 12 (qS88 _ _ (qb84 _ _ hs_y64)) (by decide)).trans el149)) ((hg393 b33 10 0 1 (qS88 _ _ (qb84 _ _ hk72)) (by decide)).trans ((hg387 b33 10 0 1 (qS88 _ _ (qb84 _ _ hk72)) (by decide)).trans exk9)) ((hg393 b37 13 0 2 (qS88 _ _ (qb84 _ _ hs_y64)) (by decide)).trans ((hg387 b37 13 0 2 (qS88 _ _ (qb84 _ _ hs_y64)) (by decide)).trans emk9)) ((hg393 b1 12 0 12 (qS88 _ _ (qb84 _ _ hk66)) (by decide)).trans ((hg387 b1 12 0 12 (qS88 _ _ (qb84 _ _ hk66)) (by decide)).trans ext9)) ((hg393 b37 13 0 3 (qS88 _ _ (qb84 _ _ hs_y64)) (by decide)).trans ((hg387 b37 13 0 3 (qS88 _ _ (qb84 _ _ hs_y64)) (by decide)).trans emt9)) ((hg393 b34 5 0 3 (qS88 _ _ (qb84 _ _ hk73)) (by decide)).trans k391) k397 ((hg393 b36 0 0 2 (qS88 _ _ (qb84 _ _ hk75)) (by decide)).trans ((hg387 b36 0 0 2 (qS88 _ _ (qb84 _ _ hk75)) (by decide)).trans exb9)) ((hg393 b37 13 0 16 (qS88 _ _ (qb84 _ _ hs_y64)) (by decide)).trans ((hg387 b37 13 0 16 (qS88 _ _ (qb84 _ _ hs_y64)) (by decide)).trans emb9)) ((hg393 b1 12 0 16 (qS88 _ _ (qb84 _ _ hk66)) (by decide)).trans ((hg387 b1 12 0 16 (qS88 _ _ (qb84 _ _ hk66)) (by decide)).trans exsh9)) ((hg393 b37 13 0 89 (qS88 _ _ (qb84 _ _ hs_y64)) (by decide)).trans ((hg387 b37 13 0 89 (qS88 _ _ (qb84 _ _ hs_y64)) (by decide)).trans emsh9)) ((hg393 b1 12 0 17 (qS88 _ _ (qb84 _ _ hk66)) (by decide)).trans ((hg387 b1 12 0 17 (qS88 _ _ (qb84 _ _ hk66)) (by decide)).trans exsp9)) ((hg393 b37 13 0 90 (qS88 _ _ (qb84 _ _ hs_y64)) (by decide)).trans ((hg387 b37 13 0 90 (qS88 _ _ (qb84 _ _ hs_y64)) (by decide)).trans emsp9)) ((hg393 b37 13 0 17 (qS88 _ _ (qb84 _ _ hs_y64)) (by decide)).trans ((hg387 b37 13 0 17 (qS88 _ _ (qb84 _ _ hs_y64)) (by decide)).trans emsm9)) (xWn.m (xWn.m wn9 (qS88 _ _ (qb84 _ _ hk71)) (qS88 _ _ (qb84 _ _ hk78)) hg387 xLe.rf (by decide)) (qS88 _ _ (qb84 _ _ hk71)) (qS88 _ _ (qb84 _ _ hk78)) hg393 xLe.rf (by decide)) (by rw [(Eq.trans (xv_m hg393 (qS88 _ _ (qb84 _ _ hk69)) (by decide) (by decide)) (xv_m hg387 (qS88 _ _ (qb84 _ _ hk69)) (by decide) (by decide))), (Eq.trans (xv_m hg393 (qS88 _ _ (qb84 _ _ hk76)) (by decide) (by decide)) (xv_m hg387 (qS88 _ _ (qb84 _ _ hk76)) (by decide) (by decide)))]; exact wt9) (by rw [(Eq.trans (xv_m hg393 (qS88 _ _ (qb84 _ _ hk70)) (by decide) (by decide)) (xv_m hg387 (qS88 _ _ (qb84 _ _ hk70)) (by decide) (by decide))), (Eq.trans (xv_m hg393 (qS88 _ _ (qb84 _ _ hk77)) (by decide) (by decide)) (xv_m hg387 (qS88 _ _ (qb84 _ _ hk77)) (by decide) (by decide)))]; exact ld9) (by rw [(Eq.trans (xv_m hg393 (qS88 _ _ (qb84 _ _ hk68)) (by decide) (by decide)) (xv_m hg387 (qS88 _ _ (qb84 _ _ hk68)) (by decide) (by decide))), (Eq.trans (xv_m hg393 (qS88 _ _ (qb84 _ _ hs_b83)) (by decide) (by decide)) (xv_m hg387 (qS88 _ _ (qb84 _ _ hs_b83)) (by decide) (by decide)))]; exact sk9) (by rw [(Eq.trans (xv_m hg393 (qS88 _ _ (qb84 _ _ hs_b81)) (by decide) (by decide)) (xv_m hg387 (qS88 _ _ (qb84 _ _ hs_b81)) (by decide) (by decide))), (Eq.trans (xv_m hg393 (qS88 _ _ (qb84 _ _ hs_b82)) (by decide) (by decide)) (xv_m hg387 (qS88 _ _ (qb84 _ _ hs_b82)) (by decide) (by decide)))]; exact xTc.mono tc9 (by omega)) dc9 ds9 (by omega) (by omega) (by omega)
        · refine X_tableIn hK 1043 21 (by decide) c93 (by decide) (by decide) dL_law_40 rfl (by decide) ?_
          refine X_aloadn hK (i := 1) 3 dL_law_1043 rfl rfl ?_
          refine X_aloadn hK (i := 0) 4 dL_law_1044 rfl rfl ?_
          refine X_iload hK (i := 4) 0 dL_law_1045 rfl ?_
          refine X_iconst hK dL_law_1047 ?_
          refine X_iadd hK dL_law_1048 ?_
          refine X_scr hK hX hbl hbA hL (by omega) (by omega) dL_law_1049 (fun z398 ez398 lz398 uz398 => ?_)
          refine X_callV hK [.int (iI z398)] [] lk_L_117 (c_X11_falseCounts _ _ _ _ _ S88 g89 b1 z398 (qS88 _ _ (qb84 _ _ hk66)) (by omega) al9) (qS88 _ _ (qb84 _ _ hk66)) ⟨by decide, rfl⟩ dL_law_1050 rfl rfl (by simp [Value.category]) (by decide) (by omega) (by omega) (by decide) (fun r399 S401 g400 pr399 qr399 hg400 => ?_)
          obtain ⟨rfl, rfl, z402, rfl, lz402, uz402⟩ := pr399
          refine X_st [.int (iI z402)] rfl ?_
          refine X_pop hK dL_law_1053 rfl ?_
          refine X_aloadn hK (i := 2) 2 dL_law_1054 rfl rfl ?_
          refine X_aloadn hK (i := 0) 4 dL_law_1055 rfl rfl ?_
          refine X_iload hK (i := 4) 0 dL_law_1056 rfl ?_
          refine X_iconst hK dL_law_1058 ?_
          refine X_iadd hK dL_law_1059 ?_
          refine X_scrK hK hX hbl hbA hL (by omega) (by omega) ez398 dL_law_1060 ?_
          refine X_callV hK [.int (iI z398)] [] lk_L_120 (c_X12_falseCounts _ _ _ _ _ S88 g89 b37 z398 (qS88 _ _ (qb84 _ _ hs_y64)) (by omega)) (qS88 _ _ (qb84 _ _ hs_y64)) ⟨by decide, rfl⟩ dL_law_1061 rfl rfl (by simp [Value.category]) (by decide) (by omega) (by omega) (by decide) (fun r403 S405 g404 pr403 qr403 hg404 => ?_)
          obtain ⟨rfl, z406, rfl, lz406, uz406⟩ := pr403
          refine X_st [.int (iI z406)] rfl ?_
          refine X_pop hK dL_law_1064 rfl ?_
          refine X_goto hK 1465 dL_law_1065 (by decide) ?_
          refine X_iinc hK (i := 4) (z := i9) (n := 6) 0 [(4, .int (iI (i9 + 6))), (3, .ref b84), (2, .ref b37), (1, .ref b1), (0, .ref b)] dL_law_1465 rfl (by decide) rfl ?_
          refine X_goto hK 23 dL_law_1468 (by decide) ?_
          exact ih9 S88 qS88 g404 (i9 + 6) k9 t9 c9 b9 sh9 sp9 sm9 (by omega) (by omega) (by omega) (by omega) (by omega) (by omega) (by omega) (by omega) (xLs_mod al9 hg404 (by decide)) si9 (xPi_m pi9 hg404 xLe.rf (by decide)) (xMp_m mp9 hg404 xLe.rf (by decide)) (xTw_m tw9 hg404 xLe.rf (by decide)) (xPw_m pw9 hg404 xLe.rf (by decide)) ((hg404 b1 12 0 0 (qS88 _ _ (qb84 _ _ hk66)) (by decide)).trans el09) ((hg404 b1 12 0 3 (qS88 _ _ (qb84 _ _ hk66)) (by decide)).trans el19) ((hg404 b1 12 0 1 (qS88 _ _ (qb84 _ _ hk66)) (by decide)).trans el29) ((hg404 b35 6 0 1 (qS88 _ _ (qb84 _ _ hk74)) (by decide)).trans el39) ((hg404 b1 12 0 2 (qS88 _ _ (qb84 _ _ hk66)) (by decide)).trans el49) ((hg404 b19 4 0 0 (qS88 _ _ (qb84 _ _ hk67)) (by decide)).trans el59) ((hg404 b19 4 0 2 (qS88 _ _ (qb84 _ _ hk67)) (by decide)).trans el69) ((hg404 b19 4 0 3 (qS88 _ _ (qb84 _ _ hk67)) (by decide)).trans el79) ((hg404 b19 4 0 4 (qS88 _ _ (qb84 _ _ hk67)) (by decide)).trans el89) ((hg404 b33 10 0 0 (qS88 _ _ (qb84 _ _ hk72)) (by decide)).trans el99) ((hg404 b37 13 0 1 (qS88 _ _ (qb84 _ _ hs_y64)) (by decide)).trans el109) ((hg404 b37 13 0 10 (qS88 _ _ (qb84 _ _ hs_y64)) (by decide)).trans el119) ((hg404 b37 13 0 13 (qS88 _ _ (qb84 _ _ hs_y64)) (by decide)).trans el129) ((hg404 b37 13 0 14 (qS88 _ _ (qb84 _ _ hs_y64)) (by decide)).trans el139) ((hg404 b37 13 0 12 (qS88 _ _ (qb84 _ _ hs_y64)) (by decide)).trans el149) ((hg404 b33 10 0 1 (qS88 _ _ (qb84 _ _ hk72)) (by decide)).trans exk9) ((hg404 b37 13 0 2 (qS88 _ _ (qb84 _ _ hs_y64)) (by decide)).trans emk9) ((hg404 b1 12 0 12 (qS88 _ _ (qb84 _ _ hk66)) (by decide)).trans ext9) ((hg404 b37 13 0 3 (qS88 _ _ (qb84 _ _ hs_y64)) (by decide)).trans emt9) ((hg404 b34 5 0 3 (qS88 _ _ (qb84 _ _ hk73)) (by decide)).trans exc9) ((hg404 b37 13 0 69 (qS88 _ _ (qb84 _ _ hs_y64)) (by decide)).trans emc9) ((hg404 b36 0 0 2 (qS88 _ _ (qb84 _ _ hk75)) (by decide)).trans exb9) ((hg404 b37 13 0 16 (qS88 _ _ (qb84 _ _ hs_y64)) (by decide)).trans emb9) ((hg404 b1 12 0 16 (qS88 _ _ (qb84 _ _ hk66)) (by decide)).trans exsh9) ((hg404 b37 13 0 89 (qS88 _ _ (qb84 _ _ hs_y64)) (by decide)).trans emsh9) ((hg404 b1 12 0 17 (qS88 _ _ (qb84 _ _ hk66)) (by decide)).trans exsp9) ((hg404 b37 13 0 90 (qS88 _ _ (qb84 _ _ hs_y64)) (by decide)).trans emsp9) ((hg404 b37 13 0 17 (qS88 _ _ (qb84 _ _ hs_y64)) (by decide)).trans emsm9) (xWn.m wn9 (qS88 _ _ (qb84 _ _ hk71)) (qS88 _ _ (qb84 _ _ hk78)) hg404 xLe.rf (by decide)) (by rw [(xv_m hg404 (qS88 _ _ (qb84 _ _ hk69)) (by decide) (by decide)), (xv_m hg404 (qS88 _ _ (qb84 _ _ hk76)) (by decide) (by decide))]; exact wt9) (by rw [(xv_m hg404 (qS88 _ _ (qb84 _ _ hk70)) (by decide) (by decide)), (xv_m hg404 (qS88 _ _ (qb84 _ _ hk77)) (by decide) (by decide))]; exact ld9) (by rw [(xv_m hg404 (qS88 _ _ (qb84 _ _ hk68)) (by decide) (by decide)), (xv_m hg404 (qS88 _ _ (qb84 _ _ hs_b83)) (by decide) (by decide))]; exact sk9) (by rw [(xv_m hg404 (qS88 _ _ (qb84 _ _ hs_b81)) (by decide) (by decide)), (xv_m hg404 (qS88 _ _ (qb84 _ _ hs_b82)) (by decide) (by decide))]; exact xTc.mono tc9 (by omega)) dc9 ds9 (by omega) (by omega) (by omega)
        · refine X_tableIn hK 1068 22 (by decide) c93 (by decide) (by decide) dL_law_40 rfl (by decide) ?_
          refine X_aloadn hK (i := 1) 3 dL_law_1068 rfl rfl ?_
          refine X_aloadn hK (i := 0) 4 dL_law_1069 rfl rfl ?_
          refine X_iload hK (i := 4) 0 dL_law_1070 rfl ?_
          refine X_iconst hK dL_law_1072 ?_
          refine X_iadd hK dL_law_1073 ?_
          refine X_scr hK hX hbl hbA hL (by omega) (by omega) dL_law_1074 (fun z407 ez407 lz407 uz407 => ?_)
          refine X_callV hK [.int (iI z407)] [] lk_L_121 (c_X11_shortOf _ _ _ _ _ S88 g89 b1 z407 (qS88 _ _ (qb84 _ _ hk66)) (by omega) al9) (qS88 _ _ (qb84 _ _ hk66)) ⟨by decide, rfl⟩ dL_law_1075 rfl rfl (by simp [Value.category]) (by decide) (by omega) (by omega) (by decide) (fun r408 S410 g409 pr408 qr408 hg409 => ?_)
          obtain ⟨rfl, rfl, z411, rfl, lz411, uz411⟩ := pr408
          refine X_st [.int (iI z411)] rfl ?_
          refine X_pop hK dL_law_1078 rfl ?_
          refine X_aloadn hK (i := 2) 2 dL_law_1079 rfl rfl ?_
          refine X_aloadn hK (i := 0) 4 dL_law_1080 rfl rfl ?_
          refine X_iload hK (i := 4) 0 dL_law_1081 rfl ?_
          refine X_iconst hK dL_law_1083 ?_
          refine X_iadd hK dL_law_1084 ?_
          refine X_scrK hK hX hbl hbA hL (by omega) (by omega) ez407 dL_law_1085 ?_
          refine X_callV hK [.int (iI z407)] [] lk_L_124 (c_X12_shortOf _ _ _ _ _ S88 g89 b37 z407 (qS88 _ _ (qb84 _ _ hs_y64)) (by omega)) (qS88 _ _ (qb84 _ _ hs_y64)) ⟨by decide, rfl⟩ dL_law_1086 rfl rfl (by simp [Value.category]) (by decide) (by omega) (by omega) (by decide) (fun r412 S414 g413 pr412 qr412 hg413 => ?_)
          obtain ⟨rfl, z415, rfl, lz415, uz415⟩ := pr412
          refine X_st [.int (iI z415)] rfl ?_
          refine X_pop hK dL_law_1089 rfl ?_
          refine X_goto hK 1465 dL_law_1090 (by decide) ?_
          refine X_iinc hK (i := 4) (z := i9) (n := 6) 0 [(4, .int (iI (i9 + 6))), (3, .ref b84), (2, .ref b37), (1, .ref b1), (0, .ref b)] dL_law_1465 rfl (by decide) rfl ?_
          refine X_goto hK 23 dL_law_1468 (by decide) ?_
          exact ih9 S88 qS88 g413 (i9 + 6) k9 t9 c9 b9 sh9 sp9 sm9 (by omega) (by omega) (by omega) (by omega) (by omega) (by omega) (by omega) (by omega) (xLs_mod al9 hg413 (by decide)) si9 (xPi_m pi9 hg413 xLe.rf (by decide)) (xMp_m mp9 hg413 xLe.rf (by decide)) (xTw_m tw9 hg413 xLe.rf (by decide)) (xPw_m pw9 hg413 xLe.rf (by decide)) ((hg413 b1 12 0 0 (qS88 _ _ (qb84 _ _ hk66)) (by decide)).trans el09) ((hg413 b1 12 0 3 (qS88 _ _ (qb84 _ _ hk66)) (by decide)).trans el19) ((hg413 b1 12 0 1 (qS88 _ _ (qb84 _ _ hk66)) (by decide)).trans el29) ((hg413 b35 6 0 1 (qS88 _ _ (qb84 _ _ hk74)) (by decide)).trans el39) ((hg413 b1 12 0 2 (qS88 _ _ (qb84 _ _ hk66)) (by decide)).trans el49) ((hg413 b19 4 0 0 (qS88 _ _ (qb84 _ _ hk67)) (by decide)).trans el59) ((hg413 b19 4 0 2 (qS88 _ _ (qb84 _ _ hk67)) (by decide)).trans el69) ((hg413 b19 4 0 3 (qS88 _ _ (qb84 _ _ hk67)) (by decide)).trans el79) ((hg413 b19 4 0 4 (qS88 _ _ (qb84 _ _ hk67)) (by decide)).trans el89) ((hg413 b33 10 0 0 (qS88 _ _ (qb84 _ _ hk72)) (by decide)).trans el99) ((hg413 b37 13 0 1 (qS88 _ _ (qb84 _ _ hs_y64)) (by decide)).trans el109) ((hg413 b37 13 0 10 (qS88 _ _ (qb84 _ _ hs_y64)) (by decide)).trans el119) ((hg413 b37 13 0 13 (qS88 _ _ (qb84 _ _ hs_y64)) (by decide)).trans el129) ((hg413 b37 13 0 14 (qS88 _ _ (qb84 _ _ hs_y64)) (by decide)).trans el139) ((hg413 b37 13 0 12 (qS88 _ _ (qb84 _ _ hs_y64)) (by decide)).trans el149) ((hg413 b33 10 0 1 (qS88 _ _ (qb84 _ _ hk72)) (by decide)).trans exk9) ((hg413 b37 13 0 2 (qS88 _ _ (qb84 _ _ hs_y64)) (by decide)).trans emk9) ((hg413 b1 12 0 12 (qS88 _ _ (qb84 _ _ hk66)) (by decide)).trans ext9) ((hg413 b37 13 0 3 (qS88 _ _ (qb84 _ _ hs_y64)) (by decide)).trans emt9) ((hg413 b34 5 0 3 (qS88 _ _ (qb84 _ _ hk73)) (by decide)).trans exc9) ((hg413 b37 13 0 69 (qS88 _ _ (qb84 _ _ hs_y64)) (by decide)).trans emc9) ((hg413 b36 0 0 2 (qS88 _ _ (qb84 _ _ hk75)) (by decide)).trans exb9) ((hg413 b37 13 0 16 (qS88 _ _ (qb84 _ _ hs_y64)) (by decide)).trans emb9) ((hg413 b1 12 0 16 (qS88 _ _ (qb84 _ _ hk66)) (by decide)).trans exsh9) ((hg413 b37 13 0 89 (qS88 _ _ (qb84 _ _ hs_y64)) (by decide)).trans emsh9) ((hg413 b1 12 0 17 (qS88 _ _ (qb84 _ _ hk66)) (by decide)).trans exsp9) ((hg413 b37 13 0 90 (qS88 _ _ (qb84 _ _ hs_y64)) (by decide)).trans emsp9) ((hg413 b37 13 0 17 (qS88 _ _ (qb84 _ _ hs_y64)) (by decide)).trans emsm9) (xWn.m wn9 (qS88 _ _ (qb84 _ _ hk71)) (qS88 _ _ (qb84 _ _ hk78)) hg413 xLe.rf (by decide)) (by rw [(xv_m hg413 (qS88 _ _ (qb84 _ _ hk69)) (by decide) (by decide)), (xv_m hg413 (qS88 _ _ (qb84 _ _ hk76)) (by decide) (by decide))]; exact wt9) (by rw [(xv_m hg413 (qS88 _ _ (qb84 _ _ hk70)) (by decide) (by decide)), (xv_m hg413 (qS88 _ _ (qb84 _ _ hk77)) (by decide) (by decide))]; exact ld9) (by rw [(xv_m hg413 (qS88 _ _ (qb84 _ _ hk68)) (by decide) (by decide)), (xv_m hg413 (qS88 _ _ (qb84 _ _ hs_b83)) (by decide) (by decide))]; exact sk9) (by rw [(xv_m hg413 (qS88 _ _ (qb84 _ _ hs_b81)) (by decide) (by decide)), (xv_m hg413 (qS88 _ _ (qb84 _ _ hs_b82)) (by decide) (by decide))]; exact xTc.mono tc9 (by omega)) dc9 ds9 (by omega) (by omega) (by omega)
        · refine X_tableIn hK 1093 23 (by decide) c93 (by decide) (by decide) dL_law_40 rfl (by decide) ?_
          refine X_aloadn hK (i := 1) 3 dL_law_1093 rfl rfl ?_
          refine X_aloadn hK (i := 0) 4 dL_law_1094 rfl rfl ?_
          refine X_iload hK (i := 4) 0 dL_law_1095 rfl ?_
          refine X_iconst hK dL_law_1097 ?_
          refine X_iadd hK dL_law_1098 ?_
          refine X_scr hK hX hbl hbA hL (by omega) (by omega) dL_law_1099 (fun z416 ez416 lz416 uz416 => ?_)
          refine X_aloadn hK (i := 0) 4 dL_law_1100 rfl rfl ?_
          refine X_iload hK (i := 4) 0 dL_law_1101 rfl ?_
          refine X_iconst hK dL_law_1103 ?_
          refine X_iadd hK dL_law_1104 ?_
          refine X_scr hK hX hbl hbA hL (by omega) (by omega) dL_law_1105 (fun z417 ez417 lz417 uz417 => ?_)
          refine X_aloadn hK (i := 0) 4 dL_law_1106 rfl rfl ?_
          refine X_iload hK (i := 4) 0 dL_law_1107 rfl ?_
          refine X_iconst hK dL_law_1109 ?_
          refine X_iadd hK dL_law_1110 ?_
          refine X_scr hK hX hbl hbA hL (by omega) (by omega) dL_law_1111 (fun z418 ez418 lz418 uz418 => ?_)
          refine X_aloadn hK (i := 0) 4 dL_law_1112 rfl rfl ?_
          refine X_iload hK (i := 4) 0 dL_law_1113 rfl ?_
          refine X_iconst hK dL_law_1115 ?_
          refine X_iadd hK dL_law_1116 ?_
          refine X_scr hK hX hbl hbA hL (by omega) (by omega) dL_law_1117 (fun z419 ez419 lz419 uz419 => ?_)
          refine X_aloadn hK (i := 0) 4 dL_law_1118 rfl rfl ?_
          refine X_iload hK (i := 4) 0 dL_law_1119 rfl ?_
          refine X_iconst hK dL_law_1121 ?_
          refine X_iadd hK dL_law_1122 ?_
          refine X_scr hK hX hbl hbA hL (by omega) (by omega) dL_law_1123 (fun z420 ez420 lz420 uz420 => ?_)
          refine X_callV hK [.int (iI z416), .int (iI z417), .int (iI z418), .int (iI z419), .int (iI z420)] [] lk_L_125 (c_X11_best _ _ _ _ _ S88 g89 b1 z416 z417 z418 z419 z420 b33 k9 (qS88 _ _ (qb84 _ _ hk66)) (by omega) (by omega) (by omega) (by omega) (by omega) el09 (qS88 _ _ (qb84 _ _ hk72)) (by omega) exk9) (qS88 _ _ (qb84 _ _ hk66)) ⟨by decide, rfl⟩ dL_law_1124 rfl rfl (by simp [Value.category]) (by decide) (by omega) (by omega) (by decide) (fun r421 S423 g422 pr421 qr421 hg422 => ?_)
          obtain ⟨rfl, z424, rfl, lz424, uz424, k425⟩ := pr421
          refine X_st [.int (iI z424)] rfl ?_
          refine X_pop hK dL_law_1127 rfl ?_
          refine X_aloadn hK (i := 2) 2 dL_law_1128 rfl rfl ?_
          refine X_aloadn hK (i := 0) 4 dL_law_1129 rfl rfl ?_
          refine X_iload hK (i := 4) 0 dL_law_1130 rfl ?_
          refine X_iconst hK dL_law_1132 ?_
          refine X_iadd hK dL_law_1133 ?_
          refine X_scrK hK hX hbl hbA hL (by omega) (by omega) ez416 dL_law_1134 ?_
          refine X_aloadn hK (i := 0) 4 dL_law_1135 rfl rfl ?_
          refine X_iload hK (i := 4) 0 dL_law_1136 rfl ?_
          refine X_iconst hK dL_law_1138 ?_
          refine X_iadd hK dL_law_1139 ?_
          refine X_scrK hK hX hbl hbA hL (by omega) (by omega) ez417 dL_law_1140 ?_
          refine X_aloadn hK (i := 0) 4 dL_law_1141 rfl rfl ?_
          refine X_iload hK (i := 4) 0 dL_law_1142 rfl ?_
          refine X_iconst hK dL_law_1144 ?_
          refine X_iadd hK dL_law_1145 ?_
          refine X_scrK hK hX hbl hbA hL (by omega) (by omega) ez418 dL_law_1146 ?_
          refine X_aloadn hK (i := 0) 4 dL_law_1147 rfl rfl ?_
          refine X_iload hK (i := 4) 0 dL_law_1148 rfl ?_
          refine X_iconst hK dL_law_1150 ?_
          refine X_iadd hK dL_law_1151 ?_
          refine X_scrK hK hX hbl hbA hL (by omega) (by omega) ez419 dL_law_1152 ?_
          refine X_aloadn hK (i := 0) 4 dL_law_1153 rfl rfl ?_
          refine X_iload hK (i := 4) 0 dL_law_1154 rfl ?_
          refine X_iconst hK dL_law_1156 ?_
          refine X_iadd hK dL_law_1157 ?_
          refine X_scrK hK hX hbl hbA hL (by omega) (by omega) ez420 dL_law_1158 ?_
          refine X_callV hK [.int (iI z416), .int (iI z417), .int (iI z418), .int (iI z419), .int (iI z420)] [] lk_L_128 (c3_best _ _ _ _ _ S88 g422 b37 z416 z417 z418 z419 z420 k9 (qS88 _ _ (qb84 _ _ hs_y64)) (by omega) (by omega) (by omega) (by omega) (by omega) (by omega) ((hg422 b37 13 0 2 (qS88 _ _ (qb84 _ _ hs_y64)) (by decide)).trans emk9)) (qS88 _ _ (qb84 _ _ hs_y64)) ⟨by decide, rfl⟩ dL_law_1159 rfl rfl (by simp [Value.category]) (by decide) (by omega) (by omega) (by decide) (fun r426 S428 g427 pr426 qr426 hg427 => ?_)
          obtain ⟨rfl, z429, rfl, lz429, uz429, k430⟩ := pr426
          refine X_st [.int (iI z429)] rfl ?_
          refine X_pop hK dL_law_1162 rfl ?_
          refine X_goto hK 1465 dL_law_1163 (by decide) ?_
          refine X_iinc hK (i := 4) (z := i9) (n := 6) 0 [(4, .int (iI (i9 + 6))), (3, .ref b84), (2, .ref b37), (1, .ref b1), (0, .ref b)] dL_law_1465 rfl (by decide) rfl ?_
          refine X_goto hK 23 dL_law_1468 (by decide) ?_
          exact ih9 S88 qS88 g427 (i9 + 6) (0) t9 c9 b9 sh9 sp9 sm9 (by omega) (by omega) (by omega) (by omega) (by omega) (by omega) (by omega) (by omega) (xLs_mod (xLs_mod al9 hg422 (by decide)) hg427 (by decide)) si9 (xPi_m (xPi_m pi9 hg422 xLe.rf (by decide)) hg427 xLe.rf (by decide)) (xMp_m (xMp_m mp9 hg422 xLe.rf (by decide)) hg427 xLe.rf (by decide)) (xTw_m (xTw_m tw9 hg422 xLe.rf (by decide)) hg427 xLe.rf (by decide)) (xPw_m (xPw_m pw9 hg422 xLe.rf (by decide)) hg427 xLe.rf (by decide)) ((hg427 b1 12 0 0 (qS88 _ _ (qb84 _ _ hk66)) (by decide)).trans ((hg422 b1 12 0 0 (qS88 _ _ (qb84 _ _ hk66)) (by decide)).trans el09)) ((hg427 b1 12 0 3 (qS88 _ _ (qb84 _ _ hk66)) (by decide)).trans ((hg422 b1 12 0 3 (qS88 _ _ (qb84 _ _ hk66)) (by decide)).trans el19)) ((hg427 b1 12 0 1 (qS88 _ _ (qb84 _ _ hk66)) (by decide)).trans ((hg422 b1 12 0 1 (qS88 _ _ (qb84 _ _ hk66)) (by decide)).trans el29)) ((hg427 b35 6 0 1 (qS88 _ _ (qb84 _ _ hk74)) (by decide)).trans ((hg422 b35 6 0 1 (qS88 _ _ (qb84 _ _ hk74)) (by decide)).trans el39)) ((hg427 b1 12 0 2 (qS88 _ _ (qb84 _ _ hk66)) (by decide)).trans ((hg422 b1 12 0 2 (qS88 _ _ (qb84 _ _ hk66)) (by decide)).trans el49)) ((hg427 b19 4 0 0 (qS88 _ _ (qb84 _ _ hk67)) (by decide)).trans ((hg422 b19 4 0 0 (qS88 _ _ (qb84 _ _ hk67)) (by decide)).trans el59)) ((hg427 b19 4 0 2 (qS88 _ _ (qb84 _ _ hk67)) (by decide)).trans ((hg422 b19 4 0 2 (qS88 _ _ (qb84 _ _ hk67)) (by decide)).trans el69)) ((hg427 b19 4 0 3 (qS88 _ _ (qb84 _ _ hk67)) (by decide)).trans ((hg422 b19 4 0 3 (qS88 _ _ (qb84 _ _ hk67)) (by decide)).trans el79)) ((hg427 b19 4 0 4 (qS88 _ _ (qb84 _ _ hk67)) (by decide)).trans ((hg422 b19 4 0 4 (qS88 _ _ (qb84 _ _ hk67)) (by decide)).trans el89)) ((hg427 b33 10 0 0 (qS88 _ _ (qb84 _ _ hk72)) (by decide)).trans ((hg422 b33 10 0 0 (qS88 _ _ (qb84 _ _ hk72)) (by decide)).trans el99)) ((hg427 b37 13 0 1 (qS88 _ _ (qb84 _ _ hs_y64)) (by decide)).trans ((hg422 b37 13 0 1 (qS88 _ _ (qb84 _ _ hs_y64)) (by decide)).trans el109)) ((hg427 b37 13 0 10 (qS88 _ _ (qb84 _ _ hs_y64)) (by decide)).trans ((hg422 b37 13 0 10 (qS88 _ _ (qb84 _ _ hs_y64)) (by decide)).trans el119)) ((hg427 b37 13 0 13 (qS88 _ _ (qb84 _ _ hs_y64)) (by decide)).trans ((hg422 b37 13 0 13 (qS88 _ _ (qb84 _ _ hs_y64)) (by decide)).trans el129)) ((hg427 b37 13 0 14 (qS88 _ _ (qb84 _ _ hs_y64)) (by decide)).trans ((hg422 b37 13 0 14 (qS88 _ _ (qb84 _ _ hs_y64)) (by decide)).trans el139)) ((hg427 b37 13 0 12 (qS88 _ _ (qb84 _ _ hs_y64)) (by decide)).trans ((hg422 b37 13 0 12 (qS88 _ _ (qb84 _ _ hs_y64)) (by decide)).trans el149)) ((hg427 b33 10 0 1 (qS88 _ _ (qb84 _ _ hk72)) (by decide)).trans k425) k430 ((hg427 b1 12 0 12 (qS88 _ _ (qb84 _ _ hk66)) (by decide)).trans ((hg422 b1 12 0 12 (qS88 _ _ (qb84 _ _ hk66)) (by decide)).trans ext9)) ((hg427 b37 13 0 3 (qS88 _ _ (qb84 _ _ hs_y64)) (by decide)).trans ((hg422 b37 13 0 3 (qS88 _ _ (qb84 _ _ hs_y64)) (by decide)).trans emt9)) ((hg427 b34 5 0 3 (qS88 _ _ (qb84 _ _ hk73)) (by decide)).trans ((hg422 b34 5 0 3 (qS88 _ _ (qb84 _ _ hk73)) (by decide)).trans exc9)) ((hg427 b37 13 0 69 (qS88 _ _ (qb84 _ _ hs_y64)) (by decide)).trans ((hg422 b37 13 0 69 (qS88 _ _ (qb84 _ _ hs_y64)) (by decide)).trans emc9)) ((hg427 b36 0 0 2 (qS88 _ _ (qb84 _ _ hk75)) (by decide)).trans ((hg422 b36 0 0 2 (qS88 _ _ (qb84 _ _ hk75)) (by decide)).trans exb9)) ((hg427 b37 13 0 16 (qS88 _ _ (qb84 _ _ hs_y64)) (by decide)).trans ((hg422 b37 13 0 16 (qS88 _ _ (qb84 _ _ hs_y64)) (by decide)).trans emb9)) ((hg427 b1 12 0 16 (qS88 _ _ (qb84 _ _ hk66)) (by decide)).trans ((hg422 b1 12 0 16 (qS88 _ _ (qb84 _ _ hk66)) (by decide)).trans exsh9)) ((hg427 b37 13 0 89 (qS88 _ _ (qb84 _ _ hs_y64)) (by decide)).trans ((hg422 b37 13 0 89 (qS88 _ _ (qb84 _ _ hs_y64)) (by decide)).trans emsh9)) ((hg427 b1 12 0 17 (qS88 _ _ (qb84 _ _ hk66)) (by decide)).trans ((hg422 b1 12 0 17 (qS88 _ _ (qb84 _ _ hk66)) (by decide)).trans exsp9)) ((hg427 b37 13 0 90 (qS88 _ _ (qb84 _ _ hs_y64)) (by decide)).trans ((hg422 b37 13 0 90 (qS88 _ _ (qb84 _ _ hs_y64)) (by decide)).trans emsp9)) ((hg427 b37 13 0 17 (qS88 _ _ (qb84 _ _ hs_y64)) (by decide)).trans ((hg422 b37 13 0 17 (qS88 _ _ (qb84 _ _ hs_y64)) (by decide)).trans emsm9)) (xWn.m (xWn.m wn9 (qS88 _ _ (qb84 _ _ hk71)) (qS88 _ _ (qb84 _ _ hk78)) hg422 xLe.rf (by decide)) (qS88 _ _ (qb84 _ _ hk71)) (qS88 _ _ (qb84 _ _ hk78)) hg427 xLe.rf (by decide)) (by rw [(Eq.trans (xv_m hg427 (qS88 _ _ (qb84 _ _ hk69)) (by decide) (by decide)) (xv_m hg422 (qS88 _ _ (qb84 _ _ hk69)) (by decide) (by decide))), (Eq.trans (xv_m hg427 (qS88 _ _ (qb84 _ _ hk76)) (by decide) (by decide)) (xv_m hg422 (qS88 _ _ (qb84 _ _ hk76)) (by decide) (by decide)))]; exact wt9) (by rw [(Eq.trans (xv_m hg427 (qS88 _ _ (qb84 _ _ hk70)) (by decide) (by decide)) (xv_m hg422 (qS88 _ _ (qb84 _ _ hk70)) (by decide) (by decide))), (Eq.trans (xv_m hg427 (qS88 _ _ (qb84 _ _ hk77)) (by decide) (by decide)) (xv_m hg422 (qS88 _ _ (qb84 _ _ hk77)) (by decide) (by decide)))]; exact ld9) (by rw [(Eq.trans (xv_m hg427 (qS88 _ _ (qb84 _ _ hk68)) (by decide) (by decide)) (xv_m hg422 (qS88 _ _ (qb84 _ _ hk68)) (by decide) (by decide))), (Eq.trans (xv_m hg427 (qS88 _ _ (qb84 _ _ hs_b83)) (by decide) (by decide)) (xv_m hg422 (qS88 _ _ (qb84 _ _ hs_b83)) (by decide) (by decide)))]; exact sk9) (by rw [(Eq.trans (xv_m hg427 (qS88 _ _ (qb84 _ _ hs_b81)) (by decide) (by decide)) (xv_m hg422 (qS88 _ _ (qb84 _ _ hs_b81)) (by decide) (by decide))), (Eq.trans (xv_m hg427 (qS88 _ _ (qb84 _ _ hs_b82)) (by decide) (by decide)) (xv_m hg422 (qS88 _ _ (qb84 _ _ hs_b82)) (by decide) (by decide)))]; exact xTc.mono tc9 (by omega)) dc9 ds9 (by omega) (by omega) (by omega)
        · refine X_tableIn hK 1166 24 (by decide) c93 (by decide) (by decide) dL_law_40 rfl (by decide) ?_
          refine X_aloadn hK (i := 1) 3 dL_law_1166 rfl rfl ?_
          refine X_callV hK [] [] lk_L_129 (c_X11_expected _ _ _ _ _ S88 g89 b1 (qS88 _ _ (qb84 _ _ hk66))) (qS88 _ _ (qb84 _ _ hk66)) ⟨by decide, rfl⟩ dL_law_1167 rfl rfl (by simp [Value.category]) (by decide) (by omega) (by omega) (by decide) (fun r431 S433 g432 pr431 qr431 hg432 => ?_)
          obtain ⟨rfl, rfl, y434, rfl⟩ := pr431
          refine X_st [.long y434] rfl ?_
          refine X_pop2 hK dL_law_1170 rfl ?_
          refine X_aloadn hK (i := 2) 2 dL_law_1171 rfl rfl ?_
          refine X_callV hK [] [] lk_L_133 (c_X12_expected _ _ _ _ _ S88 g89 b37 (qS88 _ _ (qb84 _ _ hs_y64))) (qS88 _ _ (qb84 _ _ hs_y64)) ⟨by decide, rfl⟩ dL_law_1172 rfl rfl (by simp [Value.category]) (by decide) (by omega) (by omega) (by decide) (fun r435 S437 g436 pr435 qr435 hg436 => ?_)
          obtain ⟨rfl, y438, rfl⟩ := pr435
          refine X_st [.long y438] rfl ?_
          refine X_pop2 hK dL_law_1175 rfl ?_
          refine X_goto hK 1465 dL_law_1176 (by decide) ?_
          refine X_iinc hK (i := 4) (z := i9) (n := 6) 0 [(4, .int (iI (i9 + 6))), (3, .ref b84), (2, .ref b37), (1, .ref b1), (0, .ref b)] dL_law_1465 rfl (by decide) rfl ?_
          refine X_goto hK 23 dL_law_1468 (by decide) ?_
          exact ih9 S88 qS88 g436 (i9 + 6) k9 t9 c9 b9 sh9 sp9 sm9 (by omega) (by omega) (by omega) (by omega) (by omega) (by omega) (by omega) (by omega) (xLs_mod al9 hg436 (by decide)) si9 (xPi_m pi9 hg436 xLe.rf (by decide)) (xMp_m mp9 hg436 xLe.rf (by decide)) (xTw_m tw9 hg436 xLe.rf (by decide)) (xPw_m pw9 hg436 xLe.rf (by decide)) ((hg436 b1 12 0 0 (qS88 _ _ (qb84 _ _ hk66)) (by decide)).trans el09) ((hg436 b1 12 0 3 (qS88 _ _ (qb84 _ _ hk66)) (by decide)).trans el19) ((hg436 b1 12 0 1 (qS88 _ _ (qb84 _ _ hk66)) (by decide)).trans el29) ((hg436 b35 6 0 1 (qS88 _ _ (qb84 _ _ hk74)) (by decide)).trans el39) ((hg436 b1 12 0 2 (qS88 _ _ (qb84 _ _ hk66)) (by decide)).trans el49) ((hg436 b19 4 0 0 (qS88 _ _ (qb84 _ _ hk67)) (by decide)).trans el59) ((hg436 b19 4 0 2 (qS88 _ _ (qb84 _ _ hk67)) (by decide)).trans el69) ((hg436 b19 4 0 3 (qS88 _ _ (qb84 _ _ hk67)) (by decide)).trans el79) ((hg436 b19 4 0 4 (qS88 _ _ (qb84 _ _ hk67)) (by decide)).trans el89) ((hg436 b33 10 0 0 (qS88 _ _ (qb84 _ _ hk72)) (by decide)).trans el99) ((hg436 b37 13 0 1 (qS88 _ _ (qb84 _ _ hs_y64)) (by decide)).trans el109) ((hg436 b37 13 0 10 (qS88 _ _ (qb84 _ _ hs_y64)) (by decide)).trans el119) ((hg436 b37 13 0 13 (qS88 _ _ (qb84 _ _ hs_y64)) (by decide)).trans el129) ((hg436 b37 13 0 14 (qS88 _ _ (qb84 _ _ hs_y64)) (by decide)).trans el139) ((hg436 b37 13 0 12 (qS88 _ _ (qb84 _ _ hs_y64)) (by decide)).trans el149) ((hg436 b33 10 0 1 (qS88 _ _ (qb84 _ _ hk72)) (by decide)).trans exk9) ((hg436 b37 13 0 2 (qS88 _ _ (qb84 _ _ hs_y64)) (by decide)).trans emk9) ((hg436 b1 12 0 12 (qS88 _ _ (qb84 _ _ hk66)) (by decide)).trans ext9) ((hg436 b37 13 0 3 (qS88 _ _ (qb84 _ _ hs_y64)) (by decide)).trans emt9) ((hg436 b34 5 0 3 (qS88 _ _ (qb84 _ _ hk73)) (by decide)).trans exc9) ((hg436 b37 13 0 69 (qS88 _ _ (qb84 _ _ hs_y64)) (by decide)).trans emc9) ((hg436 b36 0 0 2 (qS88 _ _ (qb84 _ _ hk75)) (by decide)).trans exb9) ((hg436 b37 13 0 16 (qS88 _ _ (qb84 _ _ hs_y64)) (by decide)).trans emb9) ((hg436 b1 12 0 16 (qS88 _ _ (qb84 _ _ hk66)) (by decide)).trans exsh9) ((hg436 b37 13 0 89 (qS88 _ _ (qb84 _ _ hs_y64)) (by decide)).trans emsh9) ((hg436 b1 12 0 17 (qS88 _ _ (qb84 _ _ hk66)) (by decide)).trans exsp9) ((hg436 b37 13 0 90 (qS88 _ _ (qb84 _ _ hs_y64)) (by decide)).trans emsp9) ((hg436 b37 13 0 17 (qS88 _ _ (qb84 _ _ hs_y64)) (by decide)).trans emsm9) (xWn.m wn9 (qS88 _ _ (qb84 _ _ hk71)) (qS88 _ _ (qb84 _ _ hk78)) hg436 xLe.rf (by decide)) (by rw [(xv_m hg436 (qS88 _ _ (qb84 _ _ hk69)) (by decide) (by decide)), (xv_m hg436 (qS88 _ _ (qb84 _ _ hk76)) (by decide) (by decide))]; exact wt9) (by rw [(xv_m hg436 (qS88 _ _ (qb84 _ _ hk70)) (by decide) (by decide)), (xv_m hg436 (qS88 _ _ (qb84 _ _ hk77)) (by decide) (by decide))]; exact ld9) (by rw [(xv_m hg436 (qS88 _ _ (qb84 _ _ hk68)) (by decide) (by decide)), (xv_m hg436 (qS88 _ _ (qb84 _ _ hs_b83)) (by decide) (by decide))]; exact sk9) (by rw [(xv_m hg436 (qS88 _ _ (qb84 _ _ hs_b81)) (by decide) (by decide)), (xv_m hg436 (qS88 _ _ (qb84 _ _ hs_b82)) (by decide) (by decide))]; exact xTc.mono tc9 (by omega)) dc9 ds9 (by omega) (by omega) (by omega)
        · refine X_tableIn hK 1179 25 (by decide) c93 (by decide) (by decide) dL_law_40 rfl (by decide) ?_
          refine X_aloadn hK (i := 1) 3 dL_law_1179 rfl rfl ?_
          refine X_callVU hK [] [] lk_L_134 (c_X11_tried _ _ _ _ _ S88 g89 b1 b33 k9 (qS88 _ _ (qb84 _ _ hk66)) el09 (qS88 _ _ (qb84 _ _ hk72)) (by omega) exk9 al9 si9) (qS88 _ _ (qb84 _ _ hk66)) ⟨by decide, rfl⟩ dL_law_1180 rfl rfl (by simp [Value.category]) (by decide) (by omega) (by omega) (by decide) (fun r439 S441 g440 dcr439 dsr439 pr439 qr439 hg440 => ?_)
          obtain ⟨wr439, z442, rfl, lz442, uz442, k443, k444, k445, k446⟩ := pr439
          refine X_st [.int (iI z442)] rfl ?_
          refine X_pop hK dL_law_1183 rfl ?_
          refine X_aloadn hK (i := 2) 2 dL_law_1184 rfl rfl ?_
          refine X_callV hK [] [] lk_L_137 (c_X12_tried _ _ _ _ _ S441 g440 b37 k9 (qr439 _ _ (qS88 _ _ (qb84 _ _ hs_y64))) (by omega) ((hg440 b37 13 0 2 (qS88 _ _ (qb84 _ _ hs_y64)) (by decide)).trans emk9) (xTw_m tw9 hg440 qr439 (by decide))) (qr439 _ _ (qS88 _ _ (qb84 _ _ hs_y64))) ⟨by decide, rfl⟩ dL_law_1185 rfl rfl (by simp [Value.category]) (by decide) (by omega) (by omega) (by decide) (fun r447 S449 g448 pr447 qr447 hg448 => ?_)
          obtain ⟨rfl, z450, rfl, lz450, uz450, k451, k452⟩ := pr447
          refine X_st [.int (iI z450)] rfl ?_
          refine X_pop hK dL_law_1188 rfl ?_
          refine X_goto hK 1465 dL_law_1189 (by decide) ?_
          refine X_iinc hK (i := 4) (z := i9) (n := 6) 0 [(4, .int (iI (i9 + 6))), (3, .ref b84), (2, .ref b37), (1, .ref b1), (0, .ref b)] dL_law_1465 rfl (by decide) rfl ?_
          refine X_goto hK 23 dL_law_1468 (by decide) ?_
          exact ih9 S441 (xLe.tr qS88 qr439) g448 (i9 + 6) (0) t9 c9 b9 sh9 sp9 sm9 (by omega) (by omega) (by omega) (by omega) (by omega) (by omega) (by omega) (by omega) (xLs_mod k443 hg448 (by decide)) k444 (xPi_m (xPi_m pi9 hg440 qr439 (by decide)) hg448 xLe.rf (by decide)) (xMp_m (xMp_m mp9 hg440 qr439 (by decide)) hg448 xLe.rf (by decide)) k452 (xPw_m (xPw_m pw9 hg440 qr439 (by decide)) hg448 xLe.rf (by decide)) ((hg448 b1 12 0 0 (qr439 _ _ (qS88 _ _ (qb84 _ _ hk66))) (by decide)).trans ((hg440 b1 12 0 0 (qS88 _ _ (qb84 _ _ hk66)) (by decide)).trans el09)) ((hg448 b1 12 0 3 (qr439 _ _ (qS88 _ _ (qb84 _ _ hk66))) (by decide)).trans ((hg440 b1 12 0 3 (qS88 _ _ (qb84 _ _ hk66)) (by decide)).trans el19)) ((hg448 b1 12 0 1 (qr439 _ _ (qS88 _ _ (qb84 _ _ hk66))) (by decide)).trans ((hg440 b1 12 0 1 (qS88 _ _ (qb84 _ _ hk66)) (by decide)).trans el29)) ((hg448 b35 6 0 1 (qr439 _ _ (qS88 _ _ (qb84 _ _ hk74))) (by decide)).trans ((hg440 b35 6 0 1 (qS88 _ _ (qb84 _ _ hk74)) (by decide)).trans el39)) ((hg448 b1 12 0 2 (qr439 _ _ (qS88 _ _ (qb84 _ _ hk66))) (by decide)).trans ((hg440 b1 12 0 2 (qS88 _ _ (qb84 _ _ hk66)) (by decide)).trans el49)) ((hg448 b19 4 0 0 (qr439 _ _ (qS88 _ _ (qb84 _ _ hk67))) (by decide)).trans ((hg440 b19 4 0 0 (qS88 _ _ (qb84 _ _ hk67)) (by decide)).trans el59)) ((hg448 b19 4 0 2 (qr439 _ _ (qS88 _ _ (qb84 _ _ hk67))) (by decide)).trans ((hg440 b19 4 0 2 (qS88 _ _ (qb84 _ _ hk67)) (by decide)).trans el69)) ((hg448 b19 4 0 3 (qr439 _ _ (qS88 _ _ (qb84 _ _ hk67))) (by decide)).trans ((hg440 b19 4 0 3 (qS88 _ _ (qb84 _ _ hk67)) (by decide)).trans el79)) ((hg448 b19 4 0 4 (qr439 _ _ (qS88 _ _ (qb84 _ _ hk67))) (by decide)).trans ((hg440 b19 4 0 4 (qS88 _ _ (qb84 _ _ hk67)) (by decide)).trans el89)) ((hg448 b33 10 0 0 (qr439 _ _ (qS88 _ _ (qb84 _ _ hk72))) (by decide)).trans ((hg440 b33 10 0 0 (qS88 _ _ (qb84 _ _ hk72)) (by decide)).trans el99)) ((hg448 b37 13 0 1 (qr439 _ _ (qS88 _ _ (qb84 _ _ hs_y64))) (by decide)).trans ((hg440 b37 13 0 1 (qS88 _ _ (qb84 _ _ hs_y64)) (by decide)).trans el109)) ((hg448 b37 13 0 10 (qr439 _ _ (qS88 _ _ (qb84 _ _ hs_y64))) (by decide)).trans ((hg440 b37 13 0 10 (qS88 _ _ (qb84 _ _ hs_y64)) (by decide)).trans el119)) ((hg448 b37 13 0 13 (qr439 _ _ (qS88 _ _ (qb84 _ _ hs_y64))) (by decide)).trans ((hg440 b37 13 0 13 (qS88 _ _ (qb84 _ _ hs_y64)) (by decide)).trans el129)) ((hg448 b37 13 0 14 (qr439 _ _ (qS88 _ _ (qb84 _ _ hs_y64))) (by decide)).trans ((hg440 b37 13 0 14 (qS88 _ _ (qb84 _ _ hs_y64)) (by decide)).trans el139)) ((hg448 b37 13 0 12 (qr439 _ _ (qS88 _ _ (qb84 _ _ hs_y64))) (by decide)).trans ((hg440 b37 13 0 12 (qS88 _ _ (qb84 _ _ hs_y64)) (by decide)).trans el149)) ((hg448 b33 10 0 1 (qr439 _ _ (qS88 _ _ (qb84 _ _ hk72))) (by decide)).trans k446) k451 ((hg448 b1 12 0 12 (qr439 _ _ (qS88 _ _ (qb84 _ _ hk66))) (by decide)).trans ((hg440 b1 12 0 12 (qS88 _ _ (qb84 _ _ hk66)) (by decide)).trans ext9)) ((hg448 b37 13 0 3 (qr439 _ _ (qS88 _ _ (qb84 _ _ hs_y64))) (by decide)).trans ((hg440 b37 13 0 3 (qS88 _ _ (qb84 _ _ hs_y64)) (by decide)).trans emt9)) ((hg448 b34 5 0 3 (qr439 _ _ (qS88 _ _ (qb84 _ _ hk73))) (by decide)).trans ((hg440 b34 5 0 3 (qS88 _ _ (qb84 _ _ hk73)) (by decide)).trans exc9)) ((hg448 b37 13 0 69 (qr439 _ _ (qS88 _ _ (qb84 _ _ hs_y64))) (by decide)).trans ((hg440 b37 13 0 69 (qS88 _ _ (qb84 _ _ hs_y64)) (by decide)).trans emc9)) ((hg448 b36 0 0 2 (qr439 _ _ (qS88 _ _ (qb84 _ _ hk75))) (by decide)).trans ((hg440 b36 0 0 2 (qS88 _ _ (qb84 _ _ hk75)) (by decide)).trans exb9)) ((hg448 b37 13 0 16 (qr439 _ _ (qS88 _ _ (qb84 _ _ hs_y64))) (by decide)).trans ((hg440 b37 13 0 16 (qS88 _ _ (qb84 _ _ hs_y64)) (by decide)).trans emb9)) ((hg448 b1 12 0 16 (qr439 _ _ (qS88 _ _ (qb84 _ _ hk66))) (by decide)).trans ((hg440 b1 12 0 16 (qS88 _ _ (qb84 _ _ hk66)) (by decide)).trans exsh9)) ((hg448 b37 13 0 89 (qr439 _ _ (qS88 _ _ (qb84 _ _ hs_y64))) (by decide)).trans ((hg440 b37 13 0 89 (qS88 _ _ (qb84 _ _ hs_y64)) (by decide)).trans emsh9)) ((hg448 b1 12 0 17 (qr439 _ _ (qS88 _ _ (qb84 _ _ hk66))) (by decide)).trans ((hg440 b1 12 0 17 (qS88 _ _ (qb84 _ _ hk66)) (by decide)).trans exsp9)) ((hg448 b37 13 0 90 (qr439 _ _ (qS88 _ _ (qb84 _ _ hs_y64))) (by decide)).trans ((hg440 b37 13 0 90 (qS88 _ _ (qb84 _ _ hs_y64)) (by decide)).trans emsp9)) ((hg448 b37 13 0 17 (qr439 _ _ (qS88 _ _ (qb84 _ _ hs_y64))) (by decide)).trans ((hg440 b37 13 0 17 (qS88 _ _ (qb84 _ _ hs_y64)) (by decide)).trans emsm9)) (xWn.m (xWn.m wn9 (qS88 _ _ (qb84 _ _ hk71)) (qS88 _ _ (qb84 _ _ hk78)) hg440 qr439 (by decide)) (qr439 _ _ (qS88 _ _ (qb84 _ _ hk71))) (qr439 _ _ (qS88 _ _ (qb84 _ _ hk78))) hg448 xLe.rf (by decide)) (by rw [(Eq.trans (xv_m hg448 (qr439 _ _ (qS88 _ _ (qb84 _ _ hk69))) (by decide) (by decide)) (xv_m hg440 (qS88 _ _ (qb84 _ _ hk69)) (by decide) (by decide))), (Eq.trans (xv_m hg448 (qr439 _ _ (qS88 _ _ (qb84 _ _ hk76))) (by decide) (by decide)) (xv_m hg440 (qS88 _ _ (qb84 _ _ hk76)) (by decide) (by decide)))]; exact wt9) (by rw [(Eq.trans (xv_m hg448 (qr439 _ _ (qS88 _ _ (qb84 _ _ hk70))) (by decide) (by decide)) (xv_m hg440 (qS88 _ _ (qb84 _ _ hk70)) (by decide) (by decide))), (Eq.trans (xv_m hg448 (qr439 _ _ (qS88 _ _ (qb84 _ _ hk77))) (by decide) (by decide)) (xv_m hg440 (qS88 _ _ (qb84 _ _ hk77)) (by decide) (by decide)))]; exact ld9) (by rw [(Eq.trans (xv_m hg448 (qr439 _ _ (qS88 _ _ (qb84 _ _ hk68))) (by decide) (by decide)) (xv_m hg440 (qS88 _ _ (qb84 _ _ hk68)) (by decide) (by decide))), (Eq.trans (xv_m hg448 (qr439 _ _ (qS88 _ _ (qb84 _ _ hs_b83))) (by decide) (by decide)) (xv_m hg440 (qS88 _ _ (qb84 _ _ hs_b83)) (by decide) (by decide)))]; exact sk9) (by rw [(Eq.trans (xv_m hg448 (qr439 _ _ (qS88 _ _ (qb84 _ _ hs_b81))) (by decide) (by decide)) (xv_m hg440 (qS88 _ _ (qb84 _ _ hs_b81)) (by decide) (by decide))), (Eq.trans (xv_m hg448 (qr439 _ _ (qS88 _ _ (qb84 _ _ hs_b82))) (by decide) (by decide)) (xv_m hg440 (qS88 _ _ (qb84 _ _ hs_b82)) (by decide) (by decide)))]; exact xTc.mono tc9 (by omega)) (dc9 + dcr439) (ds9 + dsr439) (by omega) (by omega) (by omega)
        · refine X_tableIn hK 1192 26 (by decide) c93 (by decide) (by decide) dL_law_40 rfl (by decide) ?_
          refine X_aloadn hK (i := 1) 3 dL_law_1192 rfl rfl ?_
          refine X_callV hK [] [] lk_L_138 (c_X11_triedEaten _ _ _ _ _ S88 g89 b1 (qS88 _ _ (qb84 _ _ hk66))) (qS88 _ _ (qb84 _ _ hk66)) ⟨by decide, rfl⟩ dL_law_1193 rfl rfl (by simp [Value.category]) (by decide) (by omega) (by omega) (by decide) (fun r453 S455 g454 pr453 qr453 hg454 => ?_)
          obtain ⟨rfl, rfl, z456, rfl, lz456, uz456⟩ := pr453
          refine X_st [.int (iI z456)] rfl ?_
          refine X_pop hK dL_law_1196 rfl ?_
          refine X_aloadn hK (i := 2) 2 dL_law_1197 rfl rfl ?_
          refine X_callV hK [] [] lk_L_141 (c_X12_triedEaten _ _ _ _ _ S88 g89 b37 (qS88 _ _ (qb84 _ _ hs_y64))) (qS88 _ _ (qb84 _ _ hs_y64)) ⟨by decide, rfl⟩ dL_law_1198 rfl rfl (by simp [Value.category]) (by decide) (by omega) (by omega) (by decide) (fun r457 S459 g458 pr457 qr457 hg458 => ?_)
          obtain ⟨rfl, z460, rfl, lz460, uz460⟩ := pr457
          refine X_st [.int (iI z460)] rfl ?_
          refine X_pop hK dL_law_1201 rfl ?_
          refine X_goto hK 1465 dL_law_1202 (by decide) ?_
          refine X_iinc hK (i := 4) (z := i9) (n := 6) 0 [(4, .int (iI (i9 + 6))), (3, .ref b84), (2, .ref b37), (1, .ref b1), (0, .ref b)] dL_law_1465 rfl (by decide) rfl ?_
          refine X_goto hK 23 dL_law_1468 (by decide) ?_
          exact ih9 S88 qS88 g458 (i9 + 6) k9 t9 c9 b9 sh9 sp9 sm9 (by omega) (by omega) (by omega) (by omega) (by omega) (by omega) (by omega) (by omega) (xLs_mod al9 hg458 (by decide)) si9 (xPi_m pi9 hg458 xLe.rf (by decide)) (xMp_m mp9 hg458 xLe.rf (by decide)) (xTw_m tw9 hg458 xLe.rf (by decide)) (xPw_m pw9 hg458 xLe.rf (by decide)) ((hg458 b1 12 0 0 (qS88 _ _ (qb84 _ _ hk66)) (by decide)).trans el09) ((hg458 b1 12 0 3 (qS88 _ _ (qb84 _ _ hk66)) (by decide)).trans el19) ((hg458 b1 12 0 1 (qS88 _ _ (qb84 _ _ hk66)) (by decide)).trans el29) ((hg458 b35 6 0 1 (qS88 _ _ (qb84 _ _ hk74)) (by decide)).trans el39) ((hg458 b1 12 0 2 (qS88 _ _ (qb84 _ _ hk66)) (by decide)).trans el49) ((hg458 b19 4 0 0 (qS88 _ _ (qb84 _ _ hk67)) (by decide)).trans el59) ((hg458 b19 4 0 2 (qS88 _ _ (qb84 _ _ hk67)) (by decide)).trans el69) ((hg458 b19 4 0 3 (qS88 _ _ (qb84 _ _ hk67)) (by decide)).trans el79) ((hg458 b19 4 0 4 (qS88 _ _ (qb84 _ _ hk67)) (by decide)).trans el89) ((hg458 b33 10 0 0 (qS88 _ _ (qb84 _ _ hk72)) (by decide)).trans el99) ((hg458 b37 13 0 1 (qS88 _ _ (qb84 _ _ hs_y64)) (by decide)).trans el109) ((hg458 b37 13 0 10 (qS88 _ _ (qb84 _ _ hs_y64)) (by decide)).trans el119) ((hg458 b37 13 0 13 (qS88 _ _ (qb84 _ _ hs_y64)) (by decide)).trans el129) ((hg458 b37 13 0 14 (qS88 _ _ (qb84 _ _ hs_y64)) (by decide)).trans el139) ((hg458 b37 13 0 12 (qS88 _ _ (qb84 _ _ hs_y64)) (by decide)).trans el149) ((hg458 b33 10 0 1 (qS88 _ _ (qb84 _ _ hk72)) (by decide)).trans exk9) ((hg458 b37 13 0 2 (qS88 _ _ (qb84 _ _ hs_y64)) (by decide)).trans emk9) ((hg458 b1 12 0 12 (qS88 _ _ (qb84 _ _ hk66)) (by decide)).trans ext9) ((hg458 b37 13 0 3 (qS88 _ _ (qb84 _ _ hs_y64)) (by decide)).trans emt9) ((hg458 b34 5 0 3 (qS88 _ _ (qb84 _ _ hk73)) (by decide)).trans exc9) ((hg458 b37 13 0 69 (qS88 _ _ (qb84 _ _ hs_y64)) (by decide)).trans emc9) ((hg458 b36 0 0 2 (qS88 _ _ (qb84 _ _ hk75)) (by decide)).trans exb9) ((hg458 b37 13 0 16 (qS88 _ _ (qb84 _ _ hs_y64)) (by decide)).trans emb9) ((hg458 b1 12 0 16 (qS88 _ _ (qb84 _ _ hk66)) (by decide)).trans exsh9) ((hg458 b37 13 0 89 (qS88 _ _ (qb84 _ _ hs_y64)) (by decide)).trans emsh9) ((hg458 b1 12 0 17 (qS88 _ _ (qb84 _ _ hk66)) (by decide)).trans exsp9) ((hg458 b37 13 0 90 (qS88 _ _ (qb84 _ _ hs_y64)) (by decide)).trans emsp9) ((hg458 b37 13 0 17 (qS88 _ _ (qb84 _ _ hs_y64)) (by decide)).trans emsm9) (xWn.m wn9 (qS88 _ _ (qb84 _ _ hk71)) (qS88 _ _ (qb84 _ _ hk78)) hg458 xLe.rf (by decide)) (by rw [(xv_m hg458 (qS88 _ _ (qb84 _ _ hk69)) (by decide) (by decide)), (xv_m hg458 (qS88 _ _ (qb84 _ _ hk76)) (by decide) (by decide))]; exact wt9) (by rw [(xv_m hg458 (qS88 _ _ (qb84 _ _ hk70)) (by decide) (by decide)), (xv_m hg458 (qS88 _ _ (qb84 _ _ hk77)) (by decide) (by decide))]; exact ld9) (by rw [(xv_m hg458 (qS88 _ _ (qb84 _ _ hk68)) (by decide) (by decide)), (xv_m hg458 (qS88 _ _ (qb84 _ _ hs_b83)) (by decide) (by decide))]; exact sk9) (by rw [(xv_m hg458 (qS88 _ _ (qb84 _ _ hs_b81)) (by decide) (by decide)), (xv_m hg458 (qS88 _ _ (qb84 _ _ hs_b82)) (by decide) (by decide))]; exact xTc.mono tc9 (by omega)) dc9 ds9 (by omega) (by omega) (by omega)
        · refine X_tableIn hK 1205 27 (by decide) c93 (by decide) (by decide) dL_law_40 rfl (by decide) ?_
          refine X_aloadn hK (i := 1) 3 dL_law_1205 rfl rfl ?_
          refine X_aloadn hK (i := 0) 4 dL_law_1206 rfl rfl ?_
          refine X_iload hK (i := 4) 0 dL_law_1207 rfl ?_
          refine X_iconst hK dL_law_1209 ?_
          refine X_iadd hK dL_law_1210 ?_
          refine X_scr hK hX hbl hbA hL (by omega) (by omega) dL_law_1211 (fun z461 ez461 lz461 uz461 => ?_)
          refine X_aloadn hK (i := 0) 4 dL_law_1212 rfl rfl ?_
          refine X_iload hK (i := 4) 0 dL_law_1213 rfl ?_
          refine X_iconst hK dL_law_1215 ?_
          refine X_iadd hK dL_law_1216 ?_
          refine X_scr hK hX hbl hbA hL (by omega) (by omega) dL_law_1217 (fun z462 ez462 lz462 uz462 => ?_)
          refine X_aloadn hK (i := 0) 4 dL_law_1218 rfl rfl ?_
          refine X_iload hK (i := 4) 0 dL_law_1219 rfl ?_
          refine X_iconst hK dL_law_1221 ?_
          refine X_iadd hK dL_law_1222 ?_
          refine X_scr hK hX hbl hbA hL (by omega) (by omega) dL_law_1223 (fun z463 ez463 lz463 uz463 => ?_)
          refine X_callV hK [.int (iI z461), .int (iI z462), .int (iI z463)] [] lk_L_142 (c3_parted _ _ _ _ _ S88 g89 b1 z461 z462 z463 b33 k9 b81 np9 Gp9 Mp9 Cp9 (qS88 _ _ (qb84 _ _ hk66)) (by omega) (by omega) (by omega) el09 (qS88 _ _ (qb84 _ _ hk72)) (by omega) exk9 el99 (qS88 _ _ (qb84 _ _ hs_b81)) pa9) (qS88 _ _ (qb84 _ _ hk66)) ⟨by decide, rfl⟩ dL_law_1224 rfl rfl (by simp [Value.category]) (by decide) (by omega) (by omega) (by decide) (fun r464 S466 g465 pr464 qr464 hg465 => ?_)
          obtain ⟨rfl, z467, rfl, lz467, uz467, k468, k469⟩ := pr464
          refine X_st [.int (iI z467)] rfl ?_
          refine X_aloadn hK (i := 2) 2 dL_law_1227 rfl rfl ?_
          refine X_aloadn hK (i := 0) 4 dL_law_1228 rfl rfl ?_
          refine X_iload hK (i := 4) 0 dL_law_1229 rfl ?_
          refine X_iconst hK dL_law_1231 ?_
          refine X_iadd hK dL_law_1232 ?_
          refine X_scrK hK hX hbl hbA hL (by omega) (by omega) ez461 dL_law_1233 ?_
          refine X_aloadn hK (i := 0) 4 dL_law_1234 rfl rfl ?_
          refine X_iload hK (i := 4) 0 dL_law_1235 rfl ?_
          refine X_iconst hK dL_law_1237 ?_
          refine X_iadd hK dL_law_1238 ?_
          refine X_scrK hK hX hbl hbA hL (by omega) (by omega) ez462 dL_law_1239 ?_
          refine X_aloadn hK (i := 0) 4 dL_law_1240 rfl rfl ?_
          refine X_iload hK (i := 4) 0 dL_law_1241 rfl ?_
          refine X_iconst hK dL_law_1243 ?_
          refine X_iadd hK dL_law_1244 ?_
          refine X_scrK hK hX hbl hbA hL (by omega) (by omega) ez463 dL_law_1245 ?_
          refine X_knowr 18600 64 (qS88 _ _ (qb84 _ _ hs_y64)) (by decide) sl_13_80 (fun b470 eb470 hs_b470 => ?_)
          refine X_knowr 18700 64 (qS88 _ _ (qb84 _ _ hs_y64)) (by decide) sl_13_81 (fun b471 eb471 hs_b471 => ?_)
          refine X_callV hK [.int (iI z461), .int (iI z462), .int (iI z463)] [.int (iI z467)] lk_L_146 (c3_mparted _ _ _ _ _ S88 g465 b37 z461 z462 z463 k9 b82 b470 b471 np9 Gm9 Mm9 Cm9 (qS88 _ _ (qb84 _ _ hs_y64)) (by omega) (by omega) (by omega) (by omega) ((hg465 b37 13 0 2 (qS88 _ _ (qb84 _ _ hs_y64)) (by decide)).trans emk9) ((hg465 b37 13 0 1 (qS88 _ _ (qb84 _ _ hs_y64)) (by decide)).trans el109) (qS88 _ _ (qb84 _ _ hs_b82)) eb470 hs_b470 eb471 hs_b471 (xMa_m ma9 hg465 xLe.rf (by decide))) (qS88 _ _ (qb84 _ _ hs_y64)) ⟨by decide, rfl⟩ dL_law_1246 rfl rfl (by simp [Value.category]) (by decide) (by omega) (by omega) (by decide) (fun r472 S474 g473 pr472 qr472 hg473 => ?_)
          obtain ⟨rfl, z475, rfl, lz475, uz475, k476, k477⟩ := pr472
          refine X_st [.int (iI z475), .int (iI z467)] rfl ?_
          obtain ⟨nq478, Gq478, Mq478, Cq478, paq478, psq478⟩ := k469
          obtain ⟨mq478, Iq478, Jq478, Kq478, maq478, ptq478⟩ := k477
          obtain ⟨hq9, hnq478, alq478⟩ := xPs.det (by rw [(xv_m hg465 (qS88 _ _ (qb84 _ _ hs_b82)) (by decide) (by decide))]; exact tc9) (by have h9 := xPa.r pa9; omega) lk9 psq478 ptq478
          refine X_icmp_eq hK 1465 (by omega) (by omega) dL_law_1249 (by decide) (fun c479 => ?_) (fun c479 => False.elim (by omega))
          refine X_iinc hK (i := 4) (z := i9) (n := 6) 0 [(4, .int (iI (i9 + 6))), (3, .ref b84), (2, .ref b37), (1, .ref b1), (0, .ref b)] dL_law_1465 rfl (by decide) rfl ?_
          refine X_goto hK 23 dL_law_1468 (by decide) ?_
          exact ih9 S88 qS88 g473 (i9 + 6) (0) t9 c9 b9 sh9 sp9 sm9 (by omega) (by omega) (by omega) (by omega) (by omega) (by omega) (by omega) (by omega) (xLs_mod (xLs_mod al9 hg465 (by decide)) hg473 (by decide)) si9 (xPi_m (xPa.pi paq478) hg473 xLe.rf (by decide)) (xMa.mp maq478) (xTw_m (xTw_m tw9 hg465 xLe.rf (by decide)) hg473 xLe.rf (by decide)) (show xPw S88 g473 b1 b37 from ⟨nq478, Gq478, Mq478, Cq478, Iq478, Jq478, Kq478, (xPa_m paq478 hg473 xLe.rf (by decide)), (by rw [hnq478]; exact maq478), alq478⟩) ((hg473 b1 12 0 0 (qS88 _ _ (qb84 _ _ hk66)) (by decide)).trans ((hg465 b1 12 0 0 (qS88 _ _ (qb84 _ _ hk66)) (by decide)).trans el09)) ((hg473 b1 12 0 3 (qS88 _ _ (qb84 _ _ hk66)) (by decide)).trans ((hg465 b1 12 0 3 (qS88 _ _ (qb84 _ _ hk66)) (by decide)).trans el19)) ((hg473 b1 12 0 1 (qS88 _ _ (qb84 _ _ hk66)) (by decide)).trans ((hg465 b1 12 0 1 (qS88 _ _ (qb84 _ _ hk66)) (by decide)).trans el29)) ((hg473 b35 6 0 1 (qS88 _ _ (qb84 _ _ hk74)) (by decide)).trans ((hg465 b35 6 0 1 (qS88 _ _ (qb84 _ _ hk74)) (by decide)).trans el39)) ((hg473 b1 12 0 2 (qS88 _ _ (qb84 _ _ hk66)) (by decide)).trans ((hg465 b1 12 0 2 (qS88 _ _ (qb84 _ _ hk66)) (by decide)).trans el49)) ((hg473 b19 4 0 0 (qS88 _ _ (qb84 _ _ hk67)) (by decide)).trans ((hg465 b19 4 0 0 (qS88 _ _ (qb84 _ _ hk67)) (by decide)).trans el59)) ((hg473 b19 4 0 2 (qS88 _ _ (qb84 _ _ hk67)) (by decide)).trans ((hg465 b19 4 0 2 (qS88 _ _ (qb84 _ _ hk67)) (by decide)).trans el69)) ((hg473 b19 4 0 3 (qS88 _ _ (qb84 _ _ hk67)) (by decide)).trans ((hg465 b19 4 0 3 (qS88 _ _ (qb84 _ _ hk67)) (by decide)).trans el79)) ((hg473 b19 4 0 4 (qS88 _ _ (qb84 _ _ hk67)) (by decide)).trans ((hg465 b19 4 0 4 (qS88 _ _ (qb84 _ _ hk67)) (by decide)).trans el89)) ((hg473 b33 10 0 0 (qS88 _ _ (qb84 _ _ hk72)) (by decide)).trans ((hg465 b33 10 0 0 (qS88 _ _ (qb84 _ _ hk72)) (by decide)).trans el99)) ((hg473 b37 13 0 1 (qS88 _ _ (qb84 _ _ hs_y64)) (by decide)).trans ((hg465 b37 13 0 1 (qS88 _ _ (qb84 _ _ hs_y64)) (by decide)).trans el109)) ((hg473 b37 13 0 10 (qS88 _ _ (qb84 _ _ hs_y64)) (by decide)).trans ((hg465 b37 13 0 10 (qS88 _ _ (qb84 _ _ hs_y64)) (by decide)).trans el119)) ((hg473 b37 13 0 13 (qS88 _ _ (qb84 _ _ hs_y64)) (by decide)).trans ((hg465 b37 13 0 13 (qS88 _ _ (qb84 _ _ hs_y64)) (by decide)).trans el129)) ((hg473 b37 13 0 14 (qS88 _ _ (qb84 _ _ hs_y64)) (by decide)).trans ((hg465 b37 13 0 14 (qS88 _ _ (qb84 _ _ hs_y64)) (by decide)).trans el139)) ((hg473 b37 13 0 12 (qS88 _ _ (qb84 _ _ hs_y64)) (by decide)).trans ((hg465 b37 13 0 12 (qS88 _ _ (qb84 _ _ hs_y64)) (by decide)).trans el149)) ((hg473 b33 10 0 1 (qS88 _ _ (qb84 _ _ hk72)) (by decide)).trans k468) k476 ((hg473 b1 12 0 12 (qS88 _ _ (qb84 _ _ hk66)) (by decide)).trans ((hg465 b1 12 0 12 (qS88 _ _ (qb84 _ _ hk66)) (by decide)).trans ext9)) ((hg473 b37 13 0 3 (qS88 _ _ (qb84 _ _ hs_y64)) (by decide)).trans ((hg465 b37 13 0 3 (qS88 _ _ (qb84 _ _ hs_y64)) (by decide)).trans emt9)) ((hg473 b34 5 0 3 (qS88 _ _ (qb84 _ _ hk73)) (by decide)).trans ((hg465 b34 5 0 3 (qS88 _ _ (qb84 _ _ hk73)) (by decide)).trans exc9)) ((hg473 b37 13 0 69 (qS88 _ _ (qb84 _ _ hs_y64)) (by decide)).trans ((hg465 b37 13 0 69 (qS88 _ _ (qb84 _ _ hs_y64)) (by decide)).trans emc9)) ((hg473 b36 0 0 2 (qS88 _ _ (qb84 _ _ hk75)) (by decide)).trans ((hg465 b36 0 0 2 (qS88 _ _ (qb84 _ _ hk75)) (by decide)).trans exb9)) ((hg473 b37 13 0 16 (qS88 _ _ (qb84 _ _ hs_y64)) (by decide)).trans ((hg465 b37 13 0 16 (qS88 _ _ (qb84 _ _ hs_y64)) (by decide)).trans emb9)) ((hg473 b1 12 0 16 (qS88 _ _ (qb84 _ _ hk66)) (by decide)).trans ((hg465 b1 12 0 16 (qS88 _ _ (qb84 _ _ hk66)) (by decide)).trans exsh9)) ((hg473 b37 13 0 89 (qS88 _ _ (qb84 _ _ hs_y64)) (by decide)).trans ((hg465 b37 13 0 89 (qS88 _ _ (qb84 _ _ hs_y64)) (by decide)).trans emsh9)) ((hg473 b1 12 0 17 (qS88 _ _ (qb84 _ _ hk66)) (by decide)).trans ((hg465 b1 12 0 17 (qS88 _ _ (qb84 _ _ hk66)) (by decide)).trans exsp9)) ((hg473 b37 13 0 90 (qS88 _ _ (qb84 _ _ hs_y64)) (by decide)).trans ((hg465 b37 13 0 90 (qS88 _ _ (qb84 _ _ hs_y64)) (by decide)).trans emsp9)) ((hg473 b37 13 0 17 (qS88 _ _ (qb84 _ _ hs_y64)) (by decide)).trans ((hg465 b37 13 0 17 (qS88 _ _ (qb84 _ _ hs_y64)) (by decide)).trans emsm9)) (xWn.m (xWn.m wn9 (qS88 _ _ (qb84 _ _ hk71)) (qS88 _ _ (qb84 _ _ hk78)) hg465 xLe.rf (by decide)) (qS88 _ _ (qb84 _ _ hk71)) (qS88 _ _ (qb84 _ _ hk78)) hg473 xLe.rf (by decide)) (by rw [(Eq.trans (xv_m hg473 (qS88 _ _ (qb84 _ _ hk69)) (by decide) (by decide)) (xv_m hg465 (qS88 _ _ (qb84 _ _ hk69)) (by decide) (by decide))), (Eq.trans (xv_m hg473 (qS88 _ _ (qb84 _ _ hk76)) (by decide) (by decide)) (xv_m hg465 (qS88 _ _ (qb84 _ _ hk76)) (by decide) (by decide)))]; exact wt9) (by rw [(Eq.trans (xv_m hg473 (qS88 _ _ (qb84 _ _ hk70)) (by decide) (by decide)) (xv_m hg465 (qS88 _ _ (qb84 _ _ hk70)) (by decide) (by decide))), (Eq.trans (xv_m hg473 (qS88 _ _ (qb84 _ _ hk77)) (by decide) (by decide)) (xv_m hg465 (qS88 _ _ (qb84 _ _ hk77)) (by decide) (by decide)))]; exact ld9) (by rw [(Eq.trans (xv_m hg473 (qS88 _ _ (qb84 _ _ hk68)) (by decide) (by decide)) (xv_m hg465 (qS88 _ _ (qb84 _ _ hk68)) (by decide) (by decide))), (Eq.trans (xv_m hg473 (qS88 _ _ (qb84 _ _ hs_b83)) (by decide) (by decide)) (xv_m hg465 (qS88 _ _ (qb84 _ _ hs_b83)) (by decide) (by decide)))]; exact sk9) (by rw [(Eq.trans (xv_m hg473 (qS88 _ _ (qb84 _ _ hs_b81)) (by decide) (by decide)) (xv_m hg465 (qS88 _ _ (qb84 _ _ hs_b81)) (by decide) (by decide))), (Eq.trans (xv_m hg473 (qS88 _ _ (qb84 _ _ hs_b82)) (by decide) (by decide)) (xv_m hg465 (qS88 _ _ (qb84 _ _ hs_b82)) (by decide) (by decide)))]; exact xTc.mono tc9 (by omega)) dc9 ds9 (by omega) (by omega) (by omega)
        · refine X_tableIn hK 1254 28 (by decide) c93 (by decide) (by decide) dL_law_40 rfl (by decide) ?_
          refine X_aloadn hK (i := 1) 3 dL_law_1254 rfl rfl ?_
          refine X_aloadn hK (i := 0) 4 dL_law_1255 rfl rfl ?_
          refine X_iload hK (i := 4) 0 dL_law_1256 rfl ?_
          refine X_iconst hK dL_law_1258 ?_
          refine X_iadd hK dL_law_1259 ?_
          refine X_scr hK hX hbl hbA hL (by omega) (by omega) dL_law_1260 (fun z480 ez480 lz480 uz480 => ?_)
          refine X_callV hK [.int (iI z480)] [] lk_L_147 (c3_partedAt _ _ _ _ _ S88 g89 b1 z480 np9 Gp9 Mp9 Cp9 (qS88 _ _ (qb84 _ _ hk66)) (by omega) pa9) (qS88 _ _ (qb84 _ _ hk66)) ⟨by decide, rfl⟩ dL_law_1261 rfl rfl (by simp [Value.category]) (by decide) (by omega) (by omega) (by decide) (fun r481 S483 g482 pr481 qr481 hg482 => ?_)
          obtain ⟨rfl, rfl, z484, rfl, lz484, uz484, k485⟩ := pr481
          refine X_st [.int (iI z484)] rfl ?_
          refine X_pop hK dL_law_1264 rfl ?_
          refine X_aloadn hK (i := 2) 2 dL_law_1265 rfl rfl ?_
          refine X_aloadn hK (i := 0) 4 dL_law_1266 rfl rfl ?_
          refine X_iload hK (i := 4) 0 dL_law_1267 rfl ?_
          refine X_iconst hK dL_law_1269 ?_
          refine X_iadd hK dL_law_1270 ?_
          refine X_scrK hK hX hbl hbA hL (by omega) (by omega) ez480 dL_law_1271 ?_
          refine X_callV hK [.int (iI z480)] [] lk_L_150 (c3_mpartedAt _ _ _ _ _ S88 g89 b37 z480 np9 Gm9 Mm9 Cm9 (qS88 _ _ (qb84 _ _ hs_y64)) (by omega) ma9) (qS88 _ _ (qb84 _ _ hs_y64)) ⟨by decide, rfl⟩ dL_law_1272 rfl rfl (by simp [Value.category]) (by decide) (by omega) (by omega) (by decide) (fun r486 S488 g487 pr486 qr486 hg487 => ?_)
          obtain ⟨rfl, z489, rfl, lz489, uz489, k490⟩ := pr486
          refine X_st [.int (iI z489)] rfl ?_
          have hq9 : z484 = z489 := xPt.det lk9 k485 k490
          refine X_pop hK dL_law_1275 rfl ?_
          refine X_goto hK 1465 dL_law_1276 (by decide) ?_
          refine X_iinc hK (i := 4) (z := i9) (n := 6) 0 [(4, .int (iI (i9 + 6))), (3, .ref b84), (2, .ref b37), (1, .ref b1), (0, .ref b)] dL_law_1465 rfl (by decide) rfl ?_
          refine X_goto hK 23 dL_law_1468 (by decide) ?_
          exact ih9 S88 qS88 g487 (i9 + 6) k9 t9 c9 b9 sh9 sp9 sm9 (by omega) (by omega) (by omega) (by omega) (by omega) (by omega) (by omega) (by omega) (xLs_mod al9 hg487 (by decide)) si9 (xPi_m pi9 hg487 xLe.rf (by decide)) (xMp_m mp9 hg487 xLe.rf (by decide)) (xTw_m tw9 hg487 xLe.rf (by decide)) (xPw_m pw9 hg487 xLe.rf (by decide)) ((hg487 b1 12 0 0 (qS88 _ _ (qb84 _ _ hk66)) (by decide)).trans el09) ((hg487 b1 12 0 3 (qS88 _ _ (qb84 _ _ hk66)) (by decide)).trans el19) ((hg487 b1 12 0 1 (qS88 _ _ (qb84 _ _ hk66)) (by decide)).trans el29) ((hg487 b35 6 0 1 (qS88 _ _ (qb84 _ _ hk74)) (by decide)).trans el39) ((hg487 b1 12 0 2 (qS88 _ _ (qb84 _ _ hk66)) (by decide)).trans el49) ((hg487 b19 4 0 0 (qS88 _ _ (qb84 _ _ hk67)) (by decide)).trans el59) ((hg487 b19 4 0 2 (qS88 _ _ (qb84 _ _ hk67)) (by decide)).trans el69) ((hg487 b19 4 0 3 (qS88 _ _ (qb84 _ _ hk67)) (by decide)).trans el79) ((hg487 b19 4 0 4 (qS88 _ _ (qb84 _ _ hk67)) (by decide)).trans el89) ((hg487 b33 10 0 0 (qS88 _ _ (qb84 _ _ hk72)) (by decide)).trans el99) ((hg487 b37 13 0 1 (qS88 _ _ (qb84 _ _ hs_y64)) (by decide)).trans el109) ((hg487 b37 13 0 10 (qS88 _ _ (qb84 _ _ hs_y64)) (by decide)).trans el119) ((hg487 b37 13 0 13 (qS88 _ _ (qb84 _ _ hs_y64)) (by decide)).trans el129) ((hg487 b37 13 0 14 (qS88 _ _ (qb84 _ _ hs_y64)) (by decide)).trans el139) ((hg487 b37 13 0 12 (qS88 _ _ (qb84 _ _ hs_y64)) (by decide)).trans el149) ((hg487 b33 10 0 1 (qS88 _ _ (qb84 _ _ hk72)) (by decide)).trans exk9) ((hg487 b37 13 0 2 (qS88 _ _ (qb84 _ _ hs_y64)) (by decide)).trans emk9) ((hg487 b1 12 0 12 (qS88 _ _ (qb84 _ _ hk66)) (by decide)).trans ext9) ((hg487 b37 13 0 3 (qS88 _ _ (qb84 _ _ hs_y64)) (by decide)).trans emt9) ((hg487 b34 5 0 3 (qS88 _ _ (qb84 _ _ hk73)) (by decide)).trans exc9) ((hg487 b37 13 0 69 (qS88 _ _ (qb84 _ _ hs_y64)) (by decide)).trans emc9) ((hg487 b36 0 0 2 (qS88 _ _ (qb84 _ _ hk75)) (by decide)).trans exb9) ((hg487 b37 13 0 16 (qS88 _ _ (qb84 _ _ hs_y64)) (by decide)).trans emb9) ((hg487 b1 12 0 16 (qS88 _ _ (qb84 _ _ hk66)) (by decide)).trans exsh9) ((hg487 b37 13 0 89 (qS88 _ _ (qb84 _ _ hs_y64)) (by decide)).trans emsh9) ((hg487 b1 12 0 17 (qS88 _ _ (qb84 _ _ hk66)) (by decide)).trans exsp9) ((hg487 b37 13 0 90 (qS88 _ _ (qb84 _ _ hs_y64)) (by decide)).trans emsp9) ((hg487 b37 13 0 17 (qS88 _ _ (qb84 _ _ hs_y64)) (by decide)).trans emsm9) (xWn.m wn9 (qS88 _ _ (qb84 _ _ hk71)) (qS88 _ _ (qb84 _ _ hk78)) hg487 xLe.rf (by decide)) (by rw [(xv_m hg487 (qS88 _ _ (qb84 _ _ hk69)) (by decide) (by decide)), (xv_m hg487 (qS88 _ _ (qb84 _ _ hk76)) (by decide) (by decide))]; exact wt9) (by rw [(xv_m hg487 (qS88 _ _ (qb84 _ _ hk70)) (by decide) (by decide)), (xv_m hg487 (qS88 _ _ (qb84 _ _ hk77)) (by decide) (by decide))]; exact ld9) (by rw [(xv_m hg487 (qS88 _ _ (qb84 _ _ hk68)) (by decide) (by decide)), (xv_m hg487 (qS88 _ _ (qb84 _ _ hs_b83)) (by decide) (by decide))]; exact sk9) (by rw [(xv_m hg487 (qS88 _ _ (qb84 _ _ hs_b81)) (by decide) (by decide)), (xv_m hg487 (qS88 _ _ (qb84 _ _ hs_b82)) (by decide) (by decide))]; exact xTc.mono tc9 (by omega)) dc9 ds9 (by omega) (by omega) (by omega)
        · refine X_tableIn hK 1279 29 (by decide) c93 (by decide) (by decide) dL_law_40 rfl (by decide) ?_
          refine X_aloadn hK (i := 1) 3 dL_law_1279 rfl rfl ?_
          refine X_aloadn hK (i := 0) 4 dL_law_1280 rfl rfl ?_
          refine X_iload hK (i := 4) 0 dL_law_1281 rfl ?_
          refine X_iconst hK dL_law_1283 ?_
          refine X_iadd hK dL_law_1284 ?_
          refine X_scr hK hX hbl hbA hL (by omega) (by omega) dL_law_1285 (fun z491 ez491 lz491 uz491 => ?_)
          refine X_callV hK [.int (iI z491)] [] lk_L_151 (c3_peace _ _ _ _ _ S88 g89 b1 z491 np9 Gp9 Mp9 Cp9 (qS88 _ _ (qb84 _ _ hk66)) (by omega) pa9) (qS88 _ _ (qb84 _ _ hk66)) ⟨by decide, rfl⟩ dL_law_1286 rfl rfl (by simp [Value.category]) (by decide) (by omega) (by omega) (by decide) (fun r492 S494 g493 pr492 qr492 hg493 => ?_)
          obtain ⟨rfl, rfl, z495, rfl, lz495, uz495, k496⟩ := pr492
          refine X_st [.int (iI z495)] rfl ?_
          refine X_pop hK dL_law_1289 rfl ?_
          refine X_aloadn hK (i := 2) 2 dL_law_1290 rfl rfl ?_
          refine X_aloadn hK (i := 0) 4 dL_law_1291 rfl rfl ?_
          refine X_iload hK (i := 4) 0 dL_law_1292 rfl ?_
          refine X_iconst hK dL_law_1294 ?_
          refine X_iadd hK dL_law_1295 ?_
          refine X_scrK hK hX hbl hbA hL (by omega) (by omega) ez491 dL_law_1296 ?_
          refine X_callV hK [.int (iI z491)] [] lk_L_154 (c3_mpeace _ _ _ _ _ S88 g89 b37 z491 np9 Gm9 Mm9 Cm9 (qS88 _ _ (qb84 _ _ hs_y64)) (by omega) ma9) (qS88 _ _ (qb84 _ _ hs_y64)) ⟨by decide, rfl⟩ dL_law_1297 rfl rfl (by simp [Value.category]) (by decide) (by omega) (by omega) (by decide) (fun r497 S499 g498 pr497 qr497 hg498 => ?_)
          obtain ⟨rfl, z500, rfl, lz500, uz500, k501⟩ := pr497
          refine X_st [.int (iI z500)] rfl ?_
          have hq9 : z495 = z500 := xPe.det lk9 (xPa.r pa9).2.2 k496 k501
          refine X_pop hK dL_law_1300 rfl ?_
          refine X_goto hK 1465 dL_law_1301 (by decide) ?_
          refine X_iinc hK (i := 4) (z := i9) (n := 6) 0 [(4, .int (iI (i9 + 6))), (3, .ref b84), (2, .ref b37), (1, .ref b1), (0, .ref b)] dL_law_1465 rfl (by decide) rfl ?_
          refine X_goto hK 23 dL_law_1468 (by decide) ?_
          exact ih9 S88 qS88 g498 (i9 + 6) k9 t9 c9 b9 sh9 sp9 sm9 (by omega) (by omega) (by omega) (by omega) (by omega) (by omega) (by omega) (by omega) (xLs_mod al9 hg498 (by decide)) si9 (xPi_m pi9 hg498 xLe.rf (by decide)) (xMp_m mp9 hg498 xLe.rf (by decide)) (xTw_m tw9 hg498 xLe.rf (by decide)) (xPw_m pw9 hg498 xLe.rf (by decide)) ((hg498 b1 12 0 0 (qS88 _ _ (qb84 _ _ hk66)) (by decide)).trans el09) ((hg498 b1 12 0 3 (qS88 _ _ (qb84 _ _ hk66)) (by decide)).trans el19) ((hg498 b1 12 0 1 (qS88 _ _ (qb84 _ _ hk66)) (by decide)).trans el29) ((hg498 b35 6 0 1 (qS88 _ _ (qb84 _ _ hk74)) (by decide)).trans el39) ((hg498 b1 12 0 2 (qS88 _ _ (qb84 _ _ hk66)) (by decide)).trans el49) ((hg498 b19 4 0 0 (qS88 _ _ (qb84 _ _ hk67)) (by decide)).trans el59) ((hg498 b19 4 0 2 (qS88 _ _ (qb84 _ _ hk67)) (by decide)).trans el69) ((hg498 b19 4 0 3 (qS88 _ _ (qb84 _ _ hk67)) (by decide)).trans el79) ((hg498 b19 4 0 4 (qS88 _ _ (qb84 _ _ hk67)) (by decide)).trans el89) ((hg498 b33 10 0 0 (qS88 _ _ (qb84 _ _ hk72)) (by decide)).trans el99) ((hg498 b37 13 0 1 (qS88 _ _ (qb84 _ _ hs_y64)) (by decide)).trans el109) ((hg498 b37 13 0 10 (qS88 _ _ (qb84 _ _ hs_y64)) (by decide)).trans el119) ((hg498 b37 13 0 13 (qS88 _ _ (qb84 _ _ hs_y64)) (by decide)).trans el129) ((hg498 b37 13 0 14 (qS88 _ _ (qb84 _ _ hs_y64)) (by decide)).trans el139) ((hg498 b37 13 0 12 (qS88 _ _ (qb84 _ _ hs_y64)) (by decide)).trans el149) ((hg498 b33 10 0 1 (qS88 _ _ (qb84 _ _ hk72)) (by decide)).trans exk9) ((hg498 b37 13 0 2 (qS88 _ _ (qb84 _ _ hs_y64)) (by decide)).trans emk9) ((hg498 b1 12 0 12 (qS88 _ _ (qb84 _ _ hk66)) (by decide)).trans ext9) ((hg498 b37 13 0 3 (qS88 _ _ (qb84 _ _ hs_y64)) (by decide)).trans emt9) ((hg498 b34 5 0 3 (qS88 _ _ (qb84 _ _ hk73)) (by decide)).trans exc9) ((hg498 b37 13 0 69 (qS88 _ _ (qb84 _ _ hs_y64)) (by decide)).trans emc9) ((hg498 b36 0 0 2 (qS88 _ _ (qb84 _ _ hk75)) (by decide)).trans exb9) ((hg498 b37 13 0 16 (qS88 _ _ (qb84 _ _ hs_y64)) (by decide)).trans emb9) ((hg498 b1 12 0 16 (qS88 _ _ (qb84 _ _ hk66)) (by decide)).trans exsh9) ((hg498 b37 13 0 89 (qS88 _ _ (qb84 _ _ hs_y64)) (by decide)).trans emsh9) ((hg498 b1 12 0 17 (qS88 _ _ (qb84 _ _ hk66)) (by decide)).trans exsp9) ((hg498 b37 13 0 90 (qS88 _ _ (qb84 _ _ hs_y64)) (by decide)).trans emsp9) ((hg498 b37 13 0 17 (qS88 _ _ (qb84 _ _ hs_y64)) (by decide)).trans emsm9) (xWn.m wn9 (qS88 _ _ (qb84 _ _ hk71)) (qS88 _ _ (qb84 _ _ hk78)) hg498 xLe.rf (by decide)) (by rw [(xv_m hg498 (qS88 _ _ (qb84 _ _ hk69)) (by decide) (by decide)), (xv_m hg498 (qS88 _ _ (qb84 _ _ hk76)) (by decide) (by decide))]; exact wt9) (by rw [(xv_m hg498 (qS88 _ _ (qb84 _ _ hk70)) (by decide) (by decide)), (xv_m hg498 (qS88 _ _ (qb84 _ _ hk77)) (by decide) (by decide))]; exact ld9) (by rw [(xv_m hg498 (qS88 _ _ (qb84 _ _ hk68)) (by decide) (by decide)), (xv_m hg498 (qS88 _ _ (qb84 _ _ hs_b83)) (by decide) (by decide))]; exact sk9) (by rw [(xv_m hg498 (qS88 _ _ (qb84 _ _ hs_b81)) (by decide) (by decide)), (xv_m hg498 (qS88 _ _ (qb84 _ _ hs_b82)) (by decide) (by decide))]; exact xTc.mono tc9 (by omega)) dc9 ds9 (by omega) (by omega) (by omega)
        · refine X_tableIn hK 1304 30 (by decide) c93 (by decide) (by decide) dL_law_40 rfl (by decide) ?_
          refine X_aloadn hK (i := 1) 3 dL_law_1304 rfl rfl ?_
          refine X_callVU hK [] [] lk_L_155 (c_X11_truck _ _ _ _ _ S88 g89 b1 b33 k9 (qS88 _ _ (qb84 _ _ hk66)) el09 (qS88 _ _ (qb84 _ _ hk72)) (by omega) exk9 si9) (qS88 _ _ (qb84 _ _ hk66)) ⟨by decide, rfl⟩ dL_law_1305 rfl rfl (by simp [Value.category]) (by decide) (by omega) (by omega) (by decide) (fun r502 S504 g503 dcr502 dsr502 pr502 qr502 hg503 => ?_)
          obtain ⟨wr502, z505, rfl, lz505, uz505, k506, k507, k508⟩ := pr502
          have A509 : xLs S504 g503 := xLs_al al9 hg503 (by decide) qr502 wr502 (by decide)
          refine X_st [.int (iI z505)] rfl ?_
          refine X_pop hK dL_law_1308 rfl ?_
          refine X_aloadn hK (i := 2) 2 dL_law_1309 rfl rfl ?_
          refine X_knowr 19100 10 (qr502 _ _ (qS88 _ _ (qb84 _ _ hs_y64))) (by decide) sl_13_85 (fun b510 eb510 hs_b510 => ?_)
          refine X_callV hK [] [] lk_L_158 (c_X12_truck _ _ _ _ _ S504 g503 b37 k9 b510 (qr502 _ _ (qS88 _ _ (qb84 _ _ hs_y64))) (by omega) ((hg503 b37 13 0 2 (qS88 _ _ (qb84 _ _ hs_y64)) (by decide)).trans emk9) eb510 hs_b510) (qr502 _ _ (qS88 _ _ (qb84 _ _ hs_y64))) ⟨by decide, rfl⟩ dL_law_1310 rfl rfl (by simp [Value.category]) (by decide) (by omega) (by omega) (by decide) (fun r511 S513 g512 pr511 qr511 hg512 => ?_)
          obtain ⟨rfl, z514, rfl, lz514, uz514, k515⟩ := pr511
          refine X_st [.int (iI z514)] rfl ?_
          refine X_pop hK dL_law_1313 rfl ?_
          refine X_goto hK 1465 dL_law_1314 (by decide) ?_
          refine X_iinc hK (i := 4) (z := i9) (n := 6) 0 [(4, .int (iI (i9 + 6))), (3, .ref b84), (2, .ref b37), (1, .ref b1), (0, .ref b)] dL_law_1465 rfl (by decide) rfl ?_
          refine X_goto hK 23 dL_law_1468 (by decide) ?_
          exact ih9 S504 (xLe.tr qS88 qr502) g512 (i9 + 6) (0) t9 c9 b9 sh9 sp9 sm9 (by omega) (by omega) (by omega) (by omega) (by omega) (by omega) (by omega) (by omega) (xLs_mod A509 hg512 (by decide)) k506 (xPi_m (xPi_m pi9 hg503 qr502 (by decide)) hg512 xLe.rf (by decide)) (xMp_m (xMp_m mp9 hg503 qr502 (by decide)) hg512 xLe.rf (by decide)) (xTw_m (xTw_m tw9 hg503 qr502 (by decide)) hg512 xLe.rf (by decide)) (xPw_m (xPw_m pw9 hg503 qr502 (by decide)) hg512 xLe.rf (by decide)) ((hg512 b1 12 0 0 (qr502 _ _ (qS88 _ _ (qb84 _ _ hk66))) (by decide)).trans ((hg503 b1 12 0 0 (qS88 _ _ (qb84 _ _ hk66)) (by decide)).trans el09)) ((hg512 b1 12 0 3 (qr502 _ _ (qS88 _ _ (qb84 _ _ hk66))) (by decide)).trans ((hg503 b1 12 0 3 (qS88 _ _ (qb84 _ _ hk66)) (by decide)).trans el19)) ((hg512 b1 12 0 1 (qr502 _ _ (qS88 _ _ (qb84 _ _ hk66))) (by decide)).trans ((hg503 b1 12 0 1 (qS88 _ _ (qb84 _ _ hk66)) (by decide)).trans el29)) ((hg512 b35 6 0 1 (qr502 _ _ (qS88 _ _ (qb84 _ _ hk74))) (by decide)).trans ((hg503 b35 6 0 1 (qS88 _ _ (qb84 _ _ hk74)) (by decide)).trans el39)) ((hg512 b1 12 0 2 (qr502 _ _ (qS88 _ _ (qb84 _ _ hk66))) (by decide)).trans ((hg503 b1 12 0 2 (qS88 _ _ (qb84 _ _ hk66)) (by decide)).trans el49)) ((hg512 b19 4 0 0 (qr502 _ _ (qS88 _ _ (qb84 _ _ hk67))) (by decide)).trans ((hg503 b19 4 0 0 (qS88 _ _ (qb84 _ _ hk67)) (by decide)).trans el59)) ((hg512 b19 4 0 2 (qr502 _ _ (qS88 _ _ (qb84 _ _ hk67))) (by decide)).trans ((hg503 b19 4 0 2 (qS88 _ _ (qb84 _ _ hk67)) (by decide)).trans el69)) ((hg512 b19 4 0 3 (qr502 _ _ (qS88 _ _ (qb84 _ _ hk67))) (by decide)).trans ((hg503 b19 4 0 3 (qS88 _ _ (qb84 _ _ hk67)) (by decide)).trans el79)) ((hg512 b19 4 0 4 (qr502 _ _ (qS88 _ _ (qb84 _ _ hk67))) (by decide)).trans ((hg503 b19 4 0 4 (qS88 _ _ (qb84 _ _ hk67)) (by decide)).trans el89)) ((hg512 b33 10 0 0 (qr502 _ _ (qS88 _ _ (qb84 _ _ hk72))) (by decide)).trans ((hg503 b33 10 0 0 (qS88 _ _ (qb84 _ _ hk72)) (by decide)).trans el99)) ((hg512 b37 13 0 1 (qr502 _ _ (qS88 _ _ (qb84 _ _ hs_y64))) (by decide)).trans ((hg503 b37 13 0 1 (qS88 _ _ (qb84 _ _ hs_y64)) (by decide)).trans el109)) ((hg512 b37 13 0 10 (qr502 _ _ (qS88 _ _ (qb84 _ _ hs_y64))) (by decide)).trans ((hg503 b37 13 0 10 (qS88 _ _ (qb84 _ _ hs_y64)) (by decide)).trans el119)) ((hg512 b37 13 0 13 (qr502 _ _ (qS88 _ _ (qb84 _ _ hs_y64))) (by decide)).trans ((hg503 b37 13 0 13 (qS88 _ _ (qb84 _ _ hs_y64)) (by decide)).trans el129)) ((hg512 b37 13 0 14 (qr502 _ _ (qS88 _ _ (qb84 _ _ hs_y64))) (by decide)).trans ((hg503 b37 13 0 14 (qS88 _ _ (qb84 _ _ hs_y64)) (by decide)).trans el139)) ((hg512 b37 13 0 12 (qr502 _ _ (qS88 _ _ (qb84 _ _ hs_y64))) (by decide)).trans ((hg503 b37 13 0 12 (qS88 _ _ (qb84 _ _ hs_y64)) (by decide)).trans el149)) ((hg512 b33 10 0 1 (qr502 _ _ (qS88 _ _ (qb84 _ _ hk72))) (by decide)).trans k508) k515 ((hg512 b1 12 0 12 (qr502 _ _ (qS88 _ _ (qb84 _ _ hk66))) (by decide)).trans ((hg503 b1 12 0 12 (qS88 _ _ (qb84 _ _ hk66)) (by decide)).trans ext9)) ((hg512 b37 13 0 3 (qr502 _ _ (qS88 _ _ (qb84 _ _ hs_y64))) (by decide)).trans ((hg503 b37 13 0 3 (qS88 _ _ (qb84 _ _ hs_y64)) (by decide)).trans emt9)) ((hg512 b34 5 0 3 (qr502 _ _ (qS88 _ _ (qb84 _ _ hk73))) (by decide)).trans ((hg503 b34 5 0 3 (qS88 _ _ (qb84 _ _ hk73)) (by decide)).trans exc9)) ((hg512 b37 13 0 69 (qr502 _ _ (qS88 _ _ (qb84 _ _ hs_y64))) (by decide)).trans ((hg503 b37 13 0 69 (qS88 _ _ (qb84 _ _ hs_y64)) (by decide)).trans emc9)) ((hg512 b36 0 0 2 (qr502 _ _ (qS88 _ _ (qb84 _ _ hk75))) (by decide)).trans ((hg503 b36 0 0 2 (qS88 _ _ (qb84 _ _ hk75)) (by decide)).trans exb9)) ((hg512 b37 13 0 16 (qr502 _ _ (qS88 _ _ (qb84 _ _ hs_y64))) (by decide)).trans ((hg503 b37 13 0 16 (qS88 _ _ (qb84 _ _ hs_y64)) (by decide)).trans emb9)) ((hg512 b1 12 0 16 (qr502 _ _ (qS88 _ _ (qb84 _ _ hk66))) (by decide)).trans ((hg503 b1 12 0 16 (qS88 _ _ (qb84 _ _ hk66)) (by decide)).trans exsh9)) ((hg512 b37 13 0 89 (qr502 _ _ (qS88 _ _ (qb84 _ _ hs_y64))) (by decide)).trans ((hg503 b37 13 0 89 (qS88 _ _ (qb84 _ _ hs_y64)) (by decide)).trans emsh9)) ((hg512 b1 12 0 17 (qr502 _ _ (qS88 _ _ (qb84 _ _ hk66))) (by decide)).trans ((hg503 b1 12 0 17 (qS88 _ _ (qb84 _ _ hk66)) (by decide)).trans exsp9)) ((hg512 b37 13 0 90 (qr502 _ _ (qS88 _ _ (qb84 _ _ hs_y64))) (by decide)).trans ((hg503 b37 13 0 90 (qS88 _ _ (qb84 _ _ hs_y64)) (by decide)).trans emsp9)) ((hg512 b37 13 0 17 (qr502 _ _ (qS88 _ _ (qb84 _ _ hs_y64))) (by decide)).trans ((hg503 b37 13 0 17 (qS88 _ _ (qb84 _ _ hs_y64)) (by decide)).trans emsm9)) (xWn.m (xWn.m wn9 (qS88 _ _ (qb84 _ _ hk71)) (qS88 _ _ (qb84 _ _ hk78)) hg503 qr502 (by decide)) (qr502 _ _ (qS88 _ _ (qb84 _ _ hk71))) (qr502 _ _ (qS88 _ _ (qb84 _ _ hk78))) hg512 xLe.rf (by decide)) (by rw [(Eq.trans (xv_m hg512 (qr502 _ _ (qS88 _ _ (qb84 _ _ hk69))) (by decide) (by decide)) (xv_m hg503 (qS88 _ _ (qb84 _ _ hk69)) (by decide) (by decide))), (Eq.trans (xv_m hg512 (qr502 _ _ (qS88 _ _ (qb84 _ _ hk76))) (by decide) (by decide)) (xv_m hg503 (qS88 _ _ (qb84 _ _ hk76)) (by decide) (by decide)))]; exact wt9) (by rw [(Eq.trans (xv_m hg512 (qr502 _ _ (qS88 _ _ (qb84 _ _ hk70))) (by decide) (by decide)) (xv_m hg503 (qS88 _ _ (qb84 _ _ hk70)) (by decide) (by decide))), (Eq.trans (xv_m hg512 (qr502 _ _ (qS88 _ _ (qb84 _ _ hk77))) (by decide) (by decide)) (xv_m hg503 (qS88 _ _ (qb84 _ _ hk77)) (by decide) (by decide)))]; exact ld9) (by rw [(Eq.trans (xv_m hg512 (qr502 _ _ (qS88 _ _ (qb84 _ _ hk68))) (by decide) (by decide)) (xv_m hg503 (qS88 _ _ (qb84 _ _ hk68)) (by decide) (by decide))), (Eq.trans (xv_m hg512 (qr502 _ _ (qS88 _ _ (qb84 _ _ hs_b83))) (by decide) (by decide)) (xv_m hg503 (qS88 _ _ (qb84 _ _ hs_b83)) (by decide) (by decide)))]; exact sk9) (by rw [(Eq.trans (xv_m hg512 (qr502 _ _ (qS88 _ _ (qb84 _ _ hs_b81))) (by decide) (by decide)) (xv_m hg503 (qS88 _ _ (qb84 _ _ hs_b81)) (by decide) (by decide))), (Eq.trans (xv_m hg512 (qr502 _ _ (qS88 _ _ (qb84 _ _ hs_b82))) (by decide) (by decide)) (xv_m hg503 (qS88 _ _ (qb84 _ _ hs_b82)) (by decide) (by decide)))]; exact xTc.mono tc9 (by omega)) (dc9 + dcr502) (ds9 + dsr502) (by omega) (by omega) (by omega)
        · refine X_tableIn hK 1317 31 (by decide) c93 (by decide) (by decide) dL_law_40 rfl (by decide) ?_
          refine X_aloadn hK (i := 1) 3 dL_law_1317 rfl rfl ?_
          refine X_aloadn hK (i := 0) 4 dL_law_1318 rfl rfl ?_
          refine X_iload hK (i := 4) 0 dL_law_1319 rfl ?_
          refine X_iconst hK dL_law_1321 ?_
          refine X_iadd hK dL_law_1322 ?_
          refine X_scr hK hX hbl hbA hL (by omega) (by omega) dL_law_1323 (fun z516 ez516 lz516 uz516 => ?_)
          refine X_callV hK [.int (iI z516)] [] lk_L_159 (c_X11_truckAt _ _ _ _ _ S88 g89 b1 z516 (qS88 _ _ (qb84 _ _ hk66)) (by omega)) (qS88 _ _ (qb84 _ _ hk66)) ⟨by decide, rfl⟩ dL_law_1324 rfl rfl (by simp [Value.category]) (by decide) (by omega) (by omega) (by decide) (fun r517 S519 g518 pr517 qr517 hg518 => ?_)
          obtain ⟨rfl, rfl, z520, rfl, lz520, uz520⟩ := pr517
          refine X_st [.int (iI z520)] rfl ?_
          refine X_pop hK dL_law_1327 rfl ?_
          refine X_aloadn hK (i := 2) 2 dL_law_1328 rfl rfl ?_
          refine X_aloadn hK (i := 0) 4 dL_law_1329 rfl rfl ?_
          refine X_iload hK (i := 4) 0 dL_law_1330 rfl ?_
          refine X_iconst hK dL_law_1332 ?_
          refine X_iadd hK dL_law_1333 ?_
          refine X_scrK hK hX hbl hbA hL (by omega) (by omega) ez516 dL_law_1334 ?_
          refine X_callV hK [.int (iI z516)] [] lk_L_162 (c_X12_truckAt _ _ _ _ _ S88 g89 b37 z516 (qS88 _ _ (qb84 _ _ hs_y64)) (by omega)) (qS88 _ _ (qb84 _ _ hs_y64)) ⟨by decide, rfl⟩ dL_law_1335 rfl rfl (by simp [Value.category]) (by decide) (by omega) (by omega) (by decide) (fun r521 S523 g522 pr521 qr521 hg522 => ?_)
          obtain ⟨rfl, z524, rfl, lz524, uz524⟩ := pr521
          refine X_st [.int (iI z524)] rfl ?_
          refine X_pop hK dL_law_1338 rfl ?_
          refine X_goto hK 1465 dL_law_1339 (by decide) ?_
          refine X_iinc hK (i := 4) (z := i9) (n := 6) 0 [(4, .int (iI (i9 + 6))), (3, .ref b84), (2, .ref b37), (1, .ref b1), (0, .ref b)] dL_law_1465 rfl (by decide) rfl ?_
          refine X_goto hK 23 dL_law_1468 (by decide) ?_
          exact ih9 S88 qS88 g522 (i9 + 6) k9 t9 c9 b9 sh9 sp9 sm9 (by omega) (by omega) (by omega) (by omega) (by omega) (by omega) (by omega) (by omega) (xLs_mod al9 hg522 (by decide)) si9 (xPi_m pi9 hg522 xLe.rf (by decide)) (xMp_m mp9 hg522 xLe.rf (by decide)) (xTw_m tw9 hg522 xLe.rf (by decide)) (xPw_m pw9 hg522 xLe.rf (by decide)) ((hg522 b1 12 0 0 (qS88 _ _ (qb84 _ _ hk66)) (by decide)).trans el09) ((hg522 b1 12 0 3 (qS88 _ _ (qb84 _ _ hk66)) (by decide)).trans el19) ((hg522 b1 12 0 1 (qS88 _ _ (qb84 _ _ hk66)) (by decide)).trans el29) ((hg522 b35 6 0 1 (qS88 _ _ (qb84 _ _ hk74)) (by decide)).trans el39) ((hg522 b1 12 0 2 (qS88 _ _ (qb84 _ _ hk66)) (by decide)).trans el49) ((hg522 b19 4 0 0 (qS88 _ _ (qb84 _ _ hk67)) (by decide)).trans el59) ((hg522 b19 4 0 2 (qS88 _ _ (qb84 _ _ hk67)) (by decide)).trans el69) ((hg522 b19 4 0 3 (qS88 _ _ (qb84 _ _ hk67)) (by decide)).trans el79) ((hg522 b19 4 0 4 (qS88 _ _ (qb84 _ _ hk67)) (by decide)).trans el89) ((hg522 b33 10 0 0 (qS88 _ _ (qb84 _ _ hk72)) (by decide)).trans el99) ((hg522 b37 13 0 1 (qS88 _ _ (qb84 _ _ hs_y64)) (by decide)).trans el109) ((hg522 b37 13 0 10 (qS88 _ _ (qb84 _ _ hs_y64)) (by decide)).trans el119) ((hg522 b37 13 0 13 (qS88 _ _ (qb84 _ _ hs_y64)) (by decide)).trans el129) ((hg522 b37 13 0 14 (qS88 _ _ (qb84 _ _ hs_y64)) (by decide)).trans el139) ((hg522 b37 13 0 12 (qS88 _ _ (qb84 _ _ hs_y64)) (by decide)).trans el149) ((hg522 b33 10 0 1 (qS88 _ _ (qb84 _ _ hk72)) (by decide)).trans exk9) ((hg522 b37 13 0 2 (qS88 _ _ (qb84 _ _ hs_y64)) (by decide)).trans emk9) ((hg522 b1 12 0 12 (qS88 _ _ (qb84 _ _ hk66)) (by decide)).trans ext9) ((hg522 b37 13 0 3 (qS88 _ _ (qb84 _ _ hs_y64)) (by decide)).trans emt9) ((hg522 b34 5 0 3 (qS88 _ _ (qb84 _ _ hk73)) (by decide)).trans exc9) ((hg522 b37 13 0 69 (qS88 _ _ (qb84 _ _ hs_y64)) (by decide)).trans emc9) ((hg522 b36 0 0 2 (qS88 _ _ (qb84 _ _ hk75)) (by decide)).trans exb9) ((hg522 b37 13 0 16 (qS88 _ _ (qb84 _ _ hs_y64)) (by decide)).trans emb9) ((hg522 b1 12 0 16 (qS88 _ _ (qb84 _ _ hk66)) (by decide)).trans exsh9) ((hg522 b37 13 0 89 (qS88 _ _ (qb84 _ _ hs_y64)) (by decide)).trans emsh9) ((hg522 b1 12 0 17 (qS88 _ _ (qb84 _ _ hk66)) (by decide)).trans exsp9) ((hg522 b37 13 0 90 (qS88 _ _ (qb84 _ _ hs_y64)) (by decide)).trans emsp9) ((hg522 b37 13 0 17 (qS88 _ _ (qb84 _ _ hs_y64)) (by decide)).trans emsm9) (xWn.m wn9 (qS88 _ _ (qb84 _ _ hk71)) (qS88 _ _ (qb84 _ _ hk78)) hg522 xLe.rf (by decide)) (by rw [(xv_m hg522 (qS88 _ _ (qb84 _ _ hk69)) (by decide) (by decide)), (xv_m hg522 (qS88 _ _ (qb84 _ _ hk76)) (by decide) (by decide))]; exact wt9) (by rw [(xv_m hg522 (qS88 _ _ (qb84 _ _ hk70)) (by decide) (by decide)), (xv_m hg522 (qS88 _ _ (qb84 _ _ hk77)) (by decide) (by decide))]; exact ld9) (by rw [(xv_m hg522 (qS88 _ _ (qb84 _ _ hk68)) (by decide) (by decide)), (xv_m hg522 (qS88 _ _ (qb84 _ _ hs_b83)) (by decide) (by decide))]; exact sk9) (by rw [(xv_m hg522 (qS88 _ _ (qb84 _ _ hs_b81)) (by decide) (by decide)), (xv_m hg522 (qS88 _ _ (qb84 _ _ hs_b82)) (by decide) (by decide))]; exact xTc.mono tc9 (by omega)) dc9 ds9 (by omega) (by omega) (by omega)
        · refine X_tableIn hK 1342 32 (by decide) c93 (by decide) (by decide) dL_law_40 rfl (by decide) ?_
          refine X_aloadn hK (i := 1) 3 dL_law_1342 rfl rfl ?_
          refine X_aloadn hK (i := 0) 4 dL_law_1343 rfl rfl ?_
          refine X_iload hK (i := 4) 0 dL_law_1344 rfl ?_
          refine X_iconst hK dL_law_1346 ?_
          refine X_iadd hK dL_law_1347 ?_
          refine X_scr hK hX hbl hbA hL (by omega) (by omega) dL_law_1348 (fun z525 ez525 lz525 uz525 => ?_)
          refine X_aloadn hK (i := 0) 4 dL_law_1349 rfl rfl ?_
          refine X_iload hK (i := 4) 0 dL_law_1350 rfl ?_
          refine X_iconst hK dL_law_1352 ?_
          refine X_iadd hK dL_law_1353 ?_
          refine X_scr hK hX hbl hbA hL (by omega) (by omega) dL_law_1354 (fun z526 ez526 lz526 uz526 => ?_)
          refine X_aloadn hK (i := 0) 4 dL_law_1355 rfl rfl ?_
          refine X_iload hK (i := 4) 0 dL_law_1356 rfl ?_
          refine X_iconst hK dL_law_1358 ?_
          refine X_iadd hK dL_law_1359 ?_
          refine X_scr hK hX hbl hbA hL (by omega) (by omega) dL_law_1360 (fun z527 ez527 lz527 uz527 => ?_)
          refine X_aloadn hK (i := 0) 4 dL_law_1361 rfl rfl ?_
          refine X_iload hK (i := 4) 0 dL_law_1362 rfl ?_
          refine X_iconst hK dL_law_1364 ?_
          refine X_iadd hK dL_law_1365 ?_
          refine X_scr hK hX hbl hbA hL (by omega) (by omega) dL_law_1366 (fun z528 ez528 lz528 uz528 => ?_)
          refine X_aloadn hK (i := 0) 4 dL_law_1367 rfl rfl ?_
          refine X_iload hK (i := 4) 0 dL_law_1368 rfl ?_
          refine X_iconst hK dL_law_1370 ?_
          refine X_iadd hK dL_law_1371 ?_
          refine X_scr hK hX hbl hbA hL (by omega) (by omega) dL_law_1372 (fun z529 ez529 lz529 uz529 => ?_)
          refine X_callV hK [.int (iI z525), .int (iI z526), .int (iI z527), .int (iI z528), .int (iI z529)] [] lk_L_163 (c_X11_strike _ _ _ _ _ S88 g89 b1 z525 z526 z527 z528 z529 b33 k9 b81 sh9 sp9 (qS88 _ _ (qb84 _ _ hk66)) (by omega) (by omega) (by omega) (by omega) (by omega) el09 (qS88 _ _ (qb84 _ _ hk72)) (by omega) exk9 el99 (qS88 _ _ (qb84 _ _ hs_b81)) (by omega) exsh9 (by omega) exsp9) (qS88 _ _ (qb84 _ _ hk66)) ⟨by decide, rfl⟩ dL_law_1373 rfl rfl (by simp [Value.category]) (by decide) (by omega) (by omega) (by decide) (fun r530 S532 g531 pr530 qr530 hg531 => ?_)
          obtain ⟨rfl, z533, rfl, lz533, uz533, k534, k535⟩ := pr530
          refine X_st [.int (iI z533)] rfl ?_
          obtain ⟨z536, z537, ez536, ez537, rz536, rz537, kz536⟩ := k535
          refine X_pop hK dL_law_1376 rfl ?_
          refine X_aloadn hK (i := 2) 2 dL_law_1377 rfl rfl ?_
          refine X_aloadn hK (i := 0) 4 dL_law_1378 rfl rfl ?_
          refine X_iload hK (i := 4) 0 dL_law_1379 rfl ?_
          refine X_iconst hK dL_law_1381 ?_
          refine X_iadd hK dL_law_1382 ?_
          refine X_scrK hK hX hbl hbA hL (by omega) (by omega) ez525 dL_law_1383 ?_
          refine X_aloadn hK (i := 0) 4 dL_law_1384 rfl rfl ?_
          refine X_iload hK (i := 4) 0 dL_law_1385 rfl ?_
          refine X_iconst hK dL_law_1387 ?_
          refine X_iadd hK dL_law_1388 ?_
          refine X_scrK hK hX hbl hbA hL (by omega) (by omega) ez526 dL_law_1389 ?_
          refine X_aloadn hK (i := 0) 4 dL_law_1390 rfl rfl ?_
          refine X_iload hK (i := 4) 0 dL_law_1391 rfl ?_
          refine X_iconst hK dL_law_1393 ?_
          refine X_iadd hK dL_law_1394 ?_
          refine X_scrK hK hX hbl hbA hL (by omega) (by omega) ez527 dL_law_1395 ?_
          refine X_aloadn hK (i := 0) 4 dL_law_1396 rfl rfl ?_
          refine X_iload hK (i := 4) 0 dL_law_1397 rfl ?_
          refine X_iconst hK dL_law_1399 ?_
          refine X_iadd hK dL_law_1400 ?_
          refine X_scrK hK hX hbl hbA hL (by omega) (by omega) ez528 dL_law_1401 ?_
          refine X_aloadn hK (i := 0) 4 dL_law_1402 rfl rfl ?_
          refine X_iload hK (i := 4) 0 dL_law_1403 rfl ?_
          refine X_iconst hK dL_law_1405 ?_
          refine X_iadd hK dL_law_1406 ?_
          refine X_scrK hK hX hbl hbA hL (by omega) (by omega) ez529 dL_law_1407 ?_
          refine X_callV hK [.int (iI z525), .int (iI z526), .int (iI z527), .int (iI z528), .int (iI z529)] [] lk_L_166 (c3_strike _ _ _ _ _ S88 g531 b37 z525 z526 z527 z528 z529 k9 b82 sh9 sp9 (qS88 _ _ (qb84 _ _ hs_y64)) (by omega) (by omega) (by omega) (by omega) (by omega) (by omega) ((hg531 b37 13 0 2 (qS88 _ _ (qb84 _ _ hs_y64)) (by decide)).trans emk9) ((hg531 b37 13 0 1 (qS88 _ _ (qb84 _ _ hs_y64)) (by decide)).trans el109) (qS88 _ _ (qb84 _ _ hs_b82)) (by omega) ((hg531 b37 13 0 89 (qS88 _ _ (qb84 _ _ hs_y64)) (by decide)).trans emsh9) (by omega) ((hg531 b37 13 0 90 (qS88 _ _ (qb84 _ _ hs_y64)) (by decide)).trans emsp9)) (qS88 _ _ (qb84 _ _ hs_y64)) ⟨by decide, rfl⟩ dL_law_1408 rfl rfl (by simp [Value.category]) (by decide) (by omega) (by omega) (by decide) (fun r538 S540 g539 pr538 qr538 hg539 => ?_)
          obtain ⟨rfl, z541, rfl, lz541, uz541, k542, k543⟩ := pr538
          refine X_st [.int (iI z541)] rfl ?_
          obtain ⟨z544, z545, ez544, ez545, rz544, rz545, kz544⟩ := k543
          obtain ⟨hq9, hhz544, hhz545⟩ := xSkr.det (by rw [(xv_m hg531 (qS88 _ _ (qb84 _ _ hs_b82)) (by decide) (by decide))]; exact tc9) kz536 kz544
          refine X_pop hK dL_law_1411 rfl ?_
          refine X_goto hK 1465 dL_law_1412 (by decide) ?_
          refine X_iinc hK (i := 4) (z := i9) (n := 6) 0 [(4, .int (iI (i9 + 6))), (3, .ref b84), (2, .ref b37), (1, .ref b1), (0, .ref b)] dL_law_1465 rfl (by decide) rfl ?_
          refine X_goto hK 23 dL_law_1468 (by decide) ?_
          exact ih9 S88 qS88 g539 (i9 + 6) (0) t9 c9 b9 z536 z537 sm9 (by omega) (by omega) (by omega) (by omega) (by omega) (by omega) (by omega) (by omega) (xLs_mod (xLs_mod al9 hg531 (by decide)) hg539 (by decide)) si9 (xPi_m (xPi_m pi9 hg531 xLe.rf (by decide)) hg539 xLe.rf (by decide)) (xMp_m (xMp_m mp9 hg531 xLe.rf (by decide)) hg539 xLe.rf (by decide)) (xTw_m (xTw_m tw9 hg531 xLe.rf (by decide)) hg539 xLe.rf (by decide)) (xPw_m (xPw_m pw9 hg531 xLe.rf (by decide)) hg539 xLe.rf (by decide)) ((hg539 b1 12 0 0 (qS88 _ _ (qb84 _ _ hk66)) (by decide)).trans ((hg531 b1 12 0 0 (qS88 _ _ (qb84 _ _ hk66)) (by decide)).trans el09)) ((hg539 b1 12 0 3 (qS88 _ _ (qb84 _ _ hk66)) (by decide)).trans ((hg531 b1 12 0 3 (qS88 _ _ (qb84 _ _ hk66)) (by decide)).trans el19)) ((hg539 b1 12 0 1 (qS88 _ _ (qb84 _ _ hk66)) (by decide)).trans ((hg531 b1 12 0 1 (qS88 _ _ (qb84 _ _ hk66)) (by decide)).trans el29)) ((hg539 b35 6 0 1 (qS88 _ _ (qb84 _ _ hk74)) (by decide)).trans ((hg531 b35 6 0 1 (qS88 _ _ (qb84 _ _ hk74)) (by decide)).trans el39)) ((hg539 b1 12 0 2 (qS88 _ _ (qb84 _ _ hk66)) (by decide)).trans ((hg531 b1 12 0 2 (qS88 _ _ (qb84 _ _ hk66)) (by decide)).trans el49)) ((hg539 b19 4 0 0 (qS88 _ _ (qb84 _ _ hk67)) (by decide)).trans ((hg531 b19 4 0 0 (qS88 _ _ (qb84 _ _ hk67)) (by decide)).trans el59)) ((hg539 b19 4 0 2 (qS88 _ _ (qb84 _ _ hk67)) (by decide)).trans ((hg531 b19 4 0 2 (qS88 _ _ (qb84 _ _ hk67)) (by decide)).trans el69)) ((hg539 b19 4 0 3 (qS88 _ _ (qb84 _ _ hk67)) (by decide)).trans ((hg531 b19 4 0 3 (qS88 _ _ (qb84 _ _ hk67)) (by decide)).trans el79)) ((hg539 b19 4 0 4 (qS88 _ _ (qb84 _ _ hk67)) (by decide)).trans ((hg531 b19 4 0 4 (qS88 _ _ (qb84 _ _ hk67)) (by decide)).trans el89)) ((hg539 b33 10 0 0 (qS88 _ _ (qb84 _ _ hk72)) (by decide)).trans ((hg531 b33 10 0 0 (qS88 _ _ (qb84 _ _ hk72)) (by decide)).trans el99)) ((hg539 b37 13 0 1 (qS88 _ _ (qb84 _ _ hs_y64)) (by decide)).trans ((hg531 b37 13 0 1 (qS88 _ _ (qb84 _ _ hs_y64)) (by decide)).trans el109)) ((hg539 b37 13 0 10 (qS88 _ _ (qb84 _ _ hs_y64)) (by decide)).trans ((hg531 b37 13 0 10 (qS88 _ _ (qb84 _ _ hs_y64)) (by decide)).trans el119)) ((hg539 b37 13 0 13 (qS88 _ _ (qb84 _ _ hs_y64)) (by decide)).trans ((hg531 b37 13 0 13 (qS88 _ _ (qb84 _ _ hs_y64)) (by decide)).trans el129)) ((hg539 b37 13 0 14 (qS88 _ _ (qb84 _ _ hs_y64)) (by decide)).trans ((hg531 b37 13 0 14 (qS88 _ _ (qb84 _ _ hs_y64)) (by decide)).trans el139)) ((hg539 b37 13 0 12 (qS88 _ _ (qb84 _ _ hs_y64)) (by decide)).trans ((hg531 b37 13 0 12 (qS88 _ _ (qb84 _ _ hs_y64)) (by decide)).trans el149)) ((hg539 b33 10 0 1 (qS88 _ _ (qb84 _ _ hk72)) (by decide)).trans k534) k542 ((hg539 b1 12 0 12 (qS88 _ _ (qb84 _ _ hk66)) (by decide)).trans ((hg531 b1 12 0 12 (qS88 _ _ (qb84 _ _ hk66)) (by decide)).trans ext9)) ((hg539 b37 13 0 3 (qS88 _ _ (qb84 _ _ hs_y64)) (by decide)).trans ((hg531 b37 13 0 3 (qS88 _ _ (qb84 _ _ hs_y64)) (by decide)).trans emt9)) ((hg539 b34 5 0 3 (qS88 _ _ (qb84 _ _ hk73)) (by decide)).trans ((hg531 b34 5 0 3 (qS88 _ _ (qb84 _ _ hk73)) (by decide)).trans exc9)) ((hg539 b37 13 0 69 (qS88 _ _ (qb84 _ _ hs_y64)) (by decide)).trans ((hg531 b37 13 0 69 (qS88 _ _ (qb84 _ _ hs_y64)) (by decide)).trans emc9)) ((hg539 b36 0 0 2 (qS88 _ _ (qb84 _ _ hk75)) (by decide)).trans ((hg531 b36 0 0 2 (qS88 _ _ (qb84 _ _ hk75)) (by decide)).trans exb9)) ((hg539 b37 13 0 16 (qS88 _ _ (qb84 _ _ hs_y64)) (by decide)).trans ((hg531 b37 13 0 16 (qS88 _ _ (qb84 _ _ hs_y64)) (by decide)).trans emb9)) ((hg539 b1 12 0 16 (qS88 _ _ (qb84 _ _ hk66)) (by decide)).trans ez536) (ez544.trans (by rw [hhz544])) ((hg539 b1 12 0 17 (qS88 _ _ (qb84 _ _ hk66)) (by decide)).trans ez537) (ez545.trans (by rw [hhz545])) ((hg539 b37 13 0 17 (qS88 _ _ (qb84 _ _ hs_y64)) (by decide)).trans ((hg531 b37 13 0 17 (qS88 _ _ (qb84 _ _ hs_y64)) (by decide)).trans emsm9)) (xWn.m (xWn.m wn9 (qS88 _ _ (qb84 _ _ hk71)) (qS88 _ _ (qb84 _ _ hk78)) hg531 xLe.rf (by decide)) (qS88 _ _ (qb84 _ _ hk71)) (qS88 _ _ (qb84 _ _ hk78)) hg539 xLe.rf (by decide)) (by rw [(Eq.trans (xv_m hg539 (qS88 _ _ (qb84 _ _ hk69)) (by decide) (by decide)) (xv_m hg531 (qS88 _ _ (qb84 _ _ hk69)) (by decide) (by decide))), (Eq.trans (xv_m hg539 (qS88 _ _ (qb84 _ _ hk76)) (by decide) (by decide)) (xv_m hg531 (qS88 _ _ (qb84 _ _ hk76)) (by decide) (by decide)))]; exact wt9) (by rw [(Eq.trans (xv_m hg539 (qS88 _ _ (qb84 _ _ hk70)) (by decide) (by decide)) (xv_m hg531 (qS88 _ _ (qb84 _ _ hk70)) (by decide) (by decide))), (Eq.trans (xv_m hg539 (qS88 _ _ (qb84 _ _ hk77)) (by decide) (by decide)) (xv_m hg531 (qS88 _ _ (qb84 _ _ hk77)) (by decide) (by decide)))]; exact ld9) (by rw [(Eq.trans (xv_m hg539 (qS88 _ _ (qb84 _ _ hk68)) (by decide) (by decide)) (xv_m hg531 (qS88 _ _ (qb84 _ _ hk68)) (by decide) (by decide))), (Eq.trans (xv_m hg539 (qS88 _ _ (qb84 _ _ hs_b83)) (by decide) (by decide)) (xv_m hg531 (qS88 _ _ (qb84 _ _ hs_b83)) (by decide) (by decide)))]; exact sk9) (by rw [(Eq.trans (xv_m hg539 (qS88 _ _ (qb84 _ _ hs_b81)) (by decide) (by decide)) (xv_m hg531 (qS88 _ _ (qb84 _ _ hs_b81)) (by decide) (by decide))), (Eq.trans (xv_m hg539 (qS88 _ _ (qb84 _ _ hs_b82)) (by decide) (by decide)) (xv_m hg531 (qS88 _ _ (qb84 _ _ hs_b82)) (by decide) (by decide)))]; exact xTc.mono tc9 (by omega)) dc9 ds9 (by omega) (by omega) (by omega)
        · refine X_tableIn hK 1415 33 (by decide) c93 (by decide) (by decide) dL_law_40 rfl (by decide) ?_
          refine X_aloadn hK (i := 1) 3 dL_law_1415 rfl rfl ?_
          refine X_aloadn hK (i := 0) 4 dL_law_1416 rfl rfl ?_
          refine X_iload hK (i := 4) 0 dL_law_1417 rfl ?_
          refine X_iconst hK dL_law_1419 ?_
          refine X_iadd hK dL_law_1420 ?_
          refine X_scr hK hX hbl hbA hL (by omega) (by omega) dL_law_1421 (fun z546 ez546 lz546 uz546 => ?_)
          refine X_callV hK [.int (iI z546)] [] lk_L_167 (c_X11_struck _ _ _ _ _ S88 g89 b1 z546 sh9 sp9 (qS88 _ _ (qb84 _ _ hk66)) (by omega) (by omega) exsh9 (by omega) exsp9) (qS88 _ _ (qb84 _ _ hk66)) ⟨by decide, rfl⟩ dL_law_1422 rfl rfl (by simp [Value.category]) (by decide) (by omega) (by omega) (by decide) (fun r547 S549 g548 pr547 qr547 hg548 => ?_)
          obtain ⟨rfl, rfl, z550, rfl, lz550, uz550, k551⟩ := pr547
          refine X_st [.int (iI z550)] rfl ?_
          refine X_pop hK dL_law_1425 rfl ?_
          refine X_aloadn hK (i := 2) 2 dL_law_1426 rfl rfl ?_
          refine X_aloadn hK (i := 0) 4 dL_law_1427 rfl rfl ?_
          refine X_iload hK (i := 4) 0 dL_law_1428 rfl ?_
          refine X_iconst hK dL_law_1430 ?_
          refine X_iadd hK dL_law_1431 ?_
          refine X_scrK hK hX hbl hbA hL (by omega) (by omega) ez546 dL_law_1432 ?_
          refine X_callV hK [.int (iI z546)] [] lk_L_170 (c_X12_struck _ _ _ _ _ S88 g89 b37 z546 sh9 sp9 (qS88 _ _ (qb84 _ _ hs_y64)) (by omega) (by omega) emsh9 (by omega) emsp9) (qS88 _ _ (qb84 _ _ hs_y64)) ⟨by decide, rfl⟩ dL_law_1433 rfl rfl (by simp [Value.category]) (by decide) (by omega) (by omega) (by decide) (fun r552 S554 g553 pr552 qr552 hg553 => ?_)
          obtain ⟨rfl, z555, rfl, lz555, uz555, k556⟩ := pr552
          refine X_st [.int (iI z555)] rfl ?_
          refine X_pop hK dL_law_1436 rfl ?_
          refine X_goto hK 1465 dL_law_1437 (by decide) ?_
          refine X_iinc hK (i := 4) (z := i9) (n := 6) 0 [(4, .int (iI (i9 + 6))), (3, .ref b84), (2, .ref b37), (1, .ref b1), (0, .ref b)] dL_law_1465 rfl (by decide) rfl ?_
          refine X_goto hK 23 dL_law_1468 (by decide) ?_
          exact ih9 S88 qS88 g553 (i9 + 6) k9 t9 c9 b9 sh9 sp9 sm9 (by omega) (by omega) (by omega) (by omega) (by omega) (by omega) (by omega) (by omega) (xLs_mod al9 hg553 (by decide)) si9 (xPi_m pi9 hg553 xLe.rf (by decide)) (xMp_m mp9 hg553 xLe.rf (by decide)) (xTw_m tw9 hg553 xLe.rf (by decide)) (xPw_m pw9 hg553 xLe.rf (by decide)) ((hg553 b1 12 0 0 (qS88 _ _ (qb84 _ _ hk66)) (by decide)).trans el09) ((hg553 b1 12 0 3 (qS88 _ _ (qb84 _ _ hk66)) (by decide)).trans el19) ((hg553 b1 12 0 1 (qS88 _ _ (qb84 _ _ hk66)) (by decide)).trans el29) ((hg553 b35 6 0 1 (qS88 _ _ (qb84 _ _ hk74)) (by decide)).trans el39) ((hg553 b1 12 0 2 (qS88 _ _ (qb84 _ _ hk66)) (by decide)).trans el49) ((hg553 b19 4 0 0 (qS88 _ _ (qb84 _ _ hk67)) (by decide)).trans el59) ((hg553 b19 4 0 2 (qS88 _ _ (qb84 _ _ hk67)) (by decide)).trans el69) ((hg553 b19 4 0 3 (qS88 _ _ (qb84 _ _ hk67)) (by decide)).trans el79) ((hg553 b19 4 0 4 (qS88 _ _ (qb84 _ _ hk67)) (by decide)).trans el89) ((hg553 b33 10 0 0 (qS88 _ _ (qb84 _ _ hk72)) (by decide)).trans el99) ((hg553 b37 13 0 1 (qS88 _ _ (qb84 _ _ hs_y64)) (by decide)).trans el109) ((hg553 b37 13 0 10 (qS88 _ _ (qb84 _ _ hs_y64)) (by decide)).trans el119) ((hg553 b37 13 0 13 (qS88 _ _ (qb84 _ _ hs_y64)) (by decide)).trans el129) ((hg553 b37 13 0 14 (qS88 _ _ (qb84 _ _ hs_y64)) (by decide)).trans el139) ((hg553 b37 13 0 12 (qS88 _ _ (qb84 _ _ hs_y64)) (by decide)).trans el149) ((hg553 b33 10 0 1 (qS88 _ _ (qb84 _ _ hk72)) (by decide)).trans exk9) ((hg553 b37 13 0 2 (qS88 _ _ (qb84 _ _ hs_y64)) (by decide)).trans emk9) ((hg553 b1 12 0 12 (qS88 _ _ (qb84 _ _ hk66)) (by decide)).trans ext9) ((hg553 b37 13 0 3 (qS88 _ _ (qb84 _ _ hs_y64)) (by decide)).trans emt9) ((hg553 b34 5 0 3 (qS88 _ _ (qb84 _ _ hk73)) (by decide)).trans exc9) ((hg553 b37 13 0 69 (qS88 _ _ (qb84 _ _ hs_y64)) (by decide)).trans emc9) ((hg553 b36 0 0 2 (qS88 _ _ (qb84 _ _ hk75)) (by decide)).trans exb9) ((hg553 b37 13 0 16 (qS88 _ _ (qb84 _ _ hs_y64)) (by decide)).trans emb9) ((hg553 b1 12 0 16 (qS88 _ _ (qb84 _ _ hk66)) (by decide)).trans exsh9) ((hg553 b37 13 0 89 (qS88 _ _ (qb84 _ _ hs_y64)) (by decide)).trans emsh9) ((hg553 b1 12 0 17 (qS88 _ _ (qb84 _ _ hk66)) (by decide)).trans exsp9) ((hg553 b37 13 0 90 (qS88 _ _ (qb84 _ _ hs_y64)) (by decide)).trans emsp9) ((hg553 b37 13 0 17 (qS88 _ _ (qb84 _ _ hs_y64)) (by decide)).trans emsm9) (xWn.m wn9 (qS88 _ _ (qb84 _ _ hk71)) (qS88 _ _ (qb84 _ _ hk78)) hg553 xLe.rf (by decide)) (by rw [(xv_m hg553 (qS88 _ _ (qb84 _ _ hk69)) (by decide) (by decide)), (xv_m hg553 (qS88 _ _ (qb84 _ _ hk76)) (by decide) (by decide))]; exact wt9) (by rw [(xv_m hg553 (qS88 _ _ (qb84 _ _ hk70)) (by decide) (by decide)), (xv_m hg553 (qS88 _ _ (qb84 _ _ hk77)) (by decide) (by decide))]; exact ld9) (by rw [(xv_m hg553 (qS88 _ _ (qb84 _ _ hk68)) (by decide) (by decide)), (xv_m hg553 (qS88 _ _ (qb84 _ _ hs_b83)) (by decide) (by decide))]; exact sk9) (by rw [(xv_m hg553 (qS88 _ _ (qb84 _ _ hs_b81)) (by decide) (by decide)), (xv_m hg553 (qS88 _ _ (qb84 _ _ hs_b82)) (by decide) (by decide))]; exact xTc.mono tc9 (by omega)) dc9 ds9 (by omega) (by omega) (by omega)
        · refine X_tableIn hK 1440 34 (by decide) c93 (by decide) (by decide) dL_law_40 rfl (by decide) ?_
          refine X_aloadn hK (i := 1) 3 dL_law_1440 rfl rfl ?_
          refine X_aloadn hK (i := 0) 4 dL_law_1441 rfl rfl ?_
          refine X_iload hK (i := 4) 0 dL_law_1442 rfl ?_
          refine X_iconst hK dL_law_1444 ?_
          refine X_iadd hK dL_law_1445 ?_
          refine X_scr hK hX hbl hbA hL (by omega) (by omega) dL_law_1446 (fun z557 ez557 lz557 uz557 => ?_)
          refine X_callV hK [.int (iI z557)] [] lk_L_171 (c_X11_count _ _ _ _ _ S88 g89 b1 z557 (qS88 _ _ (qb84 _ _ hk66)) (by omega) al9) (qS88 _ _ (qb84 _ _ hk66)) ⟨by decide, rfl⟩ dL_law_1447 rfl rfl (by simp [Value.category]) (by decide) (by omega) (by omega) (by decide) (fun r558 S560 g559 pr558 qr558 hg559 => ?_)
          obtain ⟨rfl, rfl, z561, rfl, lz561, uz561⟩ := pr558
          refine X_st [.int (iI z561)] rfl ?_
          refine X_pop hK dL_law_1450 rfl ?_
          refine X_aloadn hK (i := 2) 2 dL_law_1451 rfl rfl ?_
          refine X_aloadn hK (i := 0) 4 dL_law_1452 rfl rfl ?_
          refine X_iload hK (i := 4) 0 dL_law_1453 rfl ?_
          refine X_iconst hK dL_law_1455 ?_
          refine X_iadd hK dL_law_1456 ?_
          refine X_scrK hK hX hbl hbA hL (by omega) (by omega) ez557 dL_law_1457 ?_
          refine X_callV hK [.int (iI z557)] [] lk_L_174 (c_X12_count _ _ _ _ _ S88 g89 b37 z557 (qS88 _ _ (qb84 _ _ hs_y64)) (by omega)) (qS88 _ _ (qb84 _ _ hs_y64)) ⟨by decide, rfl⟩ dL_law_1458 rfl rfl (by simp [Value.category]) (by decide) (by omega) (by omega) (by decide) (fun r562 S564 g563 pr562 qr562 hg563 => ?_)
          obtain ⟨rfl, z565, rfl, lz565, uz565⟩ := pr562
          refine X_st [.int (iI z565)] rfl ?_
          refine X_pop hK dL_law_1461 rfl ?_
          refine X_goto hK 1465 dL_law_1462 (by decide) ?_
          refine X_iinc hK (i := 4) (z := i9) (n := 6) 0 [(4, .int (iI (i9 + 6))), (3, .ref b84), (2, .ref b37), (1, .ref b1), (0, .ref b)] dL_law_1465 rfl (by decide) rfl ?_
          refine X_goto hK 23 dL_law_1468 (by decide) ?_
          exact ih9 S88 qS88 g563 (i9 + 6) k9 t9 c9 b9 sh9 sp9 sm9 (by omega) (by omega) (by omega) (by omega) (by omega) (by omega) (by omega) (by omega) (xLs_mod al9 hg563 (by decide)) si9 (xPi_m pi9 hg563 xLe.rf (by decide)) (xMp_m mp9 hg563 xLe.rf (by decide)) (xTw_m tw9 hg563 xLe.rf (by decide)) (xPw_m pw9 hg563 xLe.rf (by decide)) ((hg563 b1 12 0 0 (qS88 _ _ (qb84 _ _ hk66)) (by decide)).trans el09) ((hg563 b1 12 0 3 (qS88 _ _ (qb84 _ _ hk66)) (by decide)).trans el19) ((hg563 b1 12 0 1 (qS88 _ _ (qb84 _ _ hk66)) (by decide)).trans el29) ((hg563 b35 6 0 1 (qS88 _ _ (qb84 _ _ hk74)) (by decide)).trans el39) ((hg563 b1 12 0 2 (qS88 _ _ (qb84 _ _ hk66)) (by decide)).trans el49) ((hg563 b19 4 0 0 (qS88 _ _ (qb84 _ _ hk67)) (by decide)).trans el59) ((hg563 b19 4 0 2 (qS88 _ _ (qb84 _ _ hk67)) (by decide)).trans el69) ((hg563 b19 4 0 3 (qS88 _ _ (qb84 _ _ hk67)) (by decide)).trans el79) ((hg563 b19 4 0 4 (qS88 _ _ (qb84 _ _ hk67)) (by decide)).trans el89) ((hg563 b33 10 0 0 (qS88 _ _ (qb84 _ _ hk72)) (by decide)).trans el99) ((hg563 b37 13 0 1 (qS88 _ _ (qb84 _ _ hs_y64)) (by decide)).trans el109) ((hg563 b37 13 0 10 (qS88 _ _ (qb84 _ _ hs_y64)) (by decide)).trans el119) ((hg563 b37 13 0 13 (qS88 _ _ (qb84 _ _ hs_y64)) (by decide)).trans el129) ((hg563 b37 13 0 14 (qS88 _ _ (qb84 _ _ hs_y64)) (by decide)).trans el139) ((hg563 b37 13 0 12 (qS88 _ _ (qb84 _ _ hs_y64)) (by decide)).trans el149) ((hg563 b33 10 0 1 (qS88 _ _ (qb84 _ _ hk72)) (by decide)).trans exk9) ((hg563 b37 13 0 2 (qS88 _ _ (qb84 _ _ hs_y64)) (by decide)).trans emk9) ((hg563 b1 12 0 12 (qS88 _ _ (qb84 _ _ hk66)) (by decide)).trans ext9) ((hg563 b37 13 0 3 (qS88 _ _ (qb84 _ _ hs_y64)) (by decide)).trans emt9) ((hg563 b34 5 0 3 (qS88 _ _ (qb84 _ _ hk73)) (by decide)).trans exc9) ((hg563 b37 13 0 69 (qS88 _ _ (qb84 _ _ hs_y64)) (by decide)).trans emc9) ((hg563 b36 0 0 2 (qS88 _ _ (qb84 _ _ hk75)) (by decide)).trans exb9) ((hg563 b37 13 0 16 (qS88 _ _ (qb84 _ _ hs_y64)) (by decide)).trans emb9) ((hg563 b1 12 0 16 (qS88 _ _ (qb84 _ _ hk66)) (by decide)).trans exsh9) ((hg563 b37 13 0 89 (qS88 _ _ (qb84 _ _ hs_y64)) (by decide)).trans emsh9) ((hg563 b1 12 0 17 (qS88 _ _ (qb84 _ _ hk66)) (by decide)).trans exsp9) ((hg563 b37 13 0 90 (qS88 _ _ (qb84 _ _ hs_y64)) (by decide)).trans emsp9) ((hg563 b37 13 0 17 (qS88 _ _ (qb84 _ _ hs_y64)) (by decide)).trans emsm9) (xWn.m wn9 (qS88 _ _ (qb84 _ _ hk71)) (qS88 _ _ (qb84 _ _ hk78)) hg563 xLe.rf (by decide)) (by rw [(xv_m hg563 (qS88 _ _ (qb84 _ _ hk69)) (by decide) (by decide)), (xv_m hg563 (qS88 _ _ (qb84 _ _ hk76)) (by decide) (by decide))]; exact wt9) (by rw [(xv_m hg563 (qS88 _ _ (qb84 _ _ hk70)) (by decide) (by decide)), (xv_m hg563 (qS88 _ _ (qb84 _ _ hk77)) (by decide) (by decide))]; exact ld9) (by rw [(xv_m hg563 (qS88 _ _ (qb84 _ _ hk68)) (by decide) (by decide)), (xv_m hg563 (qS88 _ _ (qb84 _ _ hs_b83)) (by decide) (by decide))]; exact sk9) (by rw [(xv_m hg563 (qS88 _ _ (qb84 _ _ hs_b81)) (by decide) (by decide)), (xv_m hg563 (qS88 _ _ (qb84 _ _ hs_b82)) (by decide) (by decide))]; exact xTc.mono tc9 (by omega)) dc9 ds9 (by omega) (by omega) (by omega)
  exact P9 4001 S85 xLe.rf g86 0 0 0 0 0 (-1) (-1) 0 (by omega) (by omega) (by omega) (by omega) (by omega) (by omega) (by omega) (by omega) A87 (xSi.nw (xSi.nw (xSi.nw (xSi.nw (xSi.nw k9 (xNw2.one hSy25) (by decide)) (xNw2.one hSb37) (by decide)) wr45 (by decide)) (xNw2.one hSy64) (by decide)) (xNw2.one hSb84) (by decide)) (xPi_m pi79 (hg86 ▸ xM_new (L := []) xM.rf nb84) qb84 (by decide)) (xMp_m mm80.1 (hg86 ▸ xM_new (L := []) xM.rf nb84) qb84 (by decide)) (xTw_m mm80.2 (hg86 ▸ xM_new (L := []) xM.rf nb84) qb84 (by decide)) (xPw_m pw8 (hg86 ▸ xM_new (L := []) xM.rf nb84) qb84 (by decide)) ((xs_n hg86 hk66 nb84).trans ((hg46 b1 12 0 0 (qb37 _ _ hs_y25) (by decide)).trans ((xs_n hg39 hs_y25 nb37).trans eb33))) ((xs_n hg86 hk66 nb84).trans ((hg46 b1 12 0 3 (qb37 _ _ hs_y25) (by decide)).trans ((xs_n hg39 hs_y25 nb37).trans eb34))) ((xs_n hg86 hk66 nb84).trans ((hg46 b1 12 0 1 (qb37 _ _ hs_y25) (by decide)).trans ((xs_n hg39 hs_y25 nb37).trans eb35))) ((xs_n hg86 hk74 nb84).trans ((hg46 b35 6 0 1 hk43 (by decide)).trans ((xs_n hg39 (xhs_seal hoy25 (qr5 _ _ hs_b1) hs_b35 (by decide)) nb37).trans eb36))) ((xs_n hg86 hk66 nb84).trans ((hg46 b1 12 0 2 (qb37 _ _ hs_y25) (by decide)).trans ((xs_n hg39 hs_y25 nb37).trans eb19))) ((xs_n hg86 hk67 nb84).trans ((hg46 b19 4 0 0 (qb37 _ _ hk27) (by decide)).trans ((xs_n hg39 hk27 nb37).trans eb20))) ((xs_n hg86 hk67 nb84).trans ((hg46 b19 4 0 2 (qb37 _ _ hk27) (by decide)).trans ((xs_n hg39 hk27 nb37).trans eb21))) ((xs_n hg86 hk67 nb84).trans ((hg46 b19 4 0 3 (qb37 _ _ hk27) (by decide)).trans ((xs_n hg39 hk27 nb37).trans eb22))) ((xs_n hg86 hk67 nb84).trans ((hg46 b19 4 0 4 (qb37 _ _ hk27) (by decide)).trans ((xs_n hg39 hk27 nb37).trans eb23))) ((xs_n hg86 hk72 nb84).trans eb81) ((xs_n hg86 hs_y64 nb84).trans eb82) ((xs_n hg86 hs_y64 nb84).trans eb83) ((xs_n hg86 hs_y64 nb84).trans eb60) ((xs_n hg86 hs_y64 nb84).trans eb61) ((xs_n hg86 hs_y64 nb84).trans eb62) ((xs_n hg86 hk72 nb84).trans ((hg46 b33 10 0 1 hk41 (by decide)).trans ((xs_n hg39 (xhs_seal hoy25 (qr5 _ _ hs_b1) hs_b33 (by decide)) nb37).trans fb33))) ((xs_n hg86 hs_y64 nb84).trans tmm80) ((xs_n hg86 hk66 nb84).trans ((hg46 b1 12 0 12 (qb37 _ _ hs_y25) (by decide)).trans ((xs_n hg39 hs_y25 nb37).trans fb35))) ((xs_n hg86 hs_y64 nb84).trans k49) ((xs_n hg86 hk73 nb84).trans ((hg46 b34 5 0 3 hk42 (by decide)).trans ((xs_n hg39 (xhs_seal hoy25 (qr5 _ _ hs_b1) hs_b34 (by decide)) nb37).trans fb34))) ((xs_n hg86 hs_y64 nb84).trans k51) ((xs_n hg86 hk75 nb84).trans ((hg46 b36 0 0 2 hk44 (by decide)).trans ((xs_n hg39 (xhs_seal hoy25 (qr5 _ _ hs_b1) hs_b36 (by decide)) nb37).trans fb36))) ((xs_n hg86 hs_y64 nb84).trans k50) ((xs_n hg86 hk66 nb84).trans ((hg46 b1 12 0 16 (qb37 _ _ hs_y25) (by decide)).trans ((xs_n hg39 hs_y25 nb37).trans k13))) ((xs_n hg86 hs_y64 nb84).trans k52) ((xs_n hg86 hk66 nb84).trans ((hg46 b1 12 0 17 (qb37 _ _ hs_y25) (by decide)).trans ((xs_n hg39 hs_y25 nb37).trans k14))) ((xs_n hg86 hs_y64 nb84).trans k53) ((xs_n hg86 hs_y64 nb84).trans k54) (xWn.of (by have lt567 := (xLt.seal (qr5 _ _ hs_b1) hSy25 (by decide)); have gr566 := xGr.n zb23 lt567 hk31 (by decide) hg39 nb37; have lt569 := xLt.tr lt567 (xLt.le qb37); have gr568 := xGr.m gr566 lt569 (qb37 _ _ hk31) (by decide) hg46 (by decide) (by decide); have lt571 := xLt.tr lt569 (xLt.le qr45); have lt572 := xLt.tr lt571 (xLt.seal (qr45 _ _ hs_b37) hSy64 (by decide)); have gr570 := xGr.n gr568 lt572 hk71 (by decide) hg86 nb84; exact gr570) (xLt.tr (xLt.tr (xLt.tr (xLt.tr (xLt.seal (qr5 _ _ hs_b1) hSy25 (by decide)) (xLt.le qb37)) (xLt.le qr45)) (xLt.seal (qr45 _ _ hs_b37) hSy64 (by decide))) (xLt.le qb84)) (by rw [(xv_n hg86 hk78 nb84)]; exact zb62)) (xTc.all (by rw [(Eq.trans (Eq.trans (xv_n hg86 hk69 nb84) (xv_m hg46 (qb37 _ _ hk29) (by decide) (by decide))) (xv_n hg39 hk29 nb37))]; exact zb21) (by rw [(xv_n hg86 hk76 nb84)]; exact zb60)) (xTc.all (by rw [(Eq.trans (Eq.trans (xv_n hg86 hk70 nb84) (xv_m hg46 (qb37 _ _ hk30) (by decide) (by decide))) (xv_n hg39 hk30 nb37))]; exact zb22) (by rw [(xv_n hg86 hk77 nb84)]; exact zb61)) (xSm.zero (by rw [(Eq.trans (Eq.trans (xv_n hg86 hk68 nb84) (xv_m hg46 (qb37 _ _ hk28) (by decide) (by decide))) (xv_n hg39 hk28 nb37))]; exact zb20)) xTc.zero (((((0 + 1) + dcr5) + 1) + dcr45) + 1) (((((0 + 18) + dsr5) + 91) + dsr45) + (1 : Int).toNat) (by omega) (by omega) (by omega)
