theorem m_1_0 : Cond.classLink RL 8 RX11 ∈ wsL_law := ch_1 _ (List.mem_of_getElem? (i := 0) rfl)
theorem m_1_1 : Cond.instantiable RX11 18 ∈ wsL_law := ch_1 _ (List.mem_of_getElem? (i := 1) rfl)
theorem m_1_3 : Cond.classLink RL 20 RX12 ∈ wsL_law := ch_1 _ (List.mem_of_getElem? (i := 3) rfl)
theorem m_1_4 : Cond.instantiable RX12 91 ∈ wsL_law := ch_1 _ (List.mem_of_getElem? (i := 4) rfl)
theorem m_1_7 : Cond.methodLink RL 19 yX11_init ∈ wsL_law := ch_1 _ (List.mem_of_getElem? (i := 7) rfl)
theorem m_1_8 : Cond.instanceMethod yX11_init ∈ wsL_law := ch_1 _ (List.mem_of_getElem? (i := 8) rfl)
theorem m_1_9 : Cond.code yX11_init cX11_init 1 none ∈ wsL_law := ch_1 _ (List.mem_of_getElem? (i := 9) rfl)
theorem m_7_22 : Cond.methodLink RL 22 yX12_init ∈ wsL_law := ch_7 _ (List.mem_of_getElem? (i := 22) rfl)
theorem m_7_23 : Cond.instanceMethod yX12_init ∈ wsL_law := ch_7 _ (List.mem_of_getElem? (i := 23) rfl)
theorem m_8_0 : Cond.code yX12_init cX12_init 1 none ∈ wsL_law := ch_8 _ (List.mem_of_getElem? (i := 0) rfl)
theorem m_10_16 : Cond.methodLink RL 23 yX11_feed ∈ wsL_law := ch_10 _ (List.mem_of_getElem? (i := 16) rfl)
theorem m_10_17 : Cond.instanceMethod yX11_feed ∈ wsL_law := ch_10 _ (List.mem_of_getElem? (i := 17) rfl)
theorem m_10_18 : Cond.selects RX11 yX11_feed yX11_feed ∈ wsL_law := ch_10 _ (List.mem_of_getElem? (i := 18) rfl)
theorem m_10_19 : Cond.code yX11_feed cX11_feed 6 (some .int) ∈ wsL_law := ch_10 _ (List.mem_of_getElem? (i := 19) rfl)
theorem m_11_1 : Cond.methodLink RL 27 yX12_feed ∈ wsL_law := ch_11 _ (List.mem_of_getElem? (i := 1) rfl)
theorem m_11_2 : Cond.instanceMethod yX12_feed ∈ wsL_law := ch_11 _ (List.mem_of_getElem? (i := 2) rfl)
theorem m_11_3 : Cond.selects RX12 yX12_feed yX12_feed ∈ wsL_law := ch_11 _ (List.mem_of_getElem? (i := 3) rfl)
theorem m_11_4 : Cond.code yX12_feed cX12_feed 6 (some .int) ∈ wsL_law := ch_11 _ (List.mem_of_getElem? (i := 4) rfl)
theorem m_11_11 : Cond.methodLink RL 28 yX11_end ∈ wsL_law := ch_11 _ (List.mem_of_getElem? (i := 11) rfl)
theorem m_11_12 : Cond.instanceMethod yX11_end ∈ wsL_law := ch_11 _ (List.mem_of_getElem? (i := 12) rfl)
theorem m_11_13 : Cond.selects RX11 yX11_end yX11_end ∈ wsL_law := ch_11 _ (List.mem_of_getElem? (i := 13) rfl)
theorem m_11_14 : Cond.code yX11_end cX11_end 2 (some .boolean) ∈ wsL_law := ch_11 _ (List.mem_of_getElem? (i := 14) rfl)
theorem m_11_15 : Cond.methodLink RL 32 yX12_end ∈ wsL_law := ch_11 _ (List.mem_of_getElem? (i := 15) rfl)
theorem m_11_16 : Cond.instanceMethod yX12_end ∈ wsL_law := ch_11 _ (List.mem_of_getElem? (i := 16) rfl)
theorem m_11_17 : Cond.selects RX12 yX12_end yX12_end ∈ wsL_law := ch_11 _ (List.mem_of_getElem? (i := 17) rfl)
theorem m_11_18 : Cond.code yX12_end cX12_end 2 (some .boolean) ∈ wsL_law := ch_11 _ (List.mem_of_getElem? (i := 18) rfl)
theorem m_11_19 : Cond.methodLink RL 33 yX11_boy ∈ wsL_law := ch_11 _ (List.mem_of_getElem? (i := 19) rfl)
theorem m_11_20 : Cond.instanceMethod yX11_boy ∈ wsL_law := ch_11 _ (List.mem_of_getElem? (i := 20) rfl)
theorem m_11_21 : Cond.selects RX11 yX11_boy yX11_boy ∈ wsL_law := ch_11 _ (List.mem_of_getElem? (i := 21) rfl)
theorem m_11_22 : Cond.code yX11_boy cX11_boy 6 (some .int) ∈ wsL_law := ch_11 _ (List.mem_of_getElem? (i := 22) rfl)
theorem m_15_7 : Cond.methodLink RL 37 yX12_boy ∈ wsL_law := ch_15 _ (List.mem_of_getElem? (i := 7) rfl)
theorem m_15_8 : Cond.instanceMethod yX12_boy ∈ wsL_law := ch_15 _ (List.mem_of_getElem? (i := 8) rfl)
theorem m_15_9 : Cond.selects RX12 yX12_boy yX12_boy ∈ wsL_law := ch_15 _ (List.mem_of_getElem? (i := 9) rfl)
theorem m_15_10 : Cond.code yX12_boy cX12_boy 5 (some .int) ∈ wsL_law := ch_15 _ (List.mem_of_getElem? (i := 10) rfl)
theorem m_15_15 : Cond.methodLink RL 38 yX11_badge ∈ wsL_law := ch_15 _ (List.mem_of_getElem? (i := 15) rfl)
theorem m_15_16 : Cond.instanceMethod yX11_badge ∈ wsL_law := ch_15 _ (List.mem_of_getElem? (i := 16) rfl)
theorem m_15_17 : Cond.selects RX11 yX11_badge yX11_badge ∈ wsL_law := ch_15 _ (List.mem_of_getElem? (i := 17) rfl)
theorem m_15_18 : Cond.code yX11_badge cX11_badge 3 (some .boolean) ∈ wsL_law := ch_15 _ (List.mem_of_getElem? (i := 18) rfl)
theorem m_16_18 : Cond.methodLink RL 42 yX12_badge ∈ wsL_law := ch_16 _ (List.mem_of_getElem? (i := 18) rfl)
theorem m_16_19 : Cond.instanceMethod yX12_badge ∈ wsL_law := ch_16 _ (List.mem_of_getElem? (i := 19) rfl)
theorem m_16_20 : Cond.selects RX12 yX12_badge yX12_badge ∈ wsL_law := ch_16 _ (List.mem_of_getElem? (i := 20) rfl)
theorem m_16_21 : Cond.code yX12_badge cX12_badge 3 (some .boolean) ∈ wsL_law := ch_16 _ (List.mem_of_getElem? (i := 21) rfl)
theorem m_17_2 : Cond.methodLink RL 43 yX11_owner ∈ wsL_law := ch_17 _ (List.mem_of_getElem? (i := 2) rfl)
theorem m_17_3 : Cond.instanceMethod yX11_owner ∈ wsL_law := ch_17 _ (List.mem_of_getElem? (i := 3) rfl)
theorem m_17_4 : Cond.selects RX11 yX11_owner yX11_owner ∈ wsL_law := ch_17 _ (List.mem_of_getElem? (i := 4) rfl)
theorem m_17_5 : Cond.code yX11_owner cX11_owner 3 (some .boolean) ∈ wsL_law := ch_17 _ (List.mem_of_getElem? (i := 5) rfl)
theorem m_17_10 : Cond.methodLink RL 46 yX12_owner ∈ wsL_law := ch_17 _ (List.mem_of_getElem? (i := 10) rfl)
theorem m_17_11 : Cond.instanceMethod yX12_owner ∈ wsL_law := ch_17 _ (List.mem_of_getElem? (i := 11) rfl)
theorem m_17_12 : Cond.selects RX12 yX12_owner yX12_owner ∈ wsL_law := ch_17 _ (List.mem_of_getElem? (i := 12) rfl)
theorem m_17_13 : Cond.code yX12_owner cX12_owner 3 (some .boolean) ∈ wsL_law := ch_17 _ (List.mem_of_getElem? (i := 13) rfl)
theorem m_17_17 : Cond.methodLink RL 47 yX11_weather ∈ wsL_law := ch_17 _ (List.mem_of_getElem? (i := 17) rfl)
theorem m_17_18 : Cond.instanceMethod yX11_weather ∈ wsL_law := ch_17 _ (List.mem_of_getElem? (i := 18) rfl)
theorem m_17_19 : Cond.selects RX11 yX11_weather yX11_weather ∈ wsL_law := ch_17 _ (List.mem_of_getElem? (i := 19) rfl)
theorem m_17_20 : Cond.code yX11_weather cX11_weather 2 (some .boolean) ∈ wsL_law := ch_17 _ (List.mem_of_getElem? (i := 20) rfl)
theorem m_18_7 : Cond.methodLink RL 51 yX12_weather ∈ wsL_law := ch_18 _ (List.mem_of_getElem? (i := 7) rfl)
theorem m_18_8 : Cond.instanceMethod yX12_weather ∈ wsL_law := ch_18 _ (List.mem_of_getElem? (i := 8) rfl)
theorem m_18_9 : Cond.selects RX12 yX12_weather yX12_weather ∈ wsL_law := ch_18 _ (List.mem_of_getElem? (i := 9) rfl)
theorem m_18_10 : Cond.code yX12_weather cX12_weather 3 (some .boolean) ∈ wsL_law := ch_18 _ (List.mem_of_getElem? (i := 10) rfl)
theorem m_18_16 : Cond.methodLink RL 52 yX11_sky ∈ wsL_law := ch_18 _ (List.mem_of_getElem? (i := 16) rfl)
theorem m_18_17 : Cond.instanceMethod yX11_sky ∈ wsL_law := ch_18 _ (List.mem_of_getElem? (i := 17) rfl)
theorem m_18_18 : Cond.selects RX11 yX11_sky yX11_sky ∈ wsL_law := ch_18 _ (List.mem_of_getElem? (i := 18) rfl)
theorem m_18_19 : Cond.code yX11_sky cX11_sky 2 (some .int) ∈ wsL_law := ch_18 _ (List.mem_of_getElem? (i := 19) rfl)
theorem m_18_21 : Cond.methodLink RL 55 yX12_sky ∈ wsL_law := ch_18 _ (List.mem_of_getElem? (i := 21) rfl)
theorem m_18_22 : Cond.instanceMethod yX12_sky ∈ wsL_law := ch_18 _ (List.mem_of_getElem? (i := 22) rfl)
theorem m_18_23 : Cond.selects RX12 yX12_sky yX12_sky ∈ wsL_law := ch_18 _ (List.mem_of_getElem? (i := 23) rfl)
theorem m_19_0 : Cond.code yX12_sky cX12_sky 2 (some .int) ∈ wsL_law := ch_19 _ (List.mem_of_getElem? (i := 0) rfl)
theorem m_19_8 : Cond.methodLink RL 56 yX11_headline ∈ wsL_law := ch_19 _ (List.mem_of_getElem? (i := 8) rfl)
theorem m_19_9 : Cond.instanceMethod yX11_headline ∈ wsL_law := ch_19 _ (List.mem_of_getElem? (i := 9) rfl)
theorem m_19_10 : Cond.selects RX11 yX11_headline yX11_headline ∈ wsL_law := ch_19 _ (List.mem_of_getElem? (i := 10) rfl)
theorem m_19_11 : Cond.code yX11_headline cX11_headline 4 (some .boolean) ∈ wsL_law := ch_19 _ (List.mem_of_getElem? (i := 11) rfl)
theorem m_19_19 : Cond.methodLink RL 60 yX12_headline ∈ wsL_law := ch_19 _ (List.mem_of_getElem? (i := 19) rfl)
theorem m_19_20 : Cond.instanceMethod yX12_headline ∈ wsL_law := ch_19 _ (List.mem_of_getElem? (i := 20) rfl)
theorem m_19_21 : Cond.selects RX12 yX12_headline yX12_headline ∈ wsL_law := ch_19 _ (List.mem_of_getElem? (i := 21) rfl)
theorem m_19_22 : Cond.code yX12_headline cX12_headline 4 (some .boolean) ∈ wsL_law := ch_19 _ (List.mem_of_getElem? (i := 22) rfl)
theorem m_20_3 : Cond.methodLink RL 61 yX11_table ∈ wsL_law := ch_20 _ (List.mem_of_getElem? (i := 3) rfl)
theorem m_20_4 : Cond.instanceMethod yX11_table ∈ wsL_law := ch_20 _ (List.mem_of_getElem? (i := 4) rfl)
theorem m_20_5 : Cond.selects RX11 yX11_table yX11_table ∈ wsL_law := ch_20 _ (List.mem_of_getElem? (i := 5) rfl)
theorem m_20_6 : Cond.code yX11_table cX11_table 4 (some .boolean) ∈ wsL_law := ch_20 _ (List.mem_of_getElem? (i := 6) rfl)
theorem m_20_12 : Cond.methodLink RL 64 yX12_table ∈ wsL_law := ch_20 _ (List.mem_of_getElem? (i := 12) rfl)
theorem m_20_13 : Cond.instanceMethod yX12_table ∈ wsL_law := ch_20 _ (List.mem_of_getElem? (i := 13) rfl)
theorem m_20_14 : Cond.selects RX12 yX12_table yX12_table ∈ wsL_law := ch_20 _ (List.mem_of_getElem? (i := 14) rfl)
theorem m_20_15 : Cond.code yX12_table cX12_table 4 (some .boolean) ∈ wsL_law := ch_20 _ (List.mem_of_getElem? (i := 15) rfl)
theorem m_20_16 : Cond.methodLink RL 65 yX11_want ∈ wsL_law := ch_20 _ (List.mem_of_getElem? (i := 16) rfl)
theorem m_20_17 : Cond.instanceMethod yX11_want ∈ wsL_law := ch_20 _ (List.mem_of_getElem? (i := 17) rfl)
theorem m_20_18 : Cond.selects RX11 yX11_want yX11_want ∈ wsL_law := ch_20 _ (List.mem_of_getElem? (i := 18) rfl)
theorem m_20_19 : Cond.code yX11_want cX11_want 4 (some .boolean) ∈ wsL_law := ch_20 _ (List.mem_of_getElem? (i := 19) rfl)
theorem m_20_21 : Cond.methodLink RL 68 yX12_want ∈ wsL_law := ch_20 _ (List.mem_of_getElem? (i := 21) rfl)
theorem m_20_22 : Cond.instanceMethod yX12_want ∈ wsL_law := ch_20 _ (List.mem_of_getElem? (i := 22) rfl)
theorem m_20_23 : Cond.selects RX12 yX12_want yX12_want ∈ wsL_law := ch_20 _ (List.mem_of_getElem? (i := 23) rfl)
theorem m_21_0 : Cond.code yX12_want cX12_want 4 (some .boolean) ∈ wsL_law := ch_21 _ (List.mem_of_getElem? (i := 0) rfl)
theorem m_21_1 : Cond.methodLink RL 69 yX11_asked ∈ wsL_law := ch_21 _ (List.mem_of_getElem? (i := 1) rfl)
theorem m_21_2 : Cond.instanceMethod yX11_asked ∈ wsL_law := ch_21 _ (List.mem_of_getElem? (i := 2) rfl)
theorem m_21_3 : Cond.selects RX11 yX11_asked yX11_asked ∈ wsL_law := ch_21 _ (List.mem_of_getElem? (i := 3) rfl)
theorem m_21_4 : Cond.code yX11_asked cX11_asked 5 (some .int) ∈ wsL_law := ch_21 _ (List.mem_of_getElem? (i := 4) rfl)
theorem m_21_9 : Cond.methodLink RL 73 yX12_asked ∈ wsL_law := ch_21 _ (List.mem_of_getElem? (i := 9) rfl)
theorem m_21_10 : Cond.instanceMethod yX12_asked ∈ wsL_law := ch_21 _ (List.mem_of_getElem? (i := 10) rfl)
theorem m_21_11 : Cond.selects RX12 yX12_asked yX12_asked ∈ wsL_law := ch_21 _ (List.mem_of_getElem? (i := 11) rfl)
theorem m_21_12 : Cond.code yX12_asked cX12_asked 5 (some .int) ∈ wsL_law := ch_21 _ (List.mem_of_getElem? (i := 12) rfl)
theorem m_21_17 : Cond.methodLink RL 74 yX11_minutes ∈ wsL_law := ch_21 _ (List.mem_of_getElem? (i := 17) rfl)
theorem m_21_18 : Cond.instanceMethod yX11_minutes ∈ wsL_law := ch_21 _ (List.mem_of_getElem? (i := 18) rfl)
theorem m_21_19 : Cond.selects RX11 yX11_minutes yX11_minutes ∈ wsL_law := ch_21 _ (List.mem_of_getElem? (i := 19) rfl)
theorem m_21_20 : Cond.code yX11_minutes cX11_minutes 4 (some .boolean) ∈ wsL_law := ch_21 _ (List.mem_of_getElem? (i := 20) rfl)
theorem m_21_22 : Cond.methodLink RL 77 yX12_minutes ∈ wsL_law := ch_21 _ (List.mem_of_getElem? (i := 22) rfl)
theorem m_21_23 : Cond.instanceMethod yX12_minutes ∈ wsL_law := ch_21 _ (List.mem_of_getElem? (i := 23) rfl)
theorem m_22_0 : Cond.selects RX12 yX12_minutes yX12_minutes ∈ wsL_law := ch_22 _ (List.mem_of_getElem? (i := 0) rfl)
theorem m_22_1 : Cond.code yX12_minutes cX12_minutes 4 (some .boolean) ∈ wsL_law := ch_22 _ (List.mem_of_getElem? (i := 1) rfl)
theorem m_22_7 : Cond.methodLink RL 78 yX11_terms ∈ wsL_law := ch_22 _ (List.mem_of_getElem? (i := 7) rfl)
theorem m_22_8 : Cond.instanceMethod yX11_terms ∈ wsL_law := ch_22 _ (List.mem_of_getElem? (i := 8) rfl)
theorem m_22_9 : Cond.selects RX11 yX11_terms yX11_terms ∈ wsL_law := ch_22 _ (List.mem_of_getElem? (i := 9) rfl)
theorem m_22_10 : Cond.code yX11_terms cX11_terms 3 (some .int) ∈ wsL_law := ch_22 _ (List.mem_of_getElem? (i := 10) rfl)
theorem m_28_3 : Cond.methodLink RL 81 yX12_terms ∈ wsL_law := ch_28 _ (List.mem_of_getElem? (i := 3) rfl)
theorem m_28_4 : Cond.instanceMethod yX12_terms ∈ wsL_law := ch_28 _ (List.mem_of_getElem? (i := 4) rfl)
theorem m_28_5 : Cond.selects RX12 yX12_terms yX12_terms ∈ wsL_law := ch_28 _ (List.mem_of_getElem? (i := 5) rfl)
theorem m_28_6 : Cond.code yX12_terms cX12_terms 4 (some .int) ∈ wsL_law := ch_28 _ (List.mem_of_getElem? (i := 6) rfl)
theorem m_32_9 : Cond.methodLink RL 82 yX11_fault ∈ wsL_law := ch_32 _ (List.mem_of_getElem? (i := 9) rfl)
theorem m_32_10 : Cond.instanceMethod yX11_fault ∈ wsL_law := ch_32 _ (List.mem_of_getElem? (i := 10) rfl)
theorem m_32_11 : Cond.selects RX11 yX11_fault yX11_fault ∈ wsL_law := ch_32 _ (List.mem_of_getElem? (i := 11) rfl)
theorem m_32_12 : Cond.code yX11_fault cX11_fault 1 (some .int) ∈ wsL_law := ch_32 _ (List.mem_of_getElem? (i := 12) rfl)
theorem m_32_13 : Cond.methodLink RL 86 yX12_fault ∈ wsL_law := ch_32 _ (List.mem_of_getElem? (i := 13) rfl)
theorem m_32_14 : Cond.instanceMethod yX12_fault ∈ wsL_law := ch_32 _ (List.mem_of_getElem? (i := 14) rfl)
theorem m_32_15 : Cond.selects RX12 yX12_fault yX12_fault ∈ wsL_law := ch_32 _ (List.mem_of_getElem? (i := 15) rfl)
theorem m_32_16 : Cond.code yX12_fault cX12_fault 1 (some .int) ∈ wsL_law := ch_32 _ (List.mem_of_getElem? (i := 16) rfl)
theorem m_32_17 : Cond.methodLink RL 87 yX11_bundle ∈ wsL_law := ch_32 _ (List.mem_of_getElem? (i := 17) rfl)
theorem m_32_18 : Cond.instanceMethod yX11_bundle ∈ wsL_law := ch_32 _ (List.mem_of_getElem? (i := 18) rfl)
theorem m_32_19 : Cond.selects RX11 yX11_bundle yX11_bundle ∈ wsL_law := ch_32 _ (List.mem_of_getElem? (i := 19) rfl)
theorem m_32_20 : Cond.code yX11_bundle cX11_bundle 7 (some .int) ∈ wsL_law := ch_32 _ (List.mem_of_getElem? (i := 20) rfl)
theorem m_36_1 : Cond.methodLink RL 90 yX12_bundle ∈ wsL_law := ch_36 _ (List.mem_of_getElem? (i := 1) rfl)
theorem m_36_2 : Cond.instanceMethod yX12_bundle ∈ wsL_law := ch_36 _ (List.mem_of_getElem? (i := 2) rfl)
theorem m_36_3 : Cond.selects RX12 yX12_bundle yX12_bundle ∈ wsL_law := ch_36 _ (List.mem_of_getElem? (i := 3) rfl)
theorem m_36_4 : Cond.code yX12_bundle cX12_bundle 8 (some .int) ∈ wsL_law := ch_36 _ (List.mem_of_getElem? (i := 4) rfl)
theorem m_37_4 : Cond.methodLink RL 91 yX11_told ∈ wsL_law := ch_37 _ (List.mem_of_getElem? (i := 4) rfl)
theorem m_37_5 : Cond.instanceMethod yX11_told ∈ wsL_law := ch_37 _ (List.mem_of_getElem? (i := 5) rfl)
theorem m_37_6 : Cond.selects RX11 yX11_told yX11_told ∈ wsL_law := ch_37 _ (List.mem_of_getElem? (i := 6) rfl)
theorem m_37_7 : Cond.code yX11_told cX11_told 5 (some .int) ∈ wsL_law := ch_37 _ (List.mem_of_getElem? (i := 7) rfl)
theorem m_37_18 : Cond.methodLink RL 94 yX12_told ∈ wsL_law := ch_37 _ (List.mem_of_getElem? (i := 18) rfl)
theorem m_37_19 : Cond.instanceMethod yX12_told ∈ wsL_law := ch_37 _ (List.mem_of_getElem? (i := 19) rfl)
theorem m_37_20 : Cond.selects RX12 yX12_told yX12_told ∈ wsL_law := ch_37 _ (List.mem_of_getElem? (i := 20) rfl)
theorem m_37_21 : Cond.code yX12_told cX12_told 4 (some .int) ∈ wsL_law := ch_37 _ (List.mem_of_getElem? (i := 21) rfl)
theorem m_38_2 : Cond.methodLink RL 95 yX11_why ∈ wsL_law := ch_38 _ (List.mem_of_getElem? (i := 2) rfl)
theorem m_38_3 : Cond.instanceMethod yX11_why ∈ wsL_law := ch_38 _ (List.mem_of_getElem? (i := 3) rfl)
theorem m_38_4 : Cond.selects RX11 yX11_why yX11_why ∈ wsL_law := ch_38 _ (List.mem_of_getElem? (i := 4) rfl)
theorem m_38_5 : Cond.code yX11_why cX11_why 1 (some .int) ∈ wsL_law := ch_38 _ (List.mem_of_getElem? (i := 5) rfl)
theorem m_38_6 : Cond.methodLink RL 98 yX12_why ∈ wsL_law := ch_38 _ (List.mem_of_getElem? (i := 6) rfl)
theorem m_38_7 : Cond.instanceMethod yX12_why ∈ wsL_law := ch_38 _ (List.mem_of_getElem? (i := 7) rfl)
theorem m_38_8 : Cond.selects RX12 yX12_why yX12_why ∈ wsL_law := ch_38 _ (List.mem_of_getElem? (i := 8) rfl)
theorem m_38_9 : Cond.code yX12_why cX12_why 1 (some .int) ∈ wsL_law := ch_38 _ (List.mem_of_getElem? (i := 9) rfl)
theorem m_38_10 : Cond.methodLink RL 99 yX11_close ∈ wsL_law := ch_38 _ (List.mem_of_getElem? (i := 10) rfl)
theorem m_38_11 : Cond.instanceMethod yX11_close ∈ wsL_law := ch_38 _ (List.mem_of_getElem? (i := 11) rfl)
theorem m_38_12 : Cond.selects RX11 yX11_close yX11_close ∈ wsL_law := ch_38 _ (List.mem_of_getElem? (i := 12) rfl)
theorem m_38_13 : Cond.code yX11_close cX11_close 1 (some .int) ∈ wsL_law := ch_38 _ (List.mem_of_getElem? (i := 13) rfl)
theorem m_40_16 : Cond.methodLink RL 102 yX12_close ∈ wsL_law := ch_40 _ (List.mem_of_getElem? (i := 16) rfl)
theorem m_40_17 : Cond.instanceMethod yX12_close ∈ wsL_law := ch_40 _ (List.mem_of_getElem? (i := 17) rfl)
theorem m_40_18 : Cond.selects RX12 yX12_close yX12_close ∈ wsL_law := ch_40 _ (List.mem_of_getElem? (i := 18) rfl)
theorem m_40_19 : Cond.code yX12_close cX12_close 4 (some .int) ∈ wsL_law := ch_40 _ (List.mem_of_getElem? (i := 19) rfl)
theorem m_42_3 : Cond.methodLink RL 108 yX12_of ∈ wsL_law := ch_42 _ (List.mem_of_getElem? (i := 3) rfl)
theorem m_42_4 : Cond.instanceMethod yX12_of ∈ wsL_law := ch_42 _ (List.mem_of_getElem? (i := 4) rfl)
theorem m_42_5 : Cond.selects RX12 yX12_of yX12_of ∈ wsL_law := ch_42 _ (List.mem_of_getElem? (i := 5) rfl)
theorem m_42_6 : Cond.code yX12_of cX12_of 3 (some .int) ∈ wsL_law := ch_42 _ (List.mem_of_getElem? (i := 6) rfl)
theorem m_42_18 : Cond.methodLink RL 112 yX12_coin ∈ wsL_law := ch_42 _ (List.mem_of_getElem? (i := 18) rfl)
theorem m_42_19 : Cond.instanceMethod yX12_coin ∈ wsL_law := ch_42 _ (List.mem_of_getElem? (i := 19) rfl)
theorem m_42_20 : Cond.selects RX12 yX12_coin yX12_coin ∈ wsL_law := ch_42 _ (List.mem_of_getElem? (i := 20) rfl)
theorem m_42_21 : Cond.code yX12_coin cX12_coin 2 (some .int) ∈ wsL_law := ch_42 _ (List.mem_of_getElem? (i := 21) rfl)
theorem m_42_22 : Cond.methodLink RL 113 yX11_counted ∈ wsL_law := ch_42 _ (List.mem_of_getElem? (i := 22) rfl)
theorem m_43_0 : Cond.instanceMethod yX11_counted ∈ wsL_law := ch_43 _ (List.mem_of_getElem? (i := 0) rfl)
theorem m_43_1 : Cond.selects RX11 yX11_counted yX11_counted ∈ wsL_law := ch_43 _ (List.mem_of_getElem? (i := 1) rfl)
theorem m_43_2 : Cond.code yX11_counted cX11_counted 5 (some .int) ∈ wsL_law := ch_43 _ (List.mem_of_getElem? (i := 2) rfl)
theorem m_43_9 : Cond.methodLink RL 116 yX12_counted ∈ wsL_law := ch_43 _ (List.mem_of_getElem? (i := 9) rfl)
theorem m_43_10 : Cond.instanceMethod yX12_counted ∈ wsL_law := ch_43 _ (List.mem_of_getElem? (i := 10) rfl)
theorem m_43_11 : Cond.selects RX12 yX12_counted yX12_counted ∈ wsL_law := ch_43 _ (List.mem_of_getElem? (i := 11) rfl)
theorem m_43_12 : Cond.code yX12_counted cX12_counted 5 (some .int) ∈ wsL_law := ch_43 _ (List.mem_of_getElem? (i := 12) rfl)
theorem m_43_14 : Cond.methodLink RL 117 yX11_falseCounts ∈ wsL_law := ch_43 _ (List.mem_of_getElem? (i := 14) rfl)
theorem m_43_15 : Cond.instanceMethod yX11_falseCounts ∈ wsL_law := ch_43 _ (List.mem_of_getElem? (i := 15) rfl)
theorem m_43_16 : Cond.selects RX11 yX11_falseCounts yX11_falseCounts ∈ wsL_law := ch_43 _ (List.mem_of_getElem? (i := 16) rfl)
theorem m_43_17 : Cond.code yX11_falseCounts cX11_falseCounts 2 (some .int) ∈ wsL_law := ch_43 _ (List.mem_of_getElem? (i := 17) rfl)
theorem m_44_6 : Cond.methodLink RL 120 yX12_falseCounts ∈ wsL_law := ch_44 _ (List.mem_of_getElem? (i := 6) rfl)
theorem m_44_7 : Cond.instanceMethod yX12_falseCounts ∈ wsL_law := ch_44 _ (List.mem_of_getElem? (i := 7) rfl)
theorem m_44_8 : Cond.selects RX12 yX12_falseCounts yX12_falseCounts ∈ wsL_law := ch_44 _ (List.mem_of_getElem? (i := 8) rfl)
theorem m_44_9 : Cond.code yX12_falseCounts cX12_falseCounts 7 (some .int) ∈ wsL_law := ch_44 _ (List.mem_of_getElem? (i := 9) rfl)
theorem m_44_18 : Cond.methodLink RL 121 yX11_shortOf ∈ wsL_law := ch_44 _ (List.mem_of_getElem? (i := 18) rfl)
theorem m_44_19 : Cond.instanceMethod yX11_shortOf ∈ wsL_law := ch_44 _ (List.mem_of_getElem? (i := 19) rfl)
theorem m_44_20 : Cond.selects RX11 yX11_shortOf yX11_shortOf ∈ wsL_law := ch_44 _ (List.mem_of_getElem? (i := 20) rfl)
theorem m_44_21 : Cond.code yX11_shortOf cX11_shortOf 2 (some .int) ∈ wsL_law := ch_44 _ (List.mem_of_getElem? (i := 21) rfl)
theorem m_45_17 : Cond.methodLink RL 124 yX12_shortOf ∈ wsL_law := ch_45 _ (List.mem_of_getElem? (i := 17) rfl)
theorem m_45_18 : Cond.instanceMethod yX12_shortOf ∈ wsL_law := ch_45 _ (List.mem_of_getElem? (i := 18) rfl)
theorem m_45_19 : Cond.selects RX12 yX12_shortOf yX12_shortOf ∈ wsL_law := ch_45 _ (List.mem_of_getElem? (i := 19) rfl)
theorem m_45_20 : Cond.code yX12_shortOf cX12_shortOf 9 (some .int) ∈ wsL_law := ch_45 _ (List.mem_of_getElem? (i := 20) rfl)
theorem m_46_1 : Cond.methodLink RL 125 yX11_best ∈ wsL_law := ch_46 _ (List.mem_of_getElem? (i := 1) rfl)
theorem m_46_2 : Cond.instanceMethod yX11_best ∈ wsL_law := ch_46 _ (List.mem_of_getElem? (i := 2) rfl)
theorem m_46_3 : Cond.selects RX11 yX11_best yX11_best ∈ wsL_law := ch_46 _ (List.mem_of_getElem? (i := 3) rfl)
theorem m_46_4 : Cond.code yX11_best cX11_best 7 (some .int) ∈ wsL_law := ch_46 _ (List.mem_of_getElem? (i := 4) rfl)
theorem m_47_0 : Cond.methodLink RL 128 yX12_best ∈ wsL_law := ch_47 _ (List.mem_of_getElem? (i := 0) rfl)
theorem m_47_1 : Cond.instanceMethod yX12_best ∈ wsL_law := ch_47 _ (List.mem_of_getElem? (i := 1) rfl)
theorem m_47_2 : Cond.selects RX12 yX12_best yX12_best ∈ wsL_law := ch_47 _ (List.mem_of_getElem? (i := 2) rfl)
theorem m_47_3 : Cond.code yX12_best cX12_best 19 (some .int) ∈ wsL_law := ch_47 _ (List.mem_of_getElem? (i := 3) rfl)
theorem m_47_5 : Cond.methodLink RL 129 yX11_expected ∈ wsL_law := ch_47 _ (List.mem_of_getElem? (i := 5) rfl)
theorem m_47_6 : Cond.instanceMethod yX11_expected ∈ wsL_law := ch_47 _ (List.mem_of_getElem? (i := 6) rfl)
theorem m_47_7 : Cond.selects RX11 yX11_expected yX11_expected ∈ wsL_law := ch_47 _ (List.mem_of_getElem? (i := 7) rfl)
theorem m_47_8 : Cond.code yX11_expected cX11_expected 1 (some .long) ∈ wsL_law := ch_47 _ (List.mem_of_getElem? (i := 8) rfl)
theorem m_47_10 : Cond.methodLink RL 133 yX12_expected ∈ wsL_law := ch_47 _ (List.mem_of_getElem? (i := 10) rfl)
theorem m_47_11 : Cond.instanceMethod yX12_expected ∈ wsL_law := ch_47 _ (List.mem_of_getElem? (i := 11) rfl)
theorem m_47_12 : Cond.selects RX12 yX12_expected yX12_expected ∈ wsL_law := ch_47 _ (List.mem_of_getElem? (i := 12) rfl)
theorem m_47_13 : Cond.code yX12_expected cX12_expected 1 (some .long) ∈ wsL_law := ch_47 _ (List.mem_of_getElem? (i := 13) rfl)
theorem m_47_14 : Cond.methodLink RL 134 yX11_tried ∈ wsL_law := ch_47 _ (List.mem_of_getElem? (i := 14) rfl)
theorem m_47_15 : Cond.instanceMethod yX11_tried ∈ wsL_law := ch_47 _ (List.mem_of_getElem? (i := 15) rfl)
theorem m_47_16 : Cond.selects RX11 yX11_tried yX11_tried ∈ wsL_law := ch_47 _ (List.mem_of_getElem? (i := 16) rfl)
theorem m_47_17 : Cond.code yX11_tried cX11_tried 1 (some .int) ∈ wsL_law := ch_47 _ (List.mem_of_getElem? (i := 17) rfl)
theorem m_48_3 : Cond.methodLink RL 137 yX12_tried ∈ wsL_law := ch_48 _ (List.mem_of_getElem? (i := 3) rfl)
theorem m_48_4 : Cond.instanceMethod yX12_tried ∈ wsL_law := ch_48 _ (List.mem_of_getElem? (i := 4) rfl)
theorem m_48_5 : Cond.selects RX12 yX12_tried yX12_tried ∈ wsL_law := ch_48 _ (List.mem_of_getElem? (i := 5) rfl)
theorem m_48_6 : Cond.code yX12_tried cX12_tried 5 (some .int) ∈ wsL_law := ch_48 _ (List.mem_of_getElem? (i := 6) rfl)
theorem m_48_12 : Cond.methodLink RL 138 yX11_triedEaten ∈ wsL_law := ch_48 _ (List.mem_of_getElem? (i := 12) rfl)
theorem m_48_13 : Cond.instanceMethod yX11_triedEaten ∈ wsL_law := ch_48 _ (List.mem_of_getElem? (i := 13) rfl)
theorem m_48_14 : Cond.selects RX11 yX11_triedEaten yX11_triedEaten ∈ wsL_law := ch_48 _ (List.mem_of_getElem? (i := 14) rfl)
theorem m_48_15 : Cond.code yX11_triedEaten cX11_triedEaten 1 (some .int) ∈ wsL_law := ch_48 _ (List.mem_of_getElem? (i := 15) rfl)
theorem m_48_16 : Cond.methodLink RL 141 yX12_triedEaten ∈ wsL_law := ch_48 _ (List.mem_of_getElem? (i := 16) rfl)
theorem m_48_17 : Cond.instanceMethod yX12_triedEaten ∈ wsL_law := ch_48 _ (List.mem_of_getElem? (i := 17) rfl)
theorem m_48_18 : Cond.selects RX12 yX12_triedEaten yX12_triedEaten ∈ wsL_law := ch_48 _ (List.mem_of_getElem? (i := 18) rfl)
theorem m_48_19 : Cond.code yX12_triedEaten cX12_triedEaten 1 (some .int) ∈ wsL_law := ch_48 _ (List.mem_of_getElem? (i := 19) rfl)
theorem m_48_20 : Cond.methodLink RL 142 yX11_parted ∈ wsL_law := ch_48 _ (List.mem_of_getElem? (i := 20) rfl)
theorem m_48_21 : Cond.instanceMethod yX11_parted ∈ wsL_law := ch_48 _ (List.mem_of_getElem? (i := 21) rfl)
theorem m_48_22 : Cond.selects RX11 yX11_parted yX11_parted ∈ wsL_law := ch_48 _ (List.mem_of_getElem? (i := 22) rfl)
theorem m_48_23 : Cond.code yX11_parted cX11_parted 6 (some .int) ∈ wsL_law := ch_48 _ (List.mem_of_getElem? (i := 23) rfl)
theorem m_51_16 : Cond.methodLink RL 146 yX12_parted ∈ wsL_law := ch_51 _ (List.mem_of_getElem? (i := 16) rfl)
theorem m_51_17 : Cond.instanceMethod yX12_parted ∈ wsL_law := ch_51 _ (List.mem_of_getElem? (i := 17) rfl)
theorem m_51_18 : Cond.selects RX12 yX12_parted yX12_parted ∈ wsL_law := ch_51 _ (List.mem_of_getElem? (i := 18) rfl)
theorem m_51_19 : Cond.code yX12_parted cX12_parted 7 (some .int) ∈ wsL_law := ch_51 _ (List.mem_of_getElem? (i := 19) rfl)
theorem m_52_16 : Cond.methodLink RL 147 yX11_partedAt ∈ wsL_law := ch_52 _ (List.mem_of_getElem? (i := 16) rfl)
theorem m_52_17 : Cond.instanceMethod yX11_partedAt ∈ wsL_law := ch_52 _ (List.mem_of_getElem? (i := 17) rfl)
theorem m_52_18 : Cond.selects RX11 yX11_partedAt yX11_partedAt ∈ wsL_law := ch_52 _ (List.mem_of_getElem? (i := 18) rfl)
theorem m_52_19 : Cond.code yX11_partedAt cX11_partedAt 2 (some .int) ∈ wsL_law := ch_52 _ (List.mem_of_getElem? (i := 19) rfl)
theorem m_52_22 : Cond.methodLink RL 150 yX12_partedAt ∈ wsL_law := ch_52 _ (List.mem_of_getElem? (i := 22) rfl)
theorem m_52_23 : Cond.instanceMethod yX12_partedAt ∈ wsL_law := ch_52 _ (List.mem_of_getElem? (i := 23) rfl)
theorem m_53_0 : Cond.selects RX12 yX12_partedAt yX12_partedAt ∈ wsL_law := ch_53 _ (List.mem_of_getElem? (i := 0) rfl)
theorem m_53_1 : Cond.code yX12_partedAt cX12_partedAt 2 (some .int) ∈ wsL_law := ch_53 _ (List.mem_of_getElem? (i := 1) rfl)
theorem m_53_2 : Cond.methodLink RL 151 yX11_peace ∈ wsL_law := ch_53 _ (List.mem_of_getElem? (i := 2) rfl)
theorem m_53_3 : Cond.instanceMethod yX11_peace ∈ wsL_law := ch_53 _ (List.mem_of_getElem? (i := 3) rfl)
theorem m_53_4 : Cond.selects RX11 yX11_peace yX11_peace ∈ wsL_law := ch_53 _ (List.mem_of_getElem? (i := 4) rfl)
theorem m_53_5 : Cond.code yX11_peace cX11_peace 2 (some .int) ∈ wsL_law := ch_53 _ (List.mem_of_getElem? (i := 5) rfl)
theorem m_53_10 : Cond.methodLink RL 154 yX12_peace ∈ wsL_law := ch_53 _ (List.mem_of_getElem? (i := 10) rfl)
theorem m_53_11 : Cond.instanceMethod yX12_peace ∈ wsL_law := ch_53 _ (List.mem_of_getElem? (i := 11) rfl)
theorem m_53_12 : Cond.selects RX12 yX12_peace yX12_peace ∈ wsL_law := ch_53 _ (List.mem_of_getElem? (i := 12) rfl)
theorem m_53_13 : Cond.code yX12_peace cX12_peace 2 (some .int) ∈ wsL_law := ch_53 _ (List.mem_of_getElem? (i := 13) rfl)
theorem m_53_14 : Cond.methodLink RL 155 yX11_truck ∈ wsL_law := ch_53 _ (List.mem_of_getElem? (i := 14) rfl)
theorem m_53_15 : Cond.instanceMethod yX11_truck ∈ wsL_law := ch_53 _ (List.mem_of_getElem? (i := 15) rfl)
theorem m_53_16 : Cond.selects RX11 yX11_truck yX11_truck ∈ wsL_law := ch_53 _ (List.mem_of_getElem? (i := 16) rfl)
theorem m_53_17 : Cond.code yX11_truck cX11_truck 2 (some .int) ∈ wsL_law := ch_53 _ (List.mem_of_getElem? (i := 17) rfl)
theorem m_55_10 : Cond.methodLink RL 158 yX12_truck ∈ wsL_law := ch_55 _ (List.mem_of_getElem? (i := 10) rfl)
theorem m_55_11 : Cond.instanceMethod yX12_truck ∈ wsL_law := ch_55 _ (List.mem_of_getElem? (i := 11) rfl)
theorem m_55_12 : Cond.selects RX12 yX12_truck yX12_truck ∈ wsL_law := ch_55 _ (List.mem_of_getElem? (i := 12) rfl)
theorem m_55_13 : Cond.code yX12_truck cX12_truck 7 (some .int) ∈ wsL_law := ch_55 _ (List.mem_of_getElem? (i := 13) rfl)
theorem m_56_2 : Cond.methodLink RL 159 yX11_truckAt ∈ wsL_law := ch_56 _ (List.mem_of_getElem? (i := 2) rfl)
theorem m_56_3 : Cond.instanceMethod yX11_truckAt ∈ wsL_law := ch_56 _ (List.mem_of_getElem? (i := 3) rfl)
theorem m_56_4 : Cond.selects RX11 yX11_truckAt yX11_truckAt ∈ wsL_law := ch_56 _ (List.mem_of_getElem? (i := 4) rfl)
theorem m_56_5 : Cond.code yX11_truckAt cX11_truckAt 2 (some .int) ∈ wsL_law := ch_56 _ (List.mem_of_getElem? (i := 5) rfl)
theorem m_56_8 : Cond.methodLink RL 162 yX12_truckAt ∈ wsL_law := ch_56 _ (List.mem_of_getElem? (i := 8) rfl)
theorem m_56_9 : Cond.instanceMethod yX12_truckAt ∈ wsL_law := ch_56 _ (List.mem_of_getElem? (i := 9) rfl)
theorem m_56_10 : Cond.selects RX12 yX12_truckAt yX12_truckAt ∈ wsL_law := ch_56 _ (List.mem_of_getElem? (i := 10) rfl)
theorem m_56_11 : Cond.code yX12_truckAt cX12_truckAt 2 (some .int) ∈ wsL_law := ch_56 _ (List.mem_of_getElem? (i := 11) rfl)
theorem m_56_12 : Cond.methodLink RL 163 yX11_strike ∈ wsL_law := ch_56 _ (List.mem_of_getElem? (i := 12) rfl)
theorem m_56_13 : Cond.instanceMethod yX11_strike ∈ wsL_law := ch_56 _ (List.mem_of_getElem? (i := 13) rfl)
theorem m_56_14 : Cond.selects RX11 yX11_strike yX11_strike ∈ wsL_law := ch_56 _ (List.mem_of_getElem? (i := 14) rfl)
theorem m_56_15 : Cond.code yX11_strike cX11_strike 7 (some .int) ∈ wsL_law := ch_56 _ (List.mem_of_getElem? (i := 15) rfl)
theorem m_57_5 : Cond.methodLink RL 166 yX12_strike ∈ wsL_law := ch_57 _ (List.mem_of_getElem? (i := 5) rfl)
theorem m_57_6 : Cond.instanceMethod yX12_strike ∈ wsL_law := ch_57 _ (List.mem_of_getElem? (i := 6) rfl)
theorem m_57_7 : Cond.selects RX12 yX12_strike yX12_strike ∈ wsL_law := ch_57 _ (List.mem_of_getElem? (i := 7) rfl)
theorem m_57_8 : Cond.code yX12_strike cX12_strike 13 (some .int) ∈ wsL_law := ch_57 _ (List.mem_of_getElem? (i := 8) rfl)
theorem m_57_12 : Cond.methodLink RL 167 yX11_struck ∈ wsL_law := ch_57 _ (List.mem_of_getElem? (i := 12) rfl)
theorem m_57_13 : Cond.instanceMethod yX11_struck ∈ wsL_law := ch_57 _ (List.mem_of_getElem? (i := 13) rfl)
theorem m_57_14 : Cond.selects RX11 yX11_struck yX11_struck ∈ wsL_law := ch_57 _ (List.mem_of_getElem? (i := 14) rfl)
theorem m_57_15 : Cond.code yX11_struck cX11_struck 2 (some .int) ∈ wsL_law := ch_57 _ (List.mem_of_getElem? (i := 15) rfl)
theorem m_57_16 : Cond.methodLink RL 170 yX12_struck ∈ wsL_law := ch_57 _ (List.mem_of_getElem? (i := 16) rfl)
theorem m_57_17 : Cond.instanceMethod yX12_struck ∈ wsL_law := ch_57 _ (List.mem_of_getElem? (i := 17) rfl)
theorem m_57_18 : Cond.selects RX12 yX12_struck yX12_struck ∈ wsL_law := ch_57 _ (List.mem_of_getElem? (i := 18) rfl)
theorem m_57_19 : Cond.code yX12_struck cX12_struck 2 (some .int) ∈ wsL_law := ch_57 _ (List.mem_of_getElem? (i := 19) rfl)
theorem m_57_20 : Cond.methodLink RL 171 yX11_count ∈ wsL_law := ch_57 _ (List.mem_of_getElem? (i := 20) rfl)
theorem m_57_21 : Cond.instanceMethod yX11_count ∈ wsL_law := ch_57 _ (List.mem_of_getElem? (i := 21) rfl)
theorem m_57_22 : Cond.selects RX11 yX11_count yX11_count ∈ wsL_law := ch_57 _ (List.mem_of_getElem? (i := 22) rfl)
theorem m_57_23 : Cond.code yX11_count cX11_count 2 (some .int) ∈ wsL_law := ch_57 _ (List.mem_of_getElem? (i := 23) rfl)
theorem m_58_0 : Cond.methodLink RL 174 yX12_count ∈ wsL_law := ch_58 _ (List.mem_of_getElem? (i := 0) rfl)
theorem m_58_1 : Cond.instanceMethod yX12_count ∈ wsL_law := ch_58 _ (List.mem_of_getElem? (i := 1) rfl)
theorem m_58_2 : Cond.selects RX12 yX12_count yX12_count ∈ wsL_law := ch_58 _ (List.mem_of_getElem? (i := 2) rfl)
theorem m_58_3 : Cond.code yX12_count cX12_count 2 (some .int) ∈ wsL_law := ch_58 _ (List.mem_of_getElem? (i := 3) rfl)
theorem dL_law_0 : decode cL_law 0 = .ok (.new 8, 3) := by decide +kernel
theorem dL_law_3 : decode cL_law 3 = .ok (.dup, 1) := by decide +kernel
theorem dL_law_4 : decode cL_law 4 = .ok (.invokespecial 19, 3) := by decide +kernel
theorem dL_law_7 : decode cL_law 7 = .ok (.astore_n 1, 1) := by decide +kernel
theorem dL_law_8 : decode cL_law 8 = .ok (.new 20, 3) := by decide +kernel
theorem dL_law_11 : decode cL_law 11 = .ok (.dup, 1) := by decide +kernel
theorem dL_law_12 : decode cL_law 12 = .ok (.invokespecial 22, 3) := by decide +kernel
theorem dL_law_15 : decode cL_law 15 = .ok (.astore_n 2, 1) := by decide +kernel
theorem dL_law_16 : decode cL_law 16 = .ok (.iconst 1, 1) := by decide +kernel
theorem dL_law_17 : decode cL_law 17 = .ok (.newarray .long, 2) := by decide +kernel
theorem dL_law_19 : decode cL_law 19 = .ok (.astore_n 3, 1) := by decide +kernel
theorem dL_law_20 : decode cL_law 20 = .ok (.iconst 0, 1) := by decide +kernel
theorem dL_law_21 : decode cL_law 21 = .ok (.istore 4, 2) := by decide +kernel
theorem dL_law_23 : decode cL_law 23 = .ok (.iload 4, 2) := by decide +kernel
theorem dL_law_25 : decode cL_law 25 = .ok (.aload_n 0, 1) := by decide +kernel
theorem dL_law_26 : decode cL_law 26 = .ok (.arraylength, 1) := by decide +kernel
theorem dL_law_27 : decode cL_law 27 = .ok (.bipush 6, 2) := by decide +kernel
theorem dL_law_29 : decode cL_law 29 = .ok (.isub, 1) := by decide +kernel
theorem dL_law_30 : decode cL_law 30 = .ok (.if_icmp .gt 1441, 3) := by decide +kernel
theorem dL_law_33 : decode cL_law 33 = .ok (.aload_n 0, 1) := by decide +kernel
theorem dL_law_34 : decode cL_law 34 = .ok (.iload 4, 2) := by decide +kernel
theorem dL_law_36 : decode cL_law 36 = .ok (.iaload, 1) := by decide +kernel
theorem dL_law_37 : decode cL_law 37 = .ok (.bipush 63, 2) := by decide +kernel
theorem dL_law_39 : decode cL_law 39 = .ok (.iand, 1) := by decide +kernel
theorem dL_law_40 : decode cL_law 40 = .ok (.tableswitch 1425 0 34 #[156, 229, 254, 331, 368, 405, 418, 443, 492, 541, 590, 651, 700, 725, 738, 811, 848, 861, 874, 914, 942, 1003, 1028, 1053, 1126, 1139, 1152, 1165, 1214, 1239, 1264, 1277, 1302, 1375, 1400], 156) := by decide +kernel
theorem dL_law_196 : decode cL_law 196 = .ok (.aload_n 1, 1) := by decide +kernel
theorem dL_law_197 : decode cL_law 197 = .ok (.aload_n 0, 1) := by decide +kernel
theorem dL_law_198 : decode cL_law 198 = .ok (.iload 4, 2) := by decide +kernel
theorem dL_law_200 : decode cL_law 200 = .ok (.iconst 1, 1) := by decide +kernel
theorem dL_law_201 : decode cL_law 201 = .ok (.iadd, 1) := by decide +kernel
theorem dL_law_202 : decode cL_law 202 = .ok (.iaload, 1) := by decide +kernel
theorem dL_law_203 : decode cL_law 203 = .ok (.aload_n 0, 1) := by decide +kernel
theorem dL_law_204 : decode cL_law 204 = .ok (.iload 4, 2) := by decide +kernel
theorem dL_law_206 : decode cL_law 206 = .ok (.iconst 2, 1) := by decide +kernel
theorem dL_law_207 : decode cL_law 207 = .ok (.iadd, 1) := by decide +kernel
theorem dL_law_208 : decode cL_law 208 = .ok (.iaload, 1) := by decide +kernel
theorem dL_law_209 : decode cL_law 209 = .ok (.aload_n 0, 1) := by decide +kernel
theorem dL_law_210 : decode cL_law 210 = .ok (.iload 4, 2) := by decide +kernel
theorem dL_law_212 : decode cL_law 212 = .ok (.iconst 3, 1) := by decide +kernel
theorem dL_law_213 : decode cL_law 213 = .ok (.iadd, 1) := by decide +kernel
theorem dL_law_214 : decode cL_law 214 = .ok (.iaload, 1) := by decide +kernel
theorem dL_law_215 : decode cL_law 215 = .ok (.aload_n 0, 1) := by decide +kernel
theorem dL_law_216 : decode cL_law 216 = .ok (.iload 4, 2) := by decide +kernel
theorem dL_law_218 : decode cL_law 218 = .ok (.iconst 4, 1) := by decide +kernel
theorem dL_law_219 : decode cL_law 219 = .ok (.iadd, 1) := by decide +kernel
theorem dL_law_220 : decode cL_law 220 = .ok (.iaload, 1) := by decide +kernel
theorem dL_law_221 : decode cL_law 221 = .ok (.aload_n 0, 1) := by decide +kernel
theorem dL_law_222 : decode cL_law 222 = .ok (.iload 4, 2) := by decide +kernel
theorem dL_law_224 : decode cL_law 224 = .ok (.iconst 5, 1) := by decide +kernel
theorem dL_law_225 : decode cL_law 225 = .ok (.iadd, 1) := by decide +kernel
theorem dL_law_226 : decode cL_law 226 = .ok (.iaload, 1) := by decide +kernel
theorem dL_law_227 : decode cL_law 227 = .ok (.invokevirtual 23, 3) := by decide +kernel
theorem dL_law_230 : decode cL_law 230 = .ok (.pop, 1) := by decide +kernel
theorem dL_law_231 : decode cL_law 231 = .ok (.aload_n 2, 1) := by decide +kernel
theorem dL_law_232 : decode cL_law 232 = .ok (.aload_n 0, 1) := by decide +kernel
theorem dL_law_233 : decode cL_law 233 = .ok (.iload 4, 2) := by decide +kernel
theorem dL_law_235 : decode cL_law 235 = .ok (.iconst 1, 1) := by decide +kernel
theorem dL_law_236 : decode cL_law 236 = .ok (.iadd, 1) := by decide +kernel
theorem dL_law_237 : decode cL_law 237 = .ok (.iaload, 1) := by decide +kernel
theorem dL_law_238 : decode cL_law 238 = .ok (.aload_n 0, 1) := by decide +kernel
theorem dL_law_239 : decode cL_law 239 = .ok (.iload 4, 2) := by decide +kernel
theorem dL_law_241 : decode cL_law 241 = .ok (.iconst 2, 1) := by decide +kernel
theorem dL_law_242 : decode cL_law 242 = .ok (.iadd, 1) := by decide +kernel
theorem dL_law_243 : decode cL_law 243 = .ok (.iaload, 1) := by decide +kernel
theorem dL_law_244 : decode cL_law 244 = .ok (.aload_n 0, 1) := by decide +kernel
theorem dL_law_245 : decode cL_law 245 = .ok (.iload 4, 2) := by decide +kernel
theorem dL_law_247 : decode cL_law 247 = .ok (.iconst 3, 1) := by decide +kernel
theorem dL_law_248 : decode cL_law 248 = .ok (.iadd, 1) := by decide +kernel
theorem dL_law_249 : decode cL_law 249 = .ok (.iaload, 1) := by decide +kernel
theorem dL_law_250 : decode cL_law 250 = .ok (.aload_n 0, 1) := by decide +kernel
theorem dL_law_251 : decode cL_law 251 = .ok (.iload 4, 2) := by decide +kernel
theorem dL_law_253 : decode cL_law 253 = .ok (.iconst 4, 1) := by decide +kernel
theorem dL_law_254 : decode cL_law 254 = .ok (.iadd, 1) := by decide +kernel
theorem dL_law_255 : decode cL_law 255 = .ok (.iaload, 1) := by decide +kernel
theorem dL_law_256 : decode cL_law 256 = .ok (.aload_n 0, 1) := by decide +kernel
theorem dL_law_257 : decode cL_law 257 = .ok (.iload 4, 2) := by decide +kernel
theorem dL_law_259 : decode cL_law 259 = .ok (.iconst 5, 1) := by decide +kernel
theorem dL_law_260 : decode cL_law 260 = .ok (.iadd, 1) := by decide +kernel
theorem dL_law_261 : decode cL_law 261 = .ok (.iaload, 1) := by decide +kernel
theorem dL_law_262 : decode cL_law 262 = .ok (.invokevirtual 27, 3) := by decide +kernel
theorem dL_law_265 : decode cL_law 265 = .ok (.pop, 1) := by decide +kernel
theorem dL_law_266 : decode cL_law 266 = .ok (.goto 1199, 3) := by decide +kernel
theorem dL_law_269 : decode cL_law 269 = .ok (.aload_n 1, 1) := by decide +kernel
theorem dL_law_270 : decode cL_law 270 = .ok (.aload_n 0, 1) := by decide +kernel
theorem dL_law_271 : decode cL_law 271 = .ok (.iload 4, 2) := by decide +kernel
theorem dL_law_273 : decode cL_law 273 = .ok (.iconst 1, 1) := by decide +kernel
theorem dL_law_274 : decode cL_law 274 = .ok (.iadd, 1) := by decide +kernel
theorem dL_law_275 : decode cL_law 275 = .ok (.iaload, 1) := by decide +kernel
theorem dL_law_276 : decode cL_law 276 = .ok (.invokevirtual 28, 3) := by decide +kernel
theorem dL_law_279 : decode cL_law 279 = .ok (.pop, 1) := by decide +kernel
theorem dL_law_280 : decode cL_law 280 = .ok (.aload_n 2, 1) := by decide +kernel
theorem dL_law_281 : decode cL_law 281 = .ok (.aload_n 0, 1) := by decide +kernel
theorem dL_law_282 : decode cL_law 282 = .ok (.iload 4, 2) := by decide +kernel
theorem dL_law_284 : decode cL_law 284 = .ok (.iconst 1, 1) := by decide +kernel
theorem dL_law_285 : decode cL_law 285 = .ok (.iadd, 1) := by decide +kernel
theorem dL_law_286 : decode cL_law 286 = .ok (.iaload, 1) := by decide +kernel
theorem dL_law_287 : decode cL_law 287 = .ok (.invokevirtual 32, 3) := by decide +kernel
theorem dL_law_290 : decode cL_law 290 = .ok (.pop, 1) := by decide +kernel
theorem dL_law_291 : decode cL_law 291 = .ok (.goto 1174, 3) := by decide +kernel
theorem dL_law_294 : decode cL_law 294 = .ok (.aload_n 1, 1) := by decide +kernel
theorem dL_law_295 : decode cL_law 295 = .ok (.aload_n 0, 1) := by decide +kernel
theorem dL_law_296 : decode cL_law 296 = .ok (.iload 4, 2) := by decide +kernel
theorem dL_law_298 : decode cL_law 298 = .ok (.iconst 1, 1) := by decide +kernel
theorem dL_law_299 : decode cL_law 299 = .ok (.iadd, 1) := by decide +kernel
theorem dL_law_300 : decode cL_law 300 = .ok (.iaload, 1) := by decide +kernel
theorem dL_law_301 : decode cL_law 301 = .ok (.aload_n 0, 1) := by decide +kernel
theorem dL_law_302 : decode cL_law 302 = .ok (.iload 4, 2) := by decide +kernel
theorem dL_law_304 : decode cL_law 304 = .ok (.iconst 2, 1) := by decide +kernel
theorem dL_law_305 : decode cL_law 305 = .ok (.iadd, 1) := by decide +kernel
theorem dL_law_306 : decode cL_law 306 = .ok (.iaload, 1) := by decide +kernel
theorem dL_law_307 : decode cL_law 307 = .ok (.ifCond .eq 7, 3) := by decide +kernel
theorem dL_law_310 : decode cL_law 310 = .ok (.iconst 1, 1) := by decide +kernel
theorem dL_law_311 : decode cL_law 311 = .ok (.goto 4, 3) := by decide +kernel
theorem dL_law_314 : decode cL_law 314 = .ok (.iconst 0, 1) := by decide +kernel
theorem dL_law_315 : decode cL_law 315 = .ok (.aload_n 0, 1) := by decide +kernel
theorem dL_law_316 : decode cL_law 316 = .ok (.iload 4, 2) := by decide +kernel
theorem dL_law_318 : decode cL_law 318 = .ok (.iconst 3, 1) := by decide +kernel
theorem dL_law_319 : decode cL_law 319 = .ok (.iadd, 1) := by decide +kernel
theorem dL_law_320 : decode cL_law 320 = .ok (.iaload, 1) := by decide +kernel
theorem dL_law_321 : decode cL_law 321 = .ok (.aload_n 0, 1) := by decide +kernel
theorem dL_law_322 : decode cL_law 322 = .ok (.iload 4, 2) := by decide +kernel
theorem dL_law_324 : decode cL_law 324 = .ok (.iconst 4, 1) := by decide +kernel
theorem dL_law_325 : decode cL_law 325 = .ok (.iadd, 1) := by decide +kernel
theorem dL_law_326 : decode cL_law 326 = .ok (.iaload, 1) := by decide +kernel
theorem dL_law_327 : decode cL_law 327 = .ok (.invokevirtual 33, 3) := by decide +kernel
theorem dL_law_330 : decode cL_law 330 = .ok (.pop, 1) := by decide +kernel
theorem dL_law_331 : decode cL_law 331 = .ok (.aload_n 2, 1) := by decide +kernel
theorem dL_law_332 : decode cL_law 332 = .ok (.aload_n 0, 1) := by decide +kernel
theorem dL_law_333 : decode cL_law 333 = .ok (.iload 4, 2) := by decide +kernel
theorem dL_law_335 : decode cL_law 335 = .ok (.iconst 1, 1) := by decide +kernel
theorem dL_law_336 : decode cL_law 336 = .ok (.iadd, 1) := by decide +kernel
theorem dL_law_337 : decode cL_law 337 = .ok (.iaload, 1) := by decide +kernel
theorem dL_law_338 : decode cL_law 338 = .ok (.aload_n 0, 1) := by decide +kernel
theorem dL_law_339 : decode cL_law 339 = .ok (.iload 4, 2) := by decide +kernel
theorem dL_law_341 : decode cL_law 341 = .ok (.iconst 2, 1) := by decide +kernel
theorem dL_law_342 : decode cL_law 342 = .ok (.iadd, 1) := by decide +kernel
theorem dL_law_343 : decode cL_law 343 = .ok (.iaload, 1) := by decide +kernel
theorem dL_law_344 : decode cL_law 344 = .ok (.ifCond .eq 7, 3) := by decide +kernel
theorem dL_law_347 : decode cL_law 347 = .ok (.iconst 1, 1) := by decide +kernel
theorem dL_law_348 : decode cL_law 348 = .ok (.goto 4, 3) := by decide +kernel
theorem dL_law_351 : decode cL_law 351 = .ok (.iconst 0, 1) := by decide +kernel
theorem dL_law_352 : decode cL_law 352 = .ok (.aload_n 0, 1) := by decide +kernel
theorem dL_law_353 : decode cL_law 353 = .ok (.iload 4, 2) := by decide +kernel
theorem dL_law_355 : decode cL_law 355 = .ok (.iconst 3, 1) := by decide +kernel
theorem dL_law_356 : decode cL_law 356 = .ok (.iadd, 1) := by decide +kernel
theorem dL_law_357 : decode cL_law 357 = .ok (.iaload, 1) := by decide +kernel
theorem dL_law_358 : decode cL_law 358 = .ok (.aload_n 0, 1) := by decide +kernel
theorem dL_law_359 : decode cL_law 359 = .ok (.iload 4, 2) := by decide +kernel
theorem dL_law_361 : decode cL_law 361 = .ok (.iconst 4, 1) := by decide +kernel
theorem dL_law_362 : decode cL_law 362 = .ok (.iadd, 1) := by decide +kernel
theorem dL_law_363 : decode cL_law 363 = .ok (.iaload, 1) := by decide +kernel
theorem dL_law_364 : decode cL_law 364 = .ok (.invokevirtual 37, 3) := by decide +kernel
theorem dL_law_367 : decode cL_law 367 = .ok (.pop, 1) := by decide +kernel
theorem dL_law_368 : decode cL_law 368 = .ok (.goto 1097, 3) := by decide +kernel
theorem dL_law_371 : decode cL_law 371 = .ok (.aload_n 1, 1) := by decide +kernel
theorem dL_law_372 : decode cL_law 372 = .ok (.aload_n 0, 1) := by decide +kernel
theorem dL_law_373 : decode cL_law 373 = .ok (.iload 4, 2) := by decide +kernel
theorem dL_law_375 : decode cL_law 375 = .ok (.iconst 1, 1) := by decide +kernel
theorem dL_law_376 : decode cL_law 376 = .ok (.iadd, 1) := by decide +kernel
theorem dL_law_377 : decode cL_law 377 = .ok (.iaload, 1) := by decide +kernel
theorem dL_law_378 : decode cL_law 378 = .ok (.aload_n 0, 1) := by decide +kernel
theorem dL_law_379 : decode cL_law 379 = .ok (.iload 4, 2) := by decide +kernel
theorem dL_law_381 : decode cL_law 381 = .ok (.iconst 2, 1) := by decide +kernel
theorem dL_law_382 : decode cL_law 382 = .ok (.iadd, 1) := by decide +kernel
theorem dL_law_383 : decode cL_law 383 = .ok (.iaload, 1) := by decide +kernel
theorem dL_law_384 : decode cL_law 384 = .ok (.invokevirtual 38, 3) := by decide +kernel
theorem dL_law_387 : decode cL_law 387 = .ok (.pop, 1) := by decide +kernel
theorem dL_law_388 : decode cL_law 388 = .ok (.aload_n 2, 1) := by decide +kernel
theorem dL_law_389 : decode cL_law 389 = .ok (.aload_n 0, 1) := by decide +kernel
theorem dL_law_390 : decode cL_law 390 = .ok (.iload 4, 2) := by decide +kernel
theorem dL_law_392 : decode cL_law 392 = .ok (.iconst 1, 1) := by decide +kernel
theorem dL_law_393 : decode cL_law 393 = .ok (.iadd, 1) := by decide +kernel
theorem dL_law_394 : decode cL_law 394 = .ok (.iaload, 1) := by decide +kernel
theorem dL_law_395 : decode cL_law 395 = .ok (.aload_n 0, 1) := by decide +kernel
theorem dL_law_396 : decode cL_law 396 = .ok (.iload 4, 2) := by decide +kernel
theorem dL_law_398 : decode cL_law 398 = .ok (.iconst 2, 1) := by decide +kernel
theorem dL_law_399 : decode cL_law 399 = .ok (.iadd, 1) := by decide +kernel
theorem dL_law_400 : decode cL_law 400 = .ok (.iaload, 1) := by decide +kernel
theorem dL_law_401 : decode cL_law 401 = .ok (.invokevirtual 42, 3) := by decide +kernel
theorem dL_law_404 : decode cL_law 404 = .ok (.pop, 1) := by decide +kernel
theorem dL_law_405 : decode cL_law 405 = .ok (.goto 1060, 3) := by decide +kernel
theorem dL_law_408 : decode cL_law 408 = .ok (.aload_n 1, 1) := by decide +kernel
theorem dL_law_409 : decode cL_law 409 = .ok (.aload_n 0, 1) := by decide +kernel
theorem dL_law_410 : decode cL_law 410 = .ok (.iload 4, 2) := by decide +kernel
theorem dL_law_412 : decode cL_law 412 = .ok (.iconst 1, 1) := by decide +kernel
theorem dL_law_413 : decode cL_law 413 = .ok (.iadd, 1) := by decide +kernel
theorem dL_law_414 : decode cL_law 414 = .ok (.iaload, 1) := by decide +kernel
theorem dL_law_415 : decode cL_law 415 = .ok (.aload_n 0, 1) := by decide +kernel
theorem dL_law_416 : decode cL_law 416 = .ok (.iload 4, 2) := by decide +kernel
theorem dL_law_418 : decode cL_law 418 = .ok (.iconst 2, 1) := by decide +kernel
theorem dL_law_419 : decode cL_law 419 = .ok (.iadd, 1) := by decide +kernel
theorem dL_law_420 : decode cL_law 420 = .ok (.iaload, 1) := by decide +kernel
theorem dL_law_421 : decode cL_law 421 = .ok (.invokevirtual 43, 3) := by decide +kernel
theorem dL_law_424 : decode cL_law 424 = .ok (.pop, 1) := by decide +kernel
theorem dL_law_425 : decode cL_law 425 = .ok (.aload_n 2, 1) := by decide +kernel
theorem dL_law_426 : decode cL_law 426 = .ok (.aload_n 0, 1) := by decide +kernel
theorem dL_law_427 : decode cL_law 427 = .ok (.iload 4, 2) := by decide +kernel
theorem dL_law_429 : decode cL_law 429 = .ok (.iconst 1, 1) := by decide +kernel
theorem dL_law_430 : decode cL_law 430 = .ok (.iadd, 1) := by decide +kernel
theorem dL_law_431 : decode cL_law 431 = .ok (.iaload, 1) := by decide +kernel
theorem dL_law_432 : decode cL_law 432 = .ok (.aload_n 0, 1) := by decide +kernel
theorem dL_law_433 : decode cL_law 433 = .ok (.iload 4, 2) := by decide +kernel
theorem dL_law_435 : decode cL_law 435 = .ok (.iconst 2, 1) := by decide +kernel
theorem dL_law_436 : decode cL_law 436 = .ok (.iadd, 1) := by decide +kernel
theorem dL_law_437 : decode cL_law 437 = .ok (.iaload, 1) := by decide +kernel
theorem dL_law_438 : decode cL_law 438 = .ok (.invokevirtual 46, 3) := by decide +kernel
theorem dL_law_441 : decode cL_law 441 = .ok (.pop, 1) := by decide +kernel
theorem dL_law_442 : decode cL_law 442 = .ok (.goto 1023, 3) := by decide +kernel
theorem dL_law_445 : decode cL_law 445 = .ok (.aload_n 1, 1) := by decide +kernel
theorem dL_law_446 : decode cL_law 446 = .ok (.invokevirtual 47, 3) := by decide +kernel
theorem dL_law_449 : decode cL_law 449 = .ok (.pop, 1) := by decide +kernel
theorem dL_law_450 : decode cL_law 450 = .ok (.aload_n 2, 1) := by decide +kernel
theorem dL_law_451 : decode cL_law 451 = .ok (.invokevirtual 51, 3) := by decide +kernel
theorem dL_law_454 : decode cL_law 454 = .ok (.pop, 1) := by decide +kernel
theorem dL_law_455 : decode cL_law 455 = .ok (.goto 1010, 3) := by decide +kernel
theorem dL_law_458 : decode cL_law 458 = .ok (.aload_n 1, 1) := by decide +kernel
theorem dL_law_459 : decode cL_law 459 = .ok (.aload_n 0, 1) := by decide +kernel
theorem dL_law_460 : decode cL_law 460 = .ok (.iload 4, 2) := by decide +kernel
theorem dL_law_462 : decode cL_law 462 = .ok (.iconst 1, 1) := by decide +kernel
theorem dL_law_463 : decode cL_law 463 = .ok (.iadd, 1) := by decide +kernel
theorem dL_law_464 : decode cL_law 464 = .ok (.iaload, 1) := by decide +kernel
theorem dL_law_465 : decode cL_law 465 = .ok (.invokevirtual 52, 3) := by decide +kernel
theorem dL_law_468 : decode cL_law 468 = .ok (.pop, 1) := by decide +kernel
theorem dL_law_469 : decode cL_law 469 = .ok (.aload_n 2, 1) := by decide +kernel
theorem dL_law_470 : decode cL_law 470 = .ok (.aload_n 0, 1) := by decide +kernel
theorem dL_law_471 : decode cL_law 471 = .ok (.iload 4, 2) := by decide +kernel
theorem dL_law_473 : decode cL_law 473 = .ok (.iconst 1, 1) := by decide +kernel
theorem dL_law_474 : decode cL_law 474 = .ok (.iadd, 1) := by decide +kernel
theorem dL_law_475 : decode cL_law 475 = .ok (.iaload, 1) := by decide +kernel
theorem dL_law_476 : decode cL_law 476 = .ok (.invokevirtual 55, 3) := by decide +kernel
theorem dL_law_479 : decode cL_law 479 = .ok (.pop, 1) := by decide +kernel
theorem dL_law_480 : decode cL_law 480 = .ok (.goto 985, 3) := by decide +kernel
theorem dL_law_483 : decode cL_law 483 = .ok (.aload_n 1, 1) := by decide +kernel
theorem dL_law_484 : decode cL_law 484 = .ok (.aload_n 0, 1) := by decide +kernel
theorem dL_law_485 : decode cL_law 485 = .ok (.iload 4, 2) := by decide +kernel
theorem dL_law_487 : decode cL_law 487 = .ok (.iconst 1, 1) := by decide +kernel
theorem dL_law_488 : decode cL_law 488 = .ok (.iadd, 1) := by decide +kernel
theorem dL_law_489 : decode cL_law 489 = .ok (.iaload, 1) := by decide +kernel
theorem dL_law_490 : decode cL_law 490 = .ok (.aload_n 0, 1) := by decide +kernel
theorem dL_law_491 : decode cL_law 491 = .ok (.iload 4, 2) := by decide +kernel
theorem dL_law_493 : decode cL_law 493 = .ok (.iconst 2, 1) := by decide +kernel
theorem dL_law_494 : decode cL_law 494 = .ok (.iadd, 1) := by decide +kernel
theorem dL_law_495 : decode cL_law 495 = .ok (.iaload, 1) := by decide +kernel
theorem dL_law_496 : decode cL_law 496 = .ok (.aload_n 0, 1) := by decide +kernel
theorem dL_law_497 : decode cL_law 497 = .ok (.iload 4, 2) := by decide +kernel
theorem dL_law_499 : decode cL_law 499 = .ok (.iconst 3, 1) := by decide +kernel
theorem dL_law_500 : decode cL_law 500 = .ok (.iadd, 1) := by decide +kernel
theorem dL_law_501 : decode cL_law 501 = .ok (.iaload, 1) := by decide +kernel
theorem dL_law_502 : decode cL_law 502 = .ok (.invokevirtual 56, 3) := by decide +kernel
theorem dL_law_505 : decode cL_law 505 = .ok (.pop, 1) := by decide +kernel
theorem dL_law_506 : decode cL_law 506 = .ok (.aload_n 2, 1) := by decide +kernel
theorem dL_law_507 : decode cL_law 507 = .ok (.aload_n 0, 1) := by decide +kernel
theorem dL_law_508 : decode cL_law 508 = .ok (.iload 4, 2) := by decide +kernel
theorem dL_law_510 : decode cL_law 510 = .ok (.iconst 1, 1) := by decide +kernel
theorem dL_law_511 : decode cL_law 511 = .ok (.iadd, 1) := by decide +kernel
theorem dL_law_512 : decode cL_law 512 = .ok (.iaload, 1) := by decide +kernel
theorem dL_law_513 : decode cL_law 513 = .ok (.aload_n 0, 1) := by decide +kernel
theorem dL_law_514 : decode cL_law 514 = .ok (.iload 4, 2) := by decide +kernel
theorem dL_law_516 : decode cL_law 516 = .ok (.iconst 2, 1) := by decide +kernel
theorem dL_law_517 : decode cL_law 517 = .ok (.iadd, 1) := by decide +kernel
theorem dL_law_518 : decode cL_law 518 = .ok (.iaload, 1) := by decide +kernel
theorem dL_law_519 : decode cL_law 519 = .ok (.aload_n 0, 1) := by decide +kernel
theorem dL_law_520 : decode cL_law 520 = .ok (.iload 4, 2) := by decide +kernel
theorem dL_law_522 : decode cL_law 522 = .ok (.iconst 3, 1) := by decide +kernel
theorem dL_law_523 : decode cL_law 523 = .ok (.iadd, 1) := by decide +kernel
theorem dL_law_524 : decode cL_law 524 = .ok (.iaload, 1) := by decide +kernel
theorem dL_law_525 : decode cL_law 525 = .ok (.invokevirtual 60, 3) := by decide +kernel
theorem dL_law_528 : decode cL_law 528 = .ok (.pop, 1) := by decide +kernel
theorem dL_law_529 : decode cL_law 529 = .ok (.goto 936, 3) := by decide +kernel
theorem dL_law_532 : decode cL_law 532 = .ok (.aload_n 1, 1) := by decide +kernel
theorem dL_law_533 : decode cL_law 533 = .ok (.aload_n 0, 1) := by decide +kernel
theorem dL_law_534 : decode cL_law 534 = .ok (.iload 4, 2) := by decide +kernel
theorem dL_law_536 : decode cL_law 536 = .ok (.iconst 1, 1) := by decide +kernel
theorem dL_law_537 : decode cL_law 537 = .ok (.iadd, 1) := by decide +kernel
theorem dL_law_538 : decode cL_law 538 = .ok (.iaload, 1) := by decide +kernel
theorem dL_law_539 : decode cL_law 539 = .ok (.aload_n 0, 1) := by decide +kernel
theorem dL_law_540 : decode cL_law 540 = .ok (.iload 4, 2) := by decide +kernel
theorem dL_law_542 : decode cL_law 542 = .ok (.iconst 2, 1) := by decide +kernel
theorem dL_law_543 : decode cL_law 543 = .ok (.iadd, 1) := by decide +kernel
theorem dL_law_544 : decode cL_law 544 = .ok (.iaload, 1) := by decide +kernel
theorem dL_law_545 : decode cL_law 545 = .ok (.aload_n 0, 1) := by decide +kernel
theorem dL_law_546 : decode cL_law 546 = .ok (.iload 4, 2) := by decide +kernel
theorem dL_law_548 : decode cL_law 548 = .ok (.iconst 3, 1) := by decide +kernel
theorem dL_law_549 : decode cL_law 549 = .ok (.iadd, 1) := by decide +kernel
theorem dL_law_550 : decode cL_law 550 = .ok (.iaload, 1) := by decide +kernel
theorem dL_law_551 : decode cL_law 551 = .ok (.invokevirtual 61, 3) := by decide +kernel
theorem dL_law_554 : decode cL_law 554 = .ok (.pop, 1) := by decide +kernel
theorem dL_law_555 : decode cL_law 555 = .ok (.aload_n 2, 1) := by decide +kernel
theorem dL_law_556 : decode cL_law 556 = .ok (.aload_n 0, 1) := by decide +kernel
theorem dL_law_557 : decode cL_law 557 = .ok (.iload 4, 2) := by decide +kernel
theorem dL_law_559 : decode cL_law 559 = .ok (.iconst 1, 1) := by decide +kernel
theorem dL_law_560 : decode cL_law 560 = .ok (.iadd, 1) := by decide +kernel
theorem dL_law_561 : decode cL_law 561 = .ok (.iaload, 1) := by decide +kernel
theorem dL_law_562 : decode cL_law 562 = .ok (.aload_n 0, 1) := by decide +kernel
theorem dL_law_563 : decode cL_law 563 = .ok (.iload 4, 2) := by decide +kernel
theorem dL_law_565 : decode cL_law 565 = .ok (.iconst 2, 1) := by decide +kernel
theorem dL_law_566 : decode cL_law 566 = .ok (.iadd, 1) := by decide +kernel
theorem dL_law_567 : decode cL_law 567 = .ok (.iaload, 1) := by decide +kernel
theorem dL_law_568 : decode cL_law 568 = .ok (.aload_n 0, 1) := by decide +kernel
theorem dL_law_569 : decode cL_law 569 = .ok (.iload 4, 2) := by decide +kernel
theorem dL_law_571 : decode cL_law 571 = .ok (.iconst 3, 1) := by decide +kernel
theorem dL_law_572 : decode cL_law 572 = .ok (.iadd, 1) := by decide +kernel
theorem dL_law_573 : decode cL_law 573 = .ok (.iaload, 1) := by decide +kernel
theorem dL_law_574 : decode cL_law 574 = .ok (.invokevirtual 64, 3) := by decide +kernel
theorem dL_law_577 : decode cL_law 577 = .ok (.pop, 1) := by decide +kernel
theorem dL_law_578 : decode cL_law 578 = .ok (.goto 887, 3) := by decide +kernel
theorem dL_law_581 : decode cL_law 581 = .ok (.aload_n 1, 1) := by decide +kernel
theorem dL_law_582 : decode cL_law 582 = .ok (.aload_n 0, 1) := by decide +kernel
theorem dL_law_583 : decode cL_law 583 = .ok (.iload 4, 2) := by decide +kernel
theorem dL_law_585 : decode cL_law 585 = .ok (.iconst 1, 1) := by decide +kernel
theorem dL_law_586 : decode cL_law 586 = .ok (.iadd, 1) := by decide +kernel
theorem dL_law_587 : decode cL_law 587 = .ok (.iaload, 1) := by decide +kernel
theorem dL_law_588 : decode cL_law 588 = .ok (.aload_n 0, 1) := by decide +kernel
theorem dL_law_589 : decode cL_law 589 = .ok (.iload 4, 2) := by decide +kernel
theorem dL_law_591 : decode cL_law 591 = .ok (.iconst 2, 1) := by decide +kernel
theorem dL_law_592 : decode cL_law 592 = .ok (.iadd, 1) := by decide +kernel
theorem dL_law_593 : decode cL_law 593 = .ok (.iaload, 1) := by decide +kernel
theorem dL_law_594 : decode cL_law 594 = .ok (.aload_n 0, 1) := by decide +kernel
theorem dL_law_595 : decode cL_law 595 = .ok (.iload 4, 2) := by decide +kernel
theorem dL_law_597 : decode cL_law 597 = .ok (.iconst 3, 1) := by decide +kernel
theorem dL_law_598 : decode cL_law 598 = .ok (.iadd, 1) := by decide +kernel
theorem dL_law_599 : decode cL_law 599 = .ok (.iaload, 1) := by decide +kernel
theorem dL_law_600 : decode cL_law 600 = .ok (.invokevirtual 65, 3) := by decide +kernel
theorem dL_law_603 : decode cL_law 603 = .ok (.pop, 1) := by decide +kernel
theorem dL_law_604 : decode cL_law 604 = .ok (.aload_n 2, 1) := by decide +kernel
theorem dL_law_605 : decode cL_law 605 = .ok (.aload_n 0, 1) := by decide +kernel
theorem dL_law_606 : decode cL_law 606 = .ok (.iload 4, 2) := by decide +kernel
theorem dL_law_608 : decode cL_law 608 = .ok (.iconst 1, 1) := by decide +kernel
theorem dL_law_609 : decode cL_law 609 = .ok (.iadd, 1) := by decide +kernel
theorem dL_law_610 : decode cL_law 610 = .ok (.iaload, 1) := by decide +kernel
theorem dL_law_611 : decode cL_law 611 = .ok (.aload_n 0, 1) := by decide +kernel
theorem dL_law_612 : decode cL_law 612 = .ok (.iload 4, 2) := by decide +kernel
theorem dL_law_614 : decode cL_law 614 = .ok (.iconst 2, 1) := by decide +kernel
theorem dL_law_615 : decode cL_law 615 = .ok (.iadd, 1) := by decide +kernel
theorem dL_law_616 : decode cL_law 616 = .ok (.iaload, 1) := by decide +kernel
theorem dL_law_617 : decode cL_law 617 = .ok (.aload_n 0, 1) := by decide +kernel
theorem dL_law_618 : decode cL_law 618 = .ok (.iload 4, 2) := by decide +kernel
theorem dL_law_620 : decode cL_law 620 = .ok (.iconst 3, 1) := by decide +kernel
theorem dL_law_621 : decode cL_law 621 = .ok (.iadd, 1) := by decide +kernel
theorem dL_law_622 : decode cL_law 622 = .ok (.iaload, 1) := by decide +kernel
theorem dL_law_623 : decode cL_law 623 = .ok (.invokevirtual 68, 3) := by decide +kernel
theorem dL_law_626 : decode cL_law 626 = .ok (.pop, 1) := by decide +kernel
theorem dL_law_627 : decode cL_law 627 = .ok (.goto 838, 3) := by decide +kernel
theorem dL_law_630 : decode cL_law 630 = .ok (.aload_n 1, 1) := by decide +kernel
theorem dL_law_631 : decode cL_law 631 = .ok (.aload_n 0, 1) := by decide +kernel
theorem dL_law_632 : decode cL_law 632 = .ok (.iload 4, 2) := by decide +kernel
theorem dL_law_634 : decode cL_law 634 = .ok (.iconst 1, 1) := by decide +kernel
theorem dL_law_635 : decode cL_law 635 = .ok (.iadd, 1) := by decide +kernel
theorem dL_law_636 : decode cL_law 636 = .ok (.iaload, 1) := by decide +kernel
theorem dL_law_637 : decode cL_law 637 = .ok (.aload_n 0, 1) := by decide +kernel
theorem dL_law_638 : decode cL_law 638 = .ok (.iload 4, 2) := by decide +kernel
theorem dL_law_640 : decode cL_law 640 = .ok (.iconst 2, 1) := by decide +kernel
theorem dL_law_641 : decode cL_law 641 = .ok (.iadd, 1) := by decide +kernel
theorem dL_law_642 : decode cL_law 642 = .ok (.iaload, 1) := by decide +kernel
theorem dL_law_643 : decode cL_law 643 = .ok (.aload_n 0, 1) := by decide +kernel
theorem dL_law_644 : decode cL_law 644 = .ok (.iload 4, 2) := by decide +kernel
theorem dL_law_646 : decode cL_law 646 = .ok (.iconst 3, 1) := by decide +kernel
theorem dL_law_647 : decode cL_law 647 = .ok (.iadd, 1) := by decide +kernel
theorem dL_law_648 : decode cL_law 648 = .ok (.iaload, 1) := by decide +kernel
theorem dL_law_649 : decode cL_law 649 = .ok (.aload_n 0, 1) := by decide +kernel
theorem dL_law_650 : decode cL_law 650 = .ok (.iload 4, 2) := by decide +kernel
theorem dL_law_652 : decode cL_law 652 = .ok (.iconst 4, 1) := by decide +kernel
theorem dL_law_653 : decode cL_law 653 = .ok (.iadd, 1) := by decide +kernel
theorem dL_law_654 : decode cL_law 654 = .ok (.iaload, 1) := by decide +kernel
theorem dL_law_655 : decode cL_law 655 = .ok (.invokevirtual 69, 3) := by decide +kernel
theorem dL_law_658 : decode cL_law 658 = .ok (.pop, 1) := by decide +kernel
theorem dL_law_659 : decode cL_law 659 = .ok (.aload_n 2, 1) := by decide +kernel
theorem dL_law_660 : decode cL_law 660 = .ok (.aload_n 0, 1) := by decide +kernel
theorem dL_law_661 : decode cL_law 661 = .ok (.iload 4, 2) := by decide +kernel
theorem dL_law_663 : decode cL_law 663 = .ok (.iconst 1, 1) := by decide +kernel
theorem dL_law_664 : decode cL_law 664 = .ok (.iadd, 1) := by decide +kernel
theorem dL_law_665 : decode cL_law 665 = .ok (.iaload, 1) := by decide +kernel
theorem dL_law_666 : decode cL_law 666 = .ok (.aload_n 0, 1) := by decide +kernel
theorem dL_law_667 : decode cL_law 667 = .ok (.iload 4, 2) := by decide +kernel
theorem dL_law_669 : decode cL_law 669 = .ok (.iconst 2, 1) := by decide +kernel
theorem dL_law_670 : decode cL_law 670 = .ok (.iadd, 1) := by decide +kernel
theorem dL_law_671 : decode cL_law 671 = .ok (.iaload, 1) := by decide +kernel
theorem dL_law_672 : decode cL_law 672 = .ok (.aload_n 0, 1) := by decide +kernel
theorem dL_law_673 : decode cL_law 673 = .ok (.iload 4, 2) := by decide +kernel
theorem dL_law_675 : decode cL_law 675 = .ok (.iconst 3, 1) := by decide +kernel
theorem dL_law_676 : decode cL_law 676 = .ok (.iadd, 1) := by decide +kernel
theorem dL_law_677 : decode cL_law 677 = .ok (.iaload, 1) := by decide +kernel
theorem dL_law_678 : decode cL_law 678 = .ok (.aload_n 0, 1) := by decide +kernel
theorem dL_law_679 : decode cL_law 679 = .ok (.iload 4, 2) := by decide +kernel
theorem dL_law_681 : decode cL_law 681 = .ok (.iconst 4, 1) := by decide +kernel
theorem dL_law_682 : decode cL_law 682 = .ok (.iadd, 1) := by decide +kernel
theorem dL_law_683 : decode cL_law 683 = .ok (.iaload, 1) := by decide +kernel
theorem dL_law_684 : decode cL_law 684 = .ok (.invokevirtual 73, 3) := by decide +kernel
theorem dL_law_687 : decode cL_law 687 = .ok (.pop, 1) := by decide +kernel
theorem dL_law_688 : decode cL_law 688 = .ok (.goto 777, 3) := by decide +kernel
theorem dL_law_691 : decode cL_law 691 = .ok (.aload_n 1, 1) := by decide +kernel
theorem dL_law_692 : decode cL_law 692 = .ok (.aload_n 0, 1) := by decide +kernel
theorem dL_law_693 : decode cL_law 693 = .ok (.iload 4, 2) := by decide +kernel
theorem dL_law_695 : decode cL_law 695 = .ok (.iconst 1, 1) := by decide +kernel
theorem dL_law_696 : decode cL_law 696 = .ok (.iadd, 1) := by decide +kernel
theorem dL_law_697 : decode cL_law 697 = .ok (.iaload, 1) := by decide +kernel
theorem dL_law_698 : decode cL_law 698 = .ok (.aload_n 0, 1) := by decide +kernel
theorem dL_law_699 : decode cL_law 699 = .ok (.iload 4, 2) := by decide +kernel
theorem dL_law_701 : decode cL_law 701 = .ok (.iconst 2, 1) := by decide +kernel
theorem dL_law_702 : decode cL_law 702 = .ok (.iadd, 1) := by decide +kernel
theorem dL_law_703 : decode cL_law 703 = .ok (.iaload, 1) := by decide +kernel
theorem dL_law_704 : decode cL_law 704 = .ok (.aload_n 0, 1) := by decide +kernel
theorem dL_law_705 : decode cL_law 705 = .ok (.iload 4, 2) := by decide +kernel
theorem dL_law_707 : decode cL_law 707 = .ok (.iconst 3, 1) := by decide +kernel
theorem dL_law_708 : decode cL_law 708 = .ok (.iadd, 1) := by decide +kernel
theorem dL_law_709 : decode cL_law 709 = .ok (.iaload, 1) := by decide +kernel
theorem dL_law_710 : decode cL_law 710 = .ok (.invokevirtual 74, 3) := by decide +kernel
theorem dL_law_713 : decode cL_law 713 = .ok (.pop, 1) := by decide +kernel
theorem dL_law_714 : decode cL_law 714 = .ok (.aload_n 2, 1) := by decide +kernel
theorem dL_law_715 : decode cL_law 715 = .ok (.aload_n 0, 1) := by decide +kernel
theorem dL_law_716 : decode cL_law 716 = .ok (.iload 4, 2) := by decide +kernel
theorem dL_law_718 : decode cL_law 718 = .ok (.iconst 1, 1) := by decide +kernel
theorem dL_law_719 : decode cL_law 719 = .ok (.iadd, 1) := by decide +kernel
theorem dL_law_720 : decode cL_law 720 = .ok (.iaload, 1) := by decide +kernel
theorem dL_law_721 : decode cL_law 721 = .ok (.aload_n 0, 1) := by decide +kernel
theorem dL_law_722 : decode cL_law 722 = .ok (.iload 4, 2) := by decide +kernel
theorem dL_law_724 : decode cL_law 724 = .ok (.iconst 2, 1) := by decide +kernel
theorem dL_law_725 : decode cL_law 725 = .ok (.iadd, 1) := by decide +kernel
theorem dL_law_726 : decode cL_law 726 = .ok (.iaload, 1) := by decide +kernel
theorem dL_law_727 : decode cL_law 727 = .ok (.aload_n 0, 1) := by decide +kernel
theorem dL_law_728 : decode cL_law 728 = .ok (.iload 4, 2) := by decide +kernel
theorem dL_law_730 : decode cL_law 730 = .ok (.iconst 3, 1) := by decide +kernel
theorem dL_law_731 : decode cL_law 731 = .ok (.iadd, 1) := by decide +kernel
theorem dL_law_732 : decode cL_law 732 = .ok (.iaload, 1) := by decide +kernel
theorem dL_law_733 : decode cL_law 733 = .ok (.invokevirtual 77, 3) := by decide +kernel
theorem dL_law_736 : decode cL_law 736 = .ok (.pop, 1) := by decide +kernel
theorem dL_law_737 : decode cL_law 737 = .ok (.goto 728, 3) := by decide +kernel
theorem dL_law_740 : decode cL_law 740 = .ok (.aload_n 1, 1) := by decide +kernel
theorem dL_law_741 : decode cL_law 741 = .ok (.aload_n 0, 1) := by decide +kernel
theorem dL_law_742 : decode cL_law 742 = .ok (.iload 4, 2) := by decide +kernel
theorem dL_law_744 : decode cL_law 744 = .ok (.iconst 1, 1) := by decide +kernel
theorem dL_law_745 : decode cL_law 745 = .ok (.iadd, 1) := by decide +kernel
theorem dL_law_746 : decode cL_law 746 = .ok (.iaload, 1) := by decide +kernel
theorem dL_law_747 : decode cL_law 747 = .ok (.invokevirtual 78, 3) := by decide +kernel
theorem dL_law_750 : decode cL_law 750 = .ok (.pop, 1) := by decide +kernel
theorem dL_law_751 : decode cL_law 751 = .ok (.aload_n 2, 1) := by decide +kernel
theorem dL_law_752 : decode cL_law 752 = .ok (.aload_n 0, 1) := by decide +kernel
theorem dL_law_753 : decode cL_law 753 = .ok (.iload 4, 2) := by decide +kernel
theorem dL_law_755 : decode cL_law 755 = .ok (.iconst 1, 1) := by decide +kernel
theorem dL_law_756 : decode cL_law 756 = .ok (.iadd, 1) := by decide +kernel
theorem dL_law_757 : decode cL_law 757 = .ok (.iaload, 1) := by decide +kernel
theorem dL_law_758 : decode cL_law 758 = .ok (.invokevirtual 81, 3) := by decide +kernel
theorem dL_law_761 : decode cL_law 761 = .ok (.pop, 1) := by decide +kernel
theorem dL_law_762 : decode cL_law 762 = .ok (.goto 703, 3) := by decide +kernel
theorem dL_law_765 : decode cL_law 765 = .ok (.aload_n 1, 1) := by decide +kernel
theorem dL_law_766 : decode cL_law 766 = .ok (.invokevirtual 82, 3) := by decide +kernel
theorem dL_law_769 : decode cL_law 769 = .ok (.pop, 1) := by decide +kernel
theorem dL_law_770 : decode cL_law 770 = .ok (.aload_n 2, 1) := by decide +kernel
theorem dL_law_771 : decode cL_law 771 = .ok (.invokevirtual 86, 3) := by decide +kernel
theorem dL_law_774 : decode cL_law 774 = .ok (.pop, 1) := by decide +kernel
theorem dL_law_775 : decode cL_law 775 = .ok (.goto 690, 3) := by decide +kernel
theorem dL_law_778 : decode cL_law 778 = .ok (.aload_n 1, 1) := by decide +kernel
theorem dL_law_779 : decode cL_law 779 = .ok (.aload_n 0, 1) := by decide +kernel
theorem dL_law_780 : decode cL_law 780 = .ok (.iload 4, 2) := by decide +kernel
theorem dL_law_782 : decode cL_law 782 = .ok (.iconst 1, 1) := by decide +kernel
theorem dL_law_783 : decode cL_law 783 = .ok (.iadd, 1) := by decide +kernel
theorem dL_law_784 : decode cL_law 784 = .ok (.iaload, 1) := by decide +kernel
theorem dL_law_785 : decode cL_law 785 = .ok (.aload_n 0, 1) := by decide +kernel
theorem dL_law_786 : decode cL_law 786 = .ok (.iload 4, 2) := by decide +kernel
theorem dL_law_788 : decode cL_law 788 = .ok (.iconst 2, 1) := by decide +kernel
theorem dL_law_789 : decode cL_law 789 = .ok (.iadd, 1) := by decide +kernel
theorem dL_law_790 : decode cL_law 790 = .ok (.iaload, 1) := by decide +kernel
theorem dL_law_791 : decode cL_law 791 = .ok (.aload_n 0, 1) := by decide +kernel
theorem dL_law_792 : decode cL_law 792 = .ok (.iload 4, 2) := by decide +kernel
theorem dL_law_794 : decode cL_law 794 = .ok (.iconst 3, 1) := by decide +kernel
theorem dL_law_795 : decode cL_law 795 = .ok (.iadd, 1) := by decide +kernel
theorem dL_law_796 : decode cL_law 796 = .ok (.iaload, 1) := by decide +kernel
theorem dL_law_797 : decode cL_law 797 = .ok (.aload_n 0, 1) := by decide +kernel
theorem dL_law_798 : decode cL_law 798 = .ok (.iload 4, 2) := by decide +kernel
theorem dL_law_800 : decode cL_law 800 = .ok (.iconst 4, 1) := by decide +kernel
theorem dL_law_801 : decode cL_law 801 = .ok (.iadd, 1) := by decide +kernel
theorem dL_law_802 : decode cL_law 802 = .ok (.iaload, 1) := by decide +kernel
theorem dL_law_803 : decode cL_law 803 = .ok (.aload_n 0, 1) := by decide +kernel
theorem dL_law_804 : decode cL_law 804 = .ok (.iload 4, 2) := by decide +kernel
theorem dL_law_806 : decode cL_law 806 = .ok (.iconst 5, 1) := by decide +kernel
theorem dL_law_807 : decode cL_law 807 = .ok (.iadd, 1) := by decide +kernel
theorem dL_law_808 : decode cL_law 808 = .ok (.iaload, 1) := by decide +kernel
theorem dL_law_809 : decode cL_law 809 = .ok (.invokevirtual 87, 3) := by decide +kernel
theorem dL_law_812 : decode cL_law 812 = .ok (.pop, 1) := by decide +kernel
theorem dL_law_813 : decode cL_law 813 = .ok (.aload_n 2, 1) := by decide +kernel
theorem dL_law_814 : decode cL_law 814 = .ok (.aload_n 0, 1) := by decide +kernel
theorem dL_law_815 : decode cL_law 815 = .ok (.iload 4, 2) := by decide +kernel
theorem dL_law_817 : decode cL_law 817 = .ok (.iconst 1, 1) := by decide +kernel
theorem dL_law_818 : decode cL_law 818 = .ok (.iadd, 1) := by decide +kernel
theorem dL_law_819 : decode cL_law 819 = .ok (.iaload, 1) := by decide +kernel
theorem dL_law_820 : decode cL_law 820 = .ok (.aload_n 0, 1) := by decide +kernel
theorem dL_law_821 : decode cL_law 821 = .ok (.iload 4, 2) := by decide +kernel
theorem dL_law_823 : decode cL_law 823 = .ok (.iconst 2, 1) := by decide +kernel
theorem dL_law_824 : decode cL_law 824 = .ok (.iadd, 1) := by decide +kernel
theorem dL_law_825 : decode cL_law 825 = .ok (.iaload, 1) := by decide +kernel
theorem dL_law_826 : decode cL_law 826 = .ok (.aload_n 0, 1) := by decide +kernel
theorem dL_law_827 : decode cL_law 827 = .ok (.iload 4, 2) := by decide +kernel
theorem dL_law_829 : decode cL_law 829 = .ok (.iconst 3, 1) := by decide +kernel
theorem dL_law_830 : decode cL_law 830 = .ok (.iadd, 1) := by decide +kernel
theorem dL_law_831 : decode cL_law 831 = .ok (.iaload, 1) := by decide +kernel
theorem dL_law_832 : decode cL_law 832 = .ok (.aload_n 0, 1) := by decide +kernel
theorem dL_law_833 : decode cL_law 833 = .ok (.iload 4, 2) := by decide +kernel
theorem dL_law_835 : decode cL_law 835 = .ok (.iconst 4, 1) := by decide +kernel
theorem dL_law_836 : decode cL_law 836 = .ok (.iadd, 1) := by decide +kernel
theorem dL_law_837 : decode cL_law 837 = .ok (.iaload, 1) := by decide +kernel
theorem dL_law_838 : decode cL_law 838 = .ok (.aload_n 0, 1) := by decide +kernel
theorem dL_law_839 : decode cL_law 839 = .ok (.iload 4, 2) := by decide +kernel
theorem dL_law_841 : decode cL_law 841 = .ok (.iconst 5, 1) := by decide +kernel
theorem dL_law_842 : decode cL_law 842 = .ok (.iadd, 1) := by decide +kernel
theorem dL_law_843 : decode cL_law 843 = .ok (.iaload, 1) := by decide +kernel
theorem dL_law_844 : decode cL_law 844 = .ok (.invokevirtual 90, 3) := by decide +kernel
theorem dL_law_847 : decode cL_law 847 = .ok (.pop, 1) := by decide +kernel
theorem dL_law_848 : decode cL_law 848 = .ok (.goto 617, 3) := by decide +kernel
theorem dL_law_851 : decode cL_law 851 = .ok (.aload_n 1, 1) := by decide +kernel
theorem dL_law_852 : decode cL_law 852 = .ok (.aload_n 0, 1) := by decide +kernel
theorem dL_law_853 : decode cL_law 853 = .ok (.iload 4, 2) := by decide +kernel
theorem dL_law_855 : decode cL_law 855 = .ok (.iconst 1, 1) := by decide +kernel
theorem dL_law_856 : decode cL_law 856 = .ok (.iadd, 1) := by decide +kernel
theorem dL_law_857 : decode cL_law 857 = .ok (.iaload, 1) := by decide +kernel
theorem dL_law_858 : decode cL_law 858 = .ok (.aload_n 0, 1) := by decide +kernel
theorem dL_law_859 : decode cL_law 859 = .ok (.iload 4, 2) := by decide +kernel
theorem dL_law_861 : decode cL_law 861 = .ok (.iconst 2, 1) := by decide +kernel
theorem dL_law_862 : decode cL_law 862 = .ok (.iadd, 1) := by decide +kernel
theorem dL_law_863 : decode cL_law 863 = .ok (.iaload, 1) := by decide +kernel
theorem dL_law_864 : decode cL_law 864 = .ok (.invokevirtual 91, 3) := by decide +kernel
theorem dL_law_867 : decode cL_law 867 = .ok (.pop, 1) := by decide +kernel
theorem dL_law_868 : decode cL_law 868 = .ok (.aload_n 2, 1) := by decide +kernel
theorem dL_law_869 : decode cL_law 869 = .ok (.aload_n 0, 1) := by decide +kernel
theorem dL_law_870 : decode cL_law 870 = .ok (.iload 4, 2) := by decide +kernel
theorem dL_law_872 : decode cL_law 872 = .ok (.iconst 1, 1) := by decide +kernel
theorem dL_law_873 : decode cL_law 873 = .ok (.iadd, 1) := by decide +kernel
theorem dL_law_874 : decode cL_law 874 = .ok (.iaload, 1) := by decide +kernel
theorem dL_law_875 : decode cL_law 875 = .ok (.aload_n 0, 1) := by decide +kernel
theorem dL_law_876 : decode cL_law 876 = .ok (.iload 4, 2) := by decide +kernel
theorem dL_law_878 : decode cL_law 878 = .ok (.iconst 2, 1) := by decide +kernel
theorem dL_law_879 : decode cL_law 879 = .ok (.iadd, 1) := by decide +kernel
theorem dL_law_880 : decode cL_law 880 = .ok (.iaload, 1) := by decide +kernel
theorem dL_law_881 : decode cL_law 881 = .ok (.invokevirtual 94, 3) := by decide +kernel
theorem dL_law_884 : decode cL_law 884 = .ok (.pop, 1) := by decide +kernel
theorem dL_law_885 : decode cL_law 885 = .ok (.goto 580, 3) := by decide +kernel
theorem dL_law_888 : decode cL_law 888 = .ok (.aload_n 1, 1) := by decide +kernel
theorem dL_law_889 : decode cL_law 889 = .ok (.invokevirtual 95, 3) := by decide +kernel
theorem dL_law_892 : decode cL_law 892 = .ok (.pop, 1) := by decide +kernel
theorem dL_law_893 : decode cL_law 893 = .ok (.aload_n 2, 1) := by decide +kernel
theorem dL_law_894 : decode cL_law 894 = .ok (.invokevirtual 98, 3) := by decide +kernel
theorem dL_law_897 : decode cL_law 897 = .ok (.pop, 1) := by decide +kernel
theorem dL_law_898 : decode cL_law 898 = .ok (.goto 567, 3) := by decide +kernel
theorem dL_law_901 : decode cL_law 901 = .ok (.aload_n 1, 1) := by decide +kernel
theorem dL_law_902 : decode cL_law 902 = .ok (.invokevirtual 99, 3) := by decide +kernel
theorem dL_law_905 : decode cL_law 905 = .ok (.pop, 1) := by decide +kernel
theorem dL_law_906 : decode cL_law 906 = .ok (.aload_n 2, 1) := by decide +kernel
theorem dL_law_907 : decode cL_law 907 = .ok (.invokevirtual 102, 3) := by decide +kernel
theorem dL_law_910 : decode cL_law 910 = .ok (.pop, 1) := by decide +kernel
theorem dL_law_911 : decode cL_law 911 = .ok (.goto 554, 3) := by decide +kernel
theorem dL_law_914 : decode cL_law 914 = .ok (.aload_n 1, 1) := by decide +kernel
theorem dL_law_915 : decode cL_law 915 = .ok (.aload_n 0, 1) := by decide +kernel
theorem dL_law_916 : decode cL_law 916 = .ok (.iload 4, 2) := by decide +kernel
theorem dL_law_918 : decode cL_law 918 = .ok (.iconst 1, 1) := by decide +kernel
theorem dL_law_919 : decode cL_law 919 = .ok (.iadd, 1) := by decide +kernel
theorem dL_law_920 : decode cL_law 920 = .ok (.iaload, 1) := by decide +kernel
theorem dL_law_921 : decode cL_law 921 = .ok (.aload_n 0, 1) := by decide +kernel
theorem dL_law_922 : decode cL_law 922 = .ok (.iload 4, 2) := by decide +kernel
theorem dL_law_924 : decode cL_law 924 = .ok (.iconst 2, 1) := by decide +kernel
theorem dL_law_925 : decode cL_law 925 = .ok (.iadd, 1) := by decide +kernel
theorem dL_law_926 : decode cL_law 926 = .ok (.iaload, 1) := by decide +kernel
theorem dL_law_927 : decode cL_law 927 = .ok (.aload_n 3, 1) := by decide +kernel
theorem dL_law_928 : decode cL_law 928 = .ok (.invokestatic 103, 3) := by decide +kernel
theorem dL_law_931 : decode cL_law 931 = .ok (.istore 5, 2) := by decide +kernel
theorem dL_law_933 : decode cL_law 933 = .ok (.aload_n 2, 1) := by decide +kernel
theorem dL_law_934 : decode cL_law 934 = .ok (.aload_n 0, 1) := by decide +kernel
theorem dL_law_935 : decode cL_law 935 = .ok (.iload 4, 2) := by decide +kernel
theorem dL_law_937 : decode cL_law 937 = .ok (.iconst 1, 1) := by decide +kernel
theorem dL_law_938 : decode cL_law 938 = .ok (.iadd, 1) := by decide +kernel
theorem dL_law_939 : decode cL_law 939 = .ok (.iaload, 1) := by decide +kernel
theorem dL_law_940 : decode cL_law 940 = .ok (.aload_n 0, 1) := by decide +kernel
theorem dL_law_941 : decode cL_law 941 = .ok (.iload 4, 2) := by decide +kernel
theorem dL_law_943 : decode cL_law 943 = .ok (.iconst 2, 1) := by decide +kernel
theorem dL_law_944 : decode cL_law 944 = .ok (.iadd, 1) := by decide +kernel
theorem dL_law_945 : decode cL_law 945 = .ok (.iaload, 1) := by decide +kernel
theorem dL_law_946 : decode cL_law 946 = .ok (.invokevirtual 108, 3) := by decide +kernel
theorem dL_law_949 : decode cL_law 949 = .ok (.istore 6, 2) := by decide +kernel
theorem dL_law_951 : decode cL_law 951 = .ok (.goto 514, 3) := by decide +kernel
theorem dL_law_954 : decode cL_law 954 = .ok (.aload_n 1, 1) := by decide +kernel
theorem dL_law_955 : decode cL_law 955 = .ok (.aload_n 0, 1) := by decide +kernel
theorem dL_law_956 : decode cL_law 956 = .ok (.iload 4, 2) := by decide +kernel
theorem dL_law_958 : decode cL_law 958 = .ok (.iconst 1, 1) := by decide +kernel
theorem dL_law_959 : decode cL_law 959 = .ok (.iadd, 1) := by decide +kernel
theorem dL_law_960 : decode cL_law 960 = .ok (.iaload, 1) := by decide +kernel
theorem dL_law_961 : decode cL_law 961 = .ok (.aload_n 3, 1) := by decide +kernel
theorem dL_law_962 : decode cL_law 962 = .ok (.invokestatic 109, 3) := by decide +kernel
theorem dL_law_965 : decode cL_law 965 = .ok (.istore 5, 2) := by decide +kernel
theorem dL_law_967 : decode cL_law 967 = .ok (.aload_n 2, 1) := by decide +kernel
theorem dL_law_968 : decode cL_law 968 = .ok (.aload_n 0, 1) := by decide +kernel
theorem dL_law_969 : decode cL_law 969 = .ok (.iload 4, 2) := by decide +kernel
theorem dL_law_971 : decode cL_law 971 = .ok (.iconst 1, 1) := by decide +kernel
theorem dL_law_972 : decode cL_law 972 = .ok (.iadd, 1) := by decide +kernel
theorem dL_law_973 : decode cL_law 973 = .ok (.iaload, 1) := by decide +kernel
theorem dL_law_974 : decode cL_law 974 = .ok (.invokevirtual 112, 3) := by decide +kernel
theorem dL_law_977 : decode cL_law 977 = .ok (.istore 6, 2) := by decide +kernel
theorem dL_law_979 : decode cL_law 979 = .ok (.goto 486, 3) := by decide +kernel
theorem dL_law_982 : decode cL_law 982 = .ok (.aload_n 1, 1) := by decide +kernel
theorem dL_law_983 : decode cL_law 983 = .ok (.aload_n 0, 1) := by decide +kernel
theorem dL_law_984 : decode cL_law 984 = .ok (.iload 4, 2) := by decide +kernel
theorem dL_law_986 : decode cL_law 986 = .ok (.iconst 1, 1) := by decide +kernel
theorem dL_law_987 : decode cL_law 987 = .ok (.iadd, 1) := by decide +kernel
theorem dL_law_988 : decode cL_law 988 = .ok (.iaload, 1) := by decide +kernel
theorem dL_law_989 : decode cL_law 989 = .ok (.aload_n 0, 1) := by decide +kernel
theorem dL_law_990 : decode cL_law 990 = .ok (.iload 4, 2) := by decide +kernel
theorem dL_law_992 : decode cL_law 992 = .ok (.iconst 2, 1) := by decide +kernel
theorem dL_law_993 : decode cL_law 993 = .ok (.iadd, 1) := by decide +kernel
theorem dL_law_994 : decode cL_law 994 = .ok (.iaload, 1) := by decide +kernel
theorem dL_law_995 : decode cL_law 995 = .ok (.aload_n 0, 1) := by decide +kernel
theorem dL_law_996 : decode cL_law 996 = .ok (.iload 4, 2) := by decide +kernel
theorem dL_law_998 : decode cL_law 998 = .ok (.iconst 3, 1) := by decide +kernel
theorem dL_law_999 : decode cL_law 999 = .ok (.iadd, 1) := by decide +kernel
theorem dL_law_1000 : decode cL_law 1000 = .ok (.iaload, 1) := by decide +kernel
theorem dL_law_1001 : decode cL_law 1001 = .ok (.aload_n 0, 1) := by decide +kernel
theorem dL_law_1002 : decode cL_law 1002 = .ok (.iload 4, 2) := by decide +kernel
theorem dL_law_1004 : decode cL_law 1004 = .ok (.iconst 4, 1) := by decide +kernel
theorem dL_law_1005 : decode cL_law 1005 = .ok (.iadd, 1) := by decide +kernel
theorem dL_law_1006 : decode cL_law 1006 = .ok (.iaload, 1) := by decide +kernel
theorem dL_law_1007 : decode cL_law 1007 = .ok (.invokevirtual 113, 3) := by decide +kernel
theorem dL_law_1010 : decode cL_law 1010 = .ok (.pop, 1) := by decide +kernel
theorem dL_law_1011 : decode cL_law 1011 = .ok (.aload_n 2, 1) := by decide +kernel
theorem dL_law_1012 : decode cL_law 1012 = .ok (.aload_n 0, 1) := by decide +kernel
theorem dL_law_1013 : decode cL_law 1013 = .ok (.iload 4, 2) := by decide +kernel
theorem dL_law_1015 : decode cL_law 1015 = .ok (.iconst 1, 1) := by decide +kernel
theorem dL_law_1016 : decode cL_law 1016 = .ok (.iadd, 1) := by decide +kernel
theorem dL_law_1017 : decode cL_law 1017 = .ok (.iaload, 1) := by decide +kernel
theorem dL_law_1018 : decode cL_law 1018 = .ok (.aload_n 0, 1) := by decide +kernel
theorem dL_law_1019 : decode cL_law 1019 = .ok (.iload 4, 2) := by decide +kernel
theorem dL_law_1021 : decode cL_law 1021 = .ok (.iconst 2, 1) := by decide +kernel
theorem dL_law_1022 : decode cL_law 1022 = .ok (.iadd, 1) := by decide +kernel
theorem dL_law_1023 : decode cL_law 1023 = .ok (.iaload, 1) := by decide +kernel
theorem dL_law_1024 : decode cL_law 1024 = .ok (.aload_n 0, 1) := by decide +kernel
theorem dL_law_1025 : decode cL_law 1025 = .ok (.iload 4, 2) := by decide +kernel
theorem dL_law_1027 : decode cL_law 1027 = .ok (.iconst 3, 1) := by decide +kernel
theorem dL_law_1028 : decode cL_law 1028 = .ok (.iadd, 1) := by decide +kernel
theorem dL_law_1029 : decode cL_law 1029 = .ok (.iaload, 1) := by decide +kernel
theorem dL_law_1030 : decode cL_law 1030 = .ok (.aload_n 0, 1) := by decide +kernel
theorem dL_law_1031 : decode cL_law 1031 = .ok (.iload 4, 2) := by decide +kernel
theorem dL_law_1033 : decode cL_law 1033 = .ok (.iconst 4, 1) := by decide +kernel
theorem dL_law_1034 : decode cL_law 1034 = .ok (.iadd, 1) := by decide +kernel
theorem dL_law_1035 : decode cL_law 1035 = .ok (.iaload, 1) := by decide +kernel
theorem dL_law_1036 : decode cL_law 1036 = .ok (.invokevirtual 116, 3) := by decide +kernel
theorem dL_law_1039 : decode cL_law 1039 = .ok (.pop, 1) := by decide +kernel
theorem dL_law_1040 : decode cL_law 1040 = .ok (.goto 425, 3) := by decide +kernel
theorem dL_law_1043 : decode cL_law 1043 = .ok (.aload_n 1, 1) := by decide +kernel
theorem dL_law_1044 : decode cL_law 1044 = .ok (.aload_n 0, 1) := by decide +kernel
theorem dL_law_1045 : decode cL_law 1045 = .ok (.iload 4, 2) := by decide +kernel
theorem dL_law_1047 : decode cL_law 1047 = .ok (.iconst 1, 1) := by decide +kernel
theorem dL_law_1048 : decode cL_law 1048 = .ok (.iadd, 1) := by decide +kernel
theorem dL_law_1049 : decode cL_law 1049 = .ok (.iaload, 1) := by decide +kernel
theorem dL_law_1050 : decode cL_law 1050 = .ok (.invokevirtual 117, 3) := by decide +kernel
theorem dL_law_1053 : decode cL_law 1053 = .ok (.pop, 1) := by decide +kernel
theorem dL_law_1054 : decode cL_law 1054 = .ok (.aload_n 2, 1) := by decide +kernel
theorem dL_law_1055 : decode cL_law 1055 = .ok (.aload_n 0, 1) := by decide +kernel
theorem dL_law_1056 : decode cL_law 1056 = .ok (.iload 4, 2) := by decide +kernel
theorem dL_law_1058 : decode cL_law 1058 = .ok (.iconst 1, 1) := by decide +kernel
theorem dL_law_1059 : decode cL_law 1059 = .ok (.iadd, 1) := by decide +kernel
theorem dL_law_1060 : decode cL_law 1060 = .ok (.iaload, 1) := by decide +kernel
theorem dL_law_1061 : decode cL_law 1061 = .ok (.invokevirtual 120, 3) := by decide +kernel
theorem dL_law_1064 : decode cL_law 1064 = .ok (.pop, 1) := by decide +kernel
theorem dL_law_1065 : decode cL_law 1065 = .ok (.goto 400, 3) := by decide +kernel
theorem dL_law_1068 : decode cL_law 1068 = .ok (.aload_n 1, 1) := by decide +kernel
theorem dL_law_1069 : decode cL_law 1069 = .ok (.aload_n 0, 1) := by decide +kernel
theorem dL_law_1070 : decode cL_law 1070 = .ok (.iload 4, 2) := by decide +kernel
theorem dL_law_1072 : decode cL_law 1072 = .ok (.iconst 1, 1) := by decide +kernel
theorem dL_law_1073 : decode cL_law 1073 = .ok (.iadd, 1) := by decide +kernel
theorem dL_law_1074 : decode cL_law 1074 = .ok (.iaload, 1) := by decide +kernel
theorem dL_law_1075 : decode cL_law 1075 = .ok (.invokevirtual 121, 3) := by decide +kernel
theorem dL_law_1078 : decode cL_law 1078 = .ok (.pop, 1) := by decide +kernel
theorem dL_law_1079 : decode cL_law 1079 = .ok (.aload_n 2, 1) := by decide +kernel
theorem dL_law_1080 : decode cL_law 1080 = .ok (.aload_n 0, 1) := by decide +kernel
theorem dL_law_1081 : decode cL_law 1081 = .ok (.iload 4, 2) := by decide +kernel
theorem dL_law_1083 : decode cL_law 1083 = .ok (.iconst 1, 1) := by decide +kernel
theorem dL_law_1084 : decode cL_law 1084 = .ok (.iadd, 1) := by decide +kernel
theorem dL_law_1085 : decode cL_law 1085 = .ok (.iaload, 1) := by decide +kernel
theorem dL_law_1086 : decode cL_law 1086 = .ok (.invokevirtual 124, 3) := by decide +kernel
theorem dL_law_1089 : decode cL_law 1089 = .ok (.pop, 1) := by decide +kernel
theorem dL_law_1090 : decode cL_law 1090 = .ok (.goto 375, 3) := by decide +kernel
theorem dL_law_1093 : decode cL_law 1093 = .ok (.aload_n 1, 1) := by decide +kernel
theorem dL_law_1094 : decode cL_law 1094 = .ok (.aload_n 0, 1) := by decide +kernel
theorem dL_law_1095 : decode cL_law 1095 = .ok (.iload 4, 2) := by decide +kernel
theorem dL_law_1097 : decode cL_law 1097 = .ok (.iconst 1, 1) := by decide +kernel
theorem dL_law_1098 : decode cL_law 1098 = .ok (.iadd, 1) := by decide +kernel
theorem dL_law_1099 : decode cL_law 1099 = .ok (.iaload, 1) := by decide +kernel
theorem dL_law_1100 : decode cL_law 1100 = .ok (.aload_n 0, 1) := by decide +kernel
theorem dL_law_1101 : decode cL_law 1101 = .ok (.iload 4, 2) := by decide +kernel
theorem dL_law_1103 : decode cL_law 1103 = .ok (.iconst 2, 1) := by decide +kernel
theorem dL_law_1104 : decode cL_law 1104 = .ok (.iadd, 1) := by decide +kernel
theorem dL_law_1105 : decode cL_law 1105 = .ok (.iaload, 1) := by decide +kernel
theorem dL_law_1106 : decode cL_law 1106 = .ok (.aload_n 0, 1) := by decide +kernel
theorem dL_law_1107 : decode cL_law 1107 = .ok (.iload 4, 2) := by decide +kernel
theorem dL_law_1109 : decode cL_law 1109 = .ok (.iconst 3, 1) := by decide +kernel
theorem dL_law_1110 : decode cL_law 1110 = .ok (.iadd, 1) := by decide +kernel
theorem dL_law_1111 : decode cL_law 1111 = .ok (.iaload, 1) := by decide +kernel
theorem dL_law_1112 : decode cL_law 1112 = .ok (.aload_n 0, 1) := by decide +kernel
theorem dL_law_1113 : decode cL_law 1113 = .ok (.iload 4, 2) := by decide +kernel
theorem dL_law_1115 : decode cL_law 1115 = .ok (.iconst 4, 1) := by decide +kernel
theorem dL_law_1116 : decode cL_law 1116 = .ok (.iadd, 1) := by decide +kernel
theorem dL_law_1117 : decode cL_law 1117 = .ok (.iaload, 1) := by decide +kernel
theorem dL_law_1118 : decode cL_law 1118 = .ok (.aload_n 0, 1) := by decide +kernel
theorem dL_law_1119 : decode cL_law 1119 = .ok (.iload 4, 2) := by decide +kernel
theorem dL_law_1121 : decode cL_law 1121 = .ok (.iconst 5, 1) := by decide +kernel
theorem dL_law_1122 : decode cL_law 1122 = .ok (.iadd, 1) := by decide +kernel
theorem dL_law_1123 : decode cL_law 1123 = .ok (.iaload, 1) := by decide +kernel
theorem dL_law_1124 : decode cL_law 1124 = .ok (.invokevirtual 125, 3) := by decide +kernel
theorem dL_law_1127 : decode cL_law 1127 = .ok (.pop, 1) := by decide +kernel
theorem dL_law_1128 : decode cL_law 1128 = .ok (.aload_n 2, 1) := by decide +kernel
theorem dL_law_1129 : decode cL_law 1129 = .ok (.aload_n 0, 1) := by decide +kernel
theorem dL_law_1130 : decode cL_law 1130 = .ok (.iload 4, 2) := by decide +kernel
theorem dL_law_1132 : decode cL_law 1132 = .ok (.iconst 1, 1) := by decide +kernel
theorem dL_law_1133 : decode cL_law 1133 = .ok (.iadd, 1) := by decide +kernel
theorem dL_law_1134 : decode cL_law 1134 = .ok (.iaload, 1) := by decide +kernel
theorem dL_law_1135 : decode cL_law 1135 = .ok (.aload_n 0, 1) := by decide +kernel
theorem dL_law_1136 : decode cL_law 1136 = .ok (.iload 4, 2) := by decide +kernel
theorem dL_law_1138 : decode cL_law 1138 = .ok (.iconst 2, 1) := by decide +kernel
theorem dL_law_1139 : decode cL_law 1139 = .ok (.iadd, 1) := by decide +kernel
theorem dL_law_1140 : decode cL_law 1140 = .ok (.iaload, 1) := by decide +kernel
theorem dL_law_1141 : decode cL_law 1141 = .ok (.aload_n 0, 1) := by decide +kernel
theorem dL_law_1142 : decode cL_law 1142 = .ok (.iload 4, 2) := by decide +kernel
theorem dL_law_1144 : decode cL_law 1144 = .ok (.iconst 3, 1) := by decide +kernel
theorem dL_law_1145 : decode cL_law 1145 = .ok (.iadd, 1) := by decide +kernel
theorem dL_law_1146 : decode cL_law 1146 = .ok (.iaload, 1) := by decide +kernel
theorem dL_law_1147 : decode cL_law 1147 = .ok (.aload_n 0, 1) := by decide +kernel
theorem dL_law_1148 : decode cL_law 1148 = .ok (.iload 4, 2) := by decide +kernel
theorem dL_law_1150 : decode cL_law 1150 = .ok (.iconst 4, 1) := by decide +kernel
theorem dL_law_1151 : decode cL_law 1151 = .ok (.iadd, 1) := by decide +kernel
theorem dL_law_1152 : decode cL_law 1152 = .ok (.iaload, 1) := by decide +kernel
theorem dL_law_1153 : decode cL_law 1153 = .ok (.aload_n 0, 1) := by decide +kernel
theorem dL_law_1154 : decode cL_law 1154 = .ok (.iload 4, 2) := by decide +kernel
theorem dL_law_1156 : decode cL_law 1156 = .ok (.iconst 5, 1) := by decide +kernel
theorem dL_law_1157 : decode cL_law 1157 = .ok (.iadd, 1) := by decide +kernel
theorem dL_law_1158 : decode cL_law 1158 = .ok (.iaload, 1) := by decide +kernel
theorem dL_law_1159 : decode cL_law 1159 = .ok (.invokevirtual 128, 3) := by decide +kernel
theorem dL_law_1162 : decode cL_law 1162 = .ok (.pop, 1) := by decide +kernel
theorem dL_law_1163 : decode cL_law 1163 = .ok (.goto 302, 3) := by decide +kernel
theorem dL_law_1166 : decode cL_law 1166 = .ok (.aload_n 1, 1) := by decide +kernel
theorem dL_law_1167 : decode cL_law 1167 = .ok (.invokevirtual 129, 3) := by decide +kernel
theorem dL_law_1170 : decode cL_law 1170 = .ok (.pop2, 1) := by decide +kernel
theorem dL_law_1171 : decode cL_law 1171 = .ok (.aload_n 2, 1) := by decide +kernel
theorem dL_law_1172 : decode cL_law 1172 = .ok (.invokevirtual 133, 3) := by decide +kernel
theorem dL_law_1175 : decode cL_law 1175 = .ok (.pop2, 1) := by decide +kernel
theorem dL_law_1176 : decode cL_law 1176 = .ok (.goto 289, 3) := by decide +kernel
theorem dL_law_1179 : decode cL_law 1179 = .ok (.aload_n 1, 1) := by decide +kernel
theorem dL_law_1180 : decode cL_law 1180 = .ok (.invokevirtual 134, 3) := by decide +kernel
theorem dL_law_1183 : decode cL_law 1183 = .ok (.pop, 1) := by decide +kernel
theorem dL_law_1184 : decode cL_law 1184 = .ok (.aload_n 2, 1) := by decide +kernel
theorem dL_law_1185 : decode cL_law 1185 = .ok (.invokevirtual 137, 3) := by decide +kernel
theorem dL_law_1188 : decode cL_law 1188 = .ok (.pop, 1) := by decide +kernel
theorem dL_law_1189 : decode cL_law 1189 = .ok (.goto 276, 3) := by decide +kernel
theorem dL_law_1192 : decode cL_law 1192 = .ok (.aload_n 1, 1) := by decide +kernel
theorem dL_law_1193 : decode cL_law 1193 = .ok (.invokevirtual 138, 3) := by decide +kernel
theorem dL_law_1196 : decode cL_law 1196 = .ok (.pop, 1) := by decide +kernel
theorem dL_law_1197 : decode cL_law 1197 = .ok (.aload_n 2, 1) := by decide +kernel
theorem dL_law_1198 : decode cL_law 1198 = .ok (.invokevirtual 141, 3) := by decide +kernel
theorem dL_law_1201 : decode cL_law 1201 = .ok (.pop, 1) := by decide +kernel
theorem dL_law_1202 : decode cL_law 1202 = .ok (.goto 263, 3) := by decide +kernel
theorem dL_law_1205 : decode cL_law 1205 = .ok (.aload_n 1, 1) := by decide +kernel
theorem dL_law_1206 : decode cL_law 1206 = .ok (.aload_n 0, 1) := by decide +kernel
theorem dL_law_1207 : decode cL_law 1207 = .ok (.iload 4, 2) := by decide +kernel
theorem dL_law_1209 : decode cL_law 1209 = .ok (.iconst 1, 1) := by decide +kernel
theorem dL_law_1210 : decode cL_law 1210 = .ok (.iadd, 1) := by decide +kernel
theorem dL_law_1211 : decode cL_law 1211 = .ok (.iaload, 1) := by decide +kernel
theorem dL_law_1212 : decode cL_law 1212 = .ok (.aload_n 0, 1) := by decide +kernel
theorem dL_law_1213 : decode cL_law 1213 = .ok (.iload 4, 2) := by decide +kernel
theorem dL_law_1215 : decode cL_law 1215 = .ok (.iconst 2, 1) := by decide +kernel
theorem dL_law_1216 : decode cL_law 1216 = .ok (.iadd, 1) := by decide +kernel
theorem dL_law_1217 : decode cL_law 1217 = .ok (.iaload, 1) := by decide +kernel
theorem dL_law_1218 : decode cL_law 1218 = .ok (.aload_n 0, 1) := by decide +kernel
theorem dL_law_1219 : decode cL_law 1219 = .ok (.iload 4, 2) := by decide +kernel
theorem dL_law_1221 : decode cL_law 1221 = .ok (.iconst 3, 1) := by decide +kernel
theorem dL_law_1222 : decode cL_law 1222 = .ok (.iadd, 1) := by decide +kernel
theorem dL_law_1223 : decode cL_law 1223 = .ok (.iaload, 1) := by decide +kernel
theorem dL_law_1224 : decode cL_law 1224 = .ok (.invokevirtual 142, 3) := by decide +kernel
theorem dL_law_1227 : decode cL_law 1227 = .ok (.pop, 1) := by decide +kernel
theorem dL_law_1228 : decode cL_law 1228 = .ok (.aload_n 2, 1) := by decide +kernel
theorem dL_law_1229 : decode cL_law 1229 = .ok (.aload_n 0, 1) := by decide +kernel
theorem dL_law_1230 : decode cL_law 1230 = .ok (.iload 4, 2) := by decide +kernel
theorem dL_law_1232 : decode cL_law 1232 = .ok (.iconst 1, 1) := by decide +kernel
theorem dL_law_1233 : decode cL_law 1233 = .ok (.iadd, 1) := by decide +kernel
theorem dL_law_1234 : decode cL_law 1234 = .ok (.iaload, 1) := by decide +kernel
theorem dL_law_1235 : decode cL_law 1235 = .ok (.aload_n 0, 1) := by decide +kernel
theorem dL_law_1236 : decode cL_law 1236 = .ok (.iload 4, 2) := by decide +kernel
theorem dL_law_1238 : decode cL_law 1238 = .ok (.iconst 2, 1) := by decide +kernel
theorem dL_law_1239 : decode cL_law 1239 = .ok (.iadd, 1) := by decide +kernel
theorem dL_law_1240 : decode cL_law 1240 = .ok (.iaload, 1) := by decide +kernel
theorem dL_law_1241 : decode cL_law 1241 = .ok (.aload_n 0, 1) := by decide +kernel
theorem dL_law_1242 : decode cL_law 1242 = .ok (.iload 4, 2) := by decide +kernel
theorem dL_law_1244 : decode cL_law 1244 = .ok (.iconst 3, 1) := by decide +kernel
theorem dL_law_1245 : decode cL_law 1245 = .ok (.iadd, 1) := by decide +kernel
theorem dL_law_1246 : decode cL_law 1246 = .ok (.iaload, 1) := by decide +kernel
theorem dL_law_1247 : decode cL_law 1247 = .ok (.invokevirtual 146, 3) := by decide +kernel
theorem dL_law_1250 : decode cL_law 1250 = .ok (.pop, 1) := by decide +kernel
theorem dL_law_1251 : decode cL_law 1251 = .ok (.goto 214, 3) := by decide +kernel
theorem dL_law_1254 : decode cL_law 1254 = .ok (.aload_n 1, 1) := by decide +kernel
theorem dL_law_1255 : decode cL_law 1255 = .ok (.aload_n 0, 1) := by decide +kernel
theorem dL_law_1256 : decode cL_law 1256 = .ok (.iload 4, 2) := by decide +kernel
theorem dL_law_1258 : decode cL_law 1258 = .ok (.iconst 1, 1) := by decide +kernel
theorem dL_law_1259 : decode cL_law 1259 = .ok (.iadd, 1) := by decide +kernel
theorem dL_law_1260 : decode cL_law 1260 = .ok (.iaload, 1) := by decide +kernel
theorem dL_law_1261 : decode cL_law 1261 = .ok (.invokevirtual 147, 3) := by decide +kernel
theorem dL_law_1264 : decode cL_law 1264 = .ok (.pop, 1) := by decide +kernel
theorem dL_law_1265 : decode cL_law 1265 = .ok (.aload_n 2, 1) := by decide +kernel
theorem dL_law_1266 : decode cL_law 1266 = .ok (.aload_n 0, 1) := by decide +kernel
theorem dL_law_1267 : decode cL_law 1267 = .ok (.iload 4, 2) := by decide +kernel
theorem dL_law_1269 : decode cL_law 1269 = .ok (.iconst 1, 1) := by decide +kernel
theorem dL_law_1270 : decode cL_law 1270 = .ok (.iadd, 1) := by decide +kernel
theorem dL_law_1271 : decode cL_law 1271 = .ok (.iaload, 1) := by decide +kernel
theorem dL_law_1272 : decode cL_law 1272 = .ok (.invokevirtual 150, 3) := by decide +kernel
theorem dL_law_1275 : decode cL_law 1275 = .ok (.pop, 1) := by decide +kernel
theorem dL_law_1276 : decode cL_law 1276 = .ok (.goto 189, 3) := by decide +kernel
theorem dL_law_1279 : decode cL_law 1279 = .ok (.aload_n 1, 1) := by decide +kernel
theorem dL_law_1280 : decode cL_law 1280 = .ok (.aload_n 0, 1) := by decide +kernel
theorem dL_law_1281 : decode cL_law 1281 = .ok (.iload 4, 2) := by decide +kernel
theorem dL_law_1283 : decode cL_law 1283 = .ok (.iconst 1, 1) := by decide +kernel
theorem dL_law_1284 : decode cL_law 1284 = .ok (.iadd, 1) := by decide +kernel
theorem dL_law_1285 : decode cL_law 1285 = .ok (.iaload, 1) := by decide +kernel
theorem dL_law_1286 : decode cL_law 1286 = .ok (.invokevirtual 151, 3) := by decide +kernel
theorem dL_law_1289 : decode cL_law 1289 = .ok (.pop, 1) := by decide +kernel
theorem dL_law_1290 : decode cL_law 1290 = .ok (.aload_n 2, 1) := by decide +kernel
theorem dL_law_1291 : decode cL_law 1291 = .ok (.aload_n 0, 1) := by decide +kernel
theorem dL_law_1292 : decode cL_law 1292 = .ok (.iload 4, 2) := by decide +kernel
theorem dL_law_1294 : decode cL_law 1294 = .ok (.iconst 1, 1) := by decide +kernel
theorem dL_law_1295 : decode cL_law 1295 = .ok (.iadd, 1) := by decide +kernel
theorem dL_law_1296 : decode cL_law 1296 = .ok (.iaload, 1) := by decide +kernel
theorem dL_law_1297 : decode cL_law 1297 = .ok (.invokevirtual 154, 3) := by decide +kernel
theorem dL_law_1300 : decode cL_law 1300 = .ok (.pop, 1) := by decide +kernel
theorem dL_law_1301 : decode cL_law 1301 = .ok (.goto 164, 3) := by decide +kernel
theorem dL_law_1304 : decode cL_law 1304 = .ok (.aload_n 1, 1) := by decide +kernel
theorem dL_law_1305 : decode cL_law 1305 = .ok (.invokevirtual 155, 3) := by decide +kernel
theorem dL_law_1308 : decode cL_law 1308 = .ok (.aload_n 2, 1) := by decide +kernel
theorem dL_law_1309 : decode cL_law 1309 = .ok (.invokevirtual 158, 3) := by decide +kernel
theorem dL_law_1312 : decode cL_law 1312 = .ok (.if_icmp .eq 153, 3) := by decide +kernel
theorem dL_law_1317 : decode cL_law 1317 = .ok (.aload_n 1, 1) := by decide +kernel
theorem dL_law_1318 : decode cL_law 1318 = .ok (.aload_n 0, 1) := by decide +kernel
theorem dL_law_1319 : decode cL_law 1319 = .ok (.iload 4, 2) := by decide +kernel
theorem dL_law_1321 : decode cL_law 1321 = .ok (.iconst 1, 1) := by decide +kernel
theorem dL_law_1322 : decode cL_law 1322 = .ok (.iadd, 1) := by decide +kernel
theorem dL_law_1323 : decode cL_law 1323 = .ok (.iaload, 1) := by decide +kernel
theorem dL_law_1324 : decode cL_law 1324 = .ok (.invokevirtual 159, 3) := by decide +kernel
theorem dL_law_1327 : decode cL_law 1327 = .ok (.pop, 1) := by decide +kernel
theorem dL_law_1328 : decode cL_law 1328 = .ok (.aload_n 2, 1) := by decide +kernel
theorem dL_law_1329 : decode cL_law 1329 = .ok (.aload_n 0, 1) := by decide +kernel
theorem dL_law_1330 : decode cL_law 1330 = .ok (.iload 4, 2) := by decide +kernel
theorem dL_law_1332 : decode cL_law 1332 = .ok (.iconst 1, 1) := by decide +kernel
theorem dL_law_1333 : decode cL_law 1333 = .ok (.iadd, 1) := by decide +kernel
theorem dL_law_1334 : decode cL_law 1334 = .ok (.iaload, 1) := by decide +kernel
theorem dL_law_1335 : decode cL_law 1335 = .ok (.invokevirtual 162, 3) := by decide +kernel
theorem dL_law_1338 : decode cL_law 1338 = .ok (.pop, 1) := by decide +kernel
theorem dL_law_1339 : decode cL_law 1339 = .ok (.goto 126, 3) := by decide +kernel
theorem dL_law_1342 : decode cL_law 1342 = .ok (.aload_n 1, 1) := by decide +kernel
theorem dL_law_1343 : decode cL_law 1343 = .ok (.aload_n 0, 1) := by decide +kernel
theorem dL_law_1344 : decode cL_law 1344 = .ok (.iload 4, 2) := by decide +kernel
theorem dL_law_1346 : decode cL_law 1346 = .ok (.iconst 1, 1) := by decide +kernel
theorem dL_law_1347 : decode cL_law 1347 = .ok (.iadd, 1) := by decide +kernel
theorem dL_law_1348 : decode cL_law 1348 = .ok (.iaload, 1) := by decide +kernel
theorem dL_law_1349 : decode cL_law 1349 = .ok (.aload_n 0, 1) := by decide +kernel
theorem dL_law_1350 : decode cL_law 1350 = .ok (.iload 4, 2) := by decide +kernel
theorem dL_law_1352 : decode cL_law 1352 = .ok (.iconst 2, 1) := by decide +kernel
theorem dL_law_1353 : decode cL_law 1353 = .ok (.iadd, 1) := by decide +kernel
theorem dL_law_1354 : decode cL_law 1354 = .ok (.iaload, 1) := by decide +kernel
theorem dL_law_1355 : decode cL_law 1355 = .ok (.aload_n 0, 1) := by decide +kernel
theorem dL_law_1356 : decode cL_law 1356 = .ok (.iload 4, 2) := by decide +kernel
theorem dL_law_1358 : decode cL_law 1358 = .ok (.iconst 3, 1) := by decide +kernel
theorem dL_law_1359 : decode cL_law 1359 = .ok (.iadd, 1) := by decide +kernel
theorem dL_law_1360 : decode cL_law 1360 = .ok (.iaload, 1) := by decide +kernel
theorem dL_law_1361 : decode cL_law 1361 = .ok (.aload_n 0, 1) := by decide +kernel
theorem dL_law_1362 : decode cL_law 1362 = .ok (.iload 4, 2) := by decide +kernel
theorem dL_law_1364 : decode cL_law 1364 = .ok (.iconst 4, 1) := by decide +kernel
theorem dL_law_1365 : decode cL_law 1365 = .ok (.iadd, 1) := by decide +kernel
theorem dL_law_1366 : decode cL_law 1366 = .ok (.iaload, 1) := by decide +kernel
theorem dL_law_1367 : decode cL_law 1367 = .ok (.aload_n 0, 1) := by decide +kernel
theorem dL_law_1368 : decode cL_law 1368 = .ok (.iload 4, 2) := by decide +kernel
theorem dL_law_1370 : decode cL_law 1370 = .ok (.iconst 5, 1) := by decide +kernel
theorem dL_law_1371 : decode cL_law 1371 = .ok (.iadd, 1) := by decide +kernel
theorem dL_law_1372 : decode cL_law 1372 = .ok (.iaload, 1) := by decide +kernel
theorem dL_law_1373 : decode cL_law 1373 = .ok (.invokevirtual 163, 3) := by decide +kernel
theorem dL_law_1376 : decode cL_law 1376 = .ok (.pop, 1) := by decide +kernel
theorem dL_law_1377 : decode cL_law 1377 = .ok (.aload_n 2, 1) := by decide +kernel
theorem dL_law_1378 : decode cL_law 1378 = .ok (.aload_n 0, 1) := by decide +kernel
theorem dL_law_1379 : decode cL_law 1379 = .ok (.iload 4, 2) := by decide +kernel
theorem dL_law_1381 : decode cL_law 1381 = .ok (.iconst 1, 1) := by decide +kernel
theorem dL_law_1382 : decode cL_law 1382 = .ok (.iadd, 1) := by decide +kernel
theorem dL_law_1383 : decode cL_law 1383 = .ok (.iaload, 1) := by decide +kernel
theorem dL_law_1384 : decode cL_law 1384 = .ok (.aload_n 0, 1) := by decide +kernel
theorem dL_law_1385 : decode cL_law 1385 = .ok (.iload 4, 2) := by decide +kernel
theorem dL_law_1387 : decode cL_law 1387 = .ok (.iconst 2, 1) := by decide +kernel
theorem dL_law_1388 : decode cL_law 1388 = .ok (.iadd, 1) := by decide +kernel
theorem dL_law_1389 : decode cL_law 1389 = .ok (.iaload, 1) := by decide +kernel
theorem dL_law_1390 : decode cL_law 1390 = .ok (.aload_n 0, 1) := by decide +kernel
theorem dL_law_1391 : decode cL_law 1391 = .ok (.iload 4, 2) := by decide +kernel
theorem dL_law_1393 : decode cL_law 1393 = .ok (.iconst 3, 1) := by decide +kernel
theorem dL_law_1394 : decode cL_law 1394 = .ok (.iadd, 1) := by decide +kernel
theorem dL_law_1395 : decode cL_law 1395 = .ok (.iaload, 1) := by decide +kernel
theorem dL_law_1396 : decode cL_law 1396 = .ok (.aload_n 0, 1) := by decide +kernel
theorem dL_law_1397 : decode cL_law 1397 = .ok (.iload 4, 2) := by decide +kernel
theorem dL_law_1399 : decode cL_law 1399 = .ok (.iconst 4, 1) := by decide +kernel
theorem dL_law_1400 : decode cL_law 1400 = .ok (.iadd, 1) := by decide +kernel
theorem dL_law_1401 : decode cL_law 1401 = .ok (.iaload, 1) := by decide +kernel
theorem dL_law_1402 : decode cL_law 1402 = .ok (.aload_n 0, 1) := by decide +kernel
theorem dL_law_1403 : decode cL_law 1403 = .ok (.iload 4, 2) := by decide +kernel
theorem dL_law_1405 : decode cL_law 1405 = .ok (.iconst 5, 1) := by decide +kernel
theorem dL_law_1406 : decode cL_law 1406 = .ok (.iadd, 1) := by decide +kernel
theorem dL_law_1407 : decode cL_law 1407 = .ok (.iaload, 1) := by decide +kernel
theorem dL_law_1408 : decode cL_law 1408 = .ok (.invokevirtual 166, 3) := by decide +kernel
theorem dL_law_1411 : decode cL_law 1411 = .ok (.pop, 1) := by decide +kernel
theorem dL_law_1412 : decode cL_law 1412 = .ok (.goto 53, 3) := by decide +kernel
theorem dL_law_1415 : decode cL_law 1415 = .ok (.aload_n 1, 1) := by decide +kernel
theorem dL_law_1416 : decode cL_law 1416 = .ok (.aload_n 0, 1) := by decide +kernel
theorem dL_law_1417 : decode cL_law 1417 = .ok (.iload 4, 2) := by decide +kernel
theorem dL_law_1419 : decode cL_law 1419 = .ok (.iconst 1, 1) := by decide +kernel
theorem dL_law_1420 : decode cL_law 1420 = .ok (.iadd, 1) := by decide +kernel
theorem dL_law_1421 : decode cL_law 1421 = .ok (.iaload, 1) := by decide +kernel
theorem dL_law_1422 : decode cL_law 1422 = .ok (.invokevirtual 167, 3) := by decide +kernel
theorem dL_law_1425 : decode cL_law 1425 = .ok (.pop, 1) := by decide +kernel
theorem dL_law_1426 : decode cL_law 1426 = .ok (.aload_n 2, 1) := by decide +kernel
theorem dL_law_1427 : decode cL_law 1427 = .ok (.aload_n 0, 1) := by decide +kernel
theorem dL_law_1428 : decode cL_law 1428 = .ok (.iload 4, 2) := by decide +kernel
theorem dL_law_1430 : decode cL_law 1430 = .ok (.iconst 1, 1) := by decide +kernel
theorem dL_law_1431 : decode cL_law 1431 = .ok (.iadd, 1) := by decide +kernel
theorem dL_law_1432 : decode cL_law 1432 = .ok (.iaload, 1) := by decide +kernel
theorem dL_law_1433 : decode cL_law 1433 = .ok (.invokevirtual 170, 3) := by decide +kernel
theorem dL_law_1436 : decode cL_law 1436 = .ok (.pop, 1) := by decide +kernel
theorem dL_law_1437 : decode cL_law 1437 = .ok (.goto 28, 3) := by decide +kernel
theorem dL_law_1440 : decode cL_law 1440 = .ok (.aload_n 1, 1) := by decide +kernel
theorem dL_law_1441 : decode cL_law 1441 = .ok (.aload_n 0, 1) := by decide +kernel
theorem dL_law_1442 : decode cL_law 1442 = .ok (.iload 4, 2) := by decide +kernel
theorem dL_law_1444 : decode cL_law 1444 = .ok (.iconst 1, 1) := by decide +kernel
theorem dL_law_1445 : decode cL_law 1445 = .ok (.iadd, 1) := by decide +kernel
theorem dL_law_1446 : decode cL_law 1446 = .ok (.iaload, 1) := by decide +kernel
theorem dL_law_1447 : decode cL_law 1447 = .ok (.invokevirtual 171, 3) := by decide +kernel
theorem dL_law_1450 : decode cL_law 1450 = .ok (.pop, 1) := by decide +kernel
theorem dL_law_1451 : decode cL_law 1451 = .ok (.aload_n 2, 1) := by decide +kernel
theorem dL_law_1452 : decode cL_law 1452 = .ok (.aload_n 0, 1) := by decide +kernel
theorem dL_law_1453 : decode cL_law 1453 = .ok (.iload 4, 2) := by decide +kernel
theorem dL_law_1455 : decode cL_law 1455 = .ok (.iconst 1, 1) := by decide +kernel
theorem dL_law_1456 : decode cL_law 1456 = .ok (.iadd, 1) := by decide +kernel
theorem dL_law_1457 : decode cL_law 1457 = .ok (.iaload, 1) := by decide +kernel
theorem dL_law_1458 : decode cL_law 1458 = .ok (.invokevirtual 174, 3) := by decide +kernel
theorem dL_law_1461 : decode cL_law 1461 = .ok (.pop, 1) := by decide +kernel
theorem dL_law_1462 : decode cL_law 1462 = .ok (.goto 3, 3) := by decide +kernel
theorem dL_law_1465 : decode cL_law 1465 = .ok (.iinc 4 6, 3) := by decide +kernel
theorem dL_law_1468 : decode cL_law 1468 = .ok (.goto (-1445), 3) := by decide +kernel
theorem dL_law_1471 : decode cL_law 1471 = .ok (.iconst 1, 1) := by decide +kernel
theorem dL_law_1472 : decode cL_law 1472 = .ok (.ireturn, 1) := by decide +kernel
theorem li_L_19 : xLI RL 19 yX11_init cX11_init 1 0 := ⟨Or.inl m_1_7, m_1_8, m_1_2, m_1_9, rfl, by decide +kernel⟩
theorem li_L_22 : xLI RL 22 yX12_init cX12_init 1 0 := ⟨Or.inl m_7_22, m_7_23, m_1_5, m_8_0, rfl, by decide +kernel⟩
theorem lk_L_102 : xLV RL 102 yX12_close cX12_close 4 (some .int) 0 := ⟨m_40_16, m_40_17, m_40_18, m_1_5, m_40_19, by decide +kernel⟩
theorem lk_L_108 : xLV RL 108 yX12_of cX12_of 3 (some .int) 2 := ⟨m_42_3, m_42_4, m_42_5, m_1_5, m_42_6, by decide +kernel⟩
theorem lk_L_112 : xLV RL 112 yX12_coin cX12_coin 2 (some .int) 1 := ⟨m_42_18, m_42_19, m_42_20, m_1_5, m_42_21, by decide +kernel⟩
theorem lk_L_113 : xLV RL 113 yX11_counted cX11_counted 5 (some .int) 4 := ⟨m_42_22, m_43_0, m_43_1, m_1_2, m_43_2, by decide +kernel⟩
theorem lk_L_116 : xLV RL 116 yX12_counted cX12_counted 5 (some .int) 4 := ⟨m_43_9, m_43_10, m_43_11, m_1_5, m_43_12, by decide +kernel⟩
theorem lk_L_117 : xLV RL 117 yX11_falseCounts cX11_falseCounts 2 (some .int) 1 := ⟨m_43_14, m_43_15, m_43_16, m_1_2, m_43_17, by decide +kernel⟩
theorem lk_L_120 : xLV RL 120 yX12_falseCounts cX12_falseCounts 7 (some .int) 1 := ⟨m_44_6, m_44_7, m_44_8, m_1_5, m_44_9, by decide +kernel⟩
theorem lk_L_121 : xLV RL 121 yX11_shortOf cX11_shortOf 2 (some .int) 1 := ⟨m_44_18, m_44_19, m_44_20, m_1_2, m_44_21, by decide +kernel⟩
theorem lk_L_124 : xLV RL 124 yX12_shortOf cX12_shortOf 9 (some .int) 1 := ⟨m_45_17, m_45_18, m_45_19, m_1_5, m_45_20, by decide +kernel⟩
theorem lk_L_125 : xLV RL 125 yX11_best cX11_best 7 (some .int) 5 := ⟨m_46_1, m_46_2, m_46_3, m_1_2, m_46_4, by decide +kernel⟩
theorem lk_L_128 : xLV RL 128 yX12_best cX12_best 19 (some .int) 5 := ⟨m_47_0, m_47_1, m_47_2, m_1_5, m_47_3, by decide +kernel⟩
theorem lk_L_129 : xLV RL 129 yX11_expected cX11_expected 1 (some .long) 0 := ⟨m_47_5, m_47_6, m_47_7, m_1_2, m_47_8, by decide +kernel⟩
theorem lk_L_133 : xLV RL 133 yX12_expected cX12_expected 1 (some .long) 0 := ⟨m_47_10, m_47_11, m_47_12, m_1_5, m_47_13, by decide +kernel⟩
theorem lk_L_134 : xLV RL 134 yX11_tried cX11_tried 1 (some .int) 0 := ⟨m_47_14, m_47_15, m_47_16, m_1_2, m_47_17, by decide +kernel⟩
theorem lk_L_137 : xLV RL 137 yX12_tried cX12_tried 5 (some .int) 0 := ⟨m_48_3, m_48_4, m_48_5, m_1_5, m_48_6, by decide +kernel⟩
theorem lk_L_138 : xLV RL 138 yX11_triedEaten cX11_triedEaten 1 (some .int) 0 := ⟨m_48_12, m_48_13, m_48_14, m_1_2, m_48_15, by decide +kernel⟩
theorem lk_L_141 : xLV RL 141 yX12_triedEaten cX12_triedEaten 1 (some .int) 0 := ⟨m_48_16, m_48_17, m_48_18, m_1_5, m_48_19, by decide +kernel⟩
theorem lk_L_142 : xLV RL 142 yX11_parted cX11_parted 6 (some .int) 3 := ⟨m_48_20, m_48_21, m_48_22, m_1_2, m_48_23, by decide +kernel⟩
theorem lk_L_146 : xLV RL 146 yX12_parted cX12_parted 7 (some .int) 3 := ⟨m_51_16, m_51_17, m_51_18, m_1_5, m_51_19, by decide +kernel⟩
theorem lk_L_147 : xLV RL 147 yX11_partedAt cX11_partedAt 2 (some .int) 1 := ⟨m_52_16, m_52_17, m_52_18, m_1_2, m_52_19, by decide +kernel⟩
theorem lk_L_150 : xLV RL 150 yX12_partedAt cX12_partedAt 2 (some .int) 1 := ⟨m_52_22, m_52_23, m_53_0, m_1_5, m_53_1, by decide +kernel⟩
theorem lk_L_151 : xLV RL 151 yX11_peace cX11_peace 2 (some .int) 1 := ⟨m_53_2, m_53_3, m_53_4, m_1_2, m_53_5, by decide +kernel⟩
theorem lk_L_154 : xLV RL 154 yX12_peace cX12_peace 2 (some .int) 1 := ⟨m_53_10, m_53_11, m_53_12, m_1_5, m_53_13, by decide +kernel⟩
theorem lk_L_155 : xLV RL 155 yX11_truck cX11_truck 2 (some .int) 0 := ⟨m_53_14, m_53_15, m_53_16, m_1_2, m_53_17, by decide +kernel⟩
theorem lk_L_158 : xLV RL 158 yX12_truck cX12_truck 7 (some .int) 0 := ⟨m_55_10, m_55_11, m_55_12, m_1_5, m_55_13, by decide +kernel⟩
theorem lk_L_159 : xLV RL 159 yX11_truckAt cX11_truckAt 2 (some .int) 1 := ⟨m_56_2, m_56_3, m_56_4, m_1_2, m_56_5, by decide +kernel⟩
theorem lk_L_162 : xLV RL 162 yX12_truckAt cX12_truckAt 2 (some .int) 1 := ⟨m_56_8, m_56_9, m_56_10, m_1_5, m_56_11, by decide +kernel⟩
theorem lk_L_163 : xLV RL 163 yX11_strike cX11_strike 7 (some .int) 5 := ⟨m_56_12, m_56_13, m_56_14, m_1_2, m_56_15, by decide +kernel⟩
theorem lk_L_166 : xLV RL 166 yX12_strike cX12_strike 13 (some .int) 5 := ⟨m_57_5, m_57_6, m_57_7, m_1_5, m_57_8, by decide +kernel⟩
theorem lk_L_167 : xLV RL 167 yX11_struck cX11_struck 2 (some .int) 1 := ⟨m_57_12, m_57_13, m_57_14, m_1_2, m_57_15, by decide +kernel⟩
theorem lk_L_170 : xLV RL 170 yX12_struck cX12_struck 2 (some .int) 1 := ⟨m_57_16, m_57_17, m_57_18, m_1_5, m_57_19, by decide +kernel⟩
theorem lk_L_171 : xLV RL 171 yX11_count cX11_count 2 (some .int) 1 := ⟨m_57_20, m_57_21, m_57_22, m_1_2, m_57_23, by decide +kernel⟩
theorem lk_L_174 : xLV RL 174 yX12_count cX12_count 2 (some .int) 1 := ⟨m_58_0, m_58_1, m_58_2, m_1_5, m_58_3, by decide +kernel⟩
theorem lk_L_23 : xLV RL 23 yX11_feed cX11_feed 6 (some .int) 5 := ⟨m_10_16, m_10_17, m_10_18, m_1_2, m_10_19, by decide +kernel⟩
theorem lk_L_27 : xLV RL 27 yX12_feed cX12_feed 6 (some .int) 5 := ⟨m_11_1, m_11_2, m_11_3, m_1_5, m_11_4, by decide +kernel⟩
theorem lk_L_28 : xLV RL 28 yX11_end cX11_end 2 (some .boolean) 1 := ⟨m_11_11, m_11_12, m_11_13, m_1_2, m_11_14, by decide +kernel⟩
theorem lk_L_32 : xLV RL 32 yX12_end cX12_end 2 (some .boolean) 1 := ⟨m_11_15, m_11_16, m_11_17, m_1_5, m_11_18, by decide +kernel⟩
theorem lk_L_33 : xLV RL 33 yX11_boy cX11_boy 6 (some .int) 4 := ⟨m_11_19, m_11_20, m_11_21, m_1_2, m_11_22, by decide +kernel⟩
theorem lk_L_37 : xLV RL 37 yX12_boy cX12_boy 5 (some .int) 4 := ⟨m_15_7, m_15_8, m_15_9, m_1_5, m_15_10, by decide +kernel⟩
theorem lk_L_38 : xLV RL 38 yX11_badge cX11_badge 3 (some .boolean) 2 := ⟨m_15_15, m_15_16, m_15_17, m_1_2, m_15_18, by decide +kernel⟩
theorem lk_L_42 : xLV RL 42 yX12_badge cX12_badge 3 (some .boolean) 2 := ⟨m_16_18, m_16_19, m_16_20, m_1_5, m_16_21, by decide +kernel⟩
theorem lk_L_43 : xLV RL 43 yX11_owner cX11_owner 3 (some .boolean) 2 := ⟨m_17_2, m_17_3, m_17_4, m_1_2, m_17_5, by decide +kernel⟩
theorem lk_L_46 : xLV RL 46 yX12_owner cX12_owner 3 (some .boolean) 2 := ⟨m_17_10, m_17_11, m_17_12, m_1_5, m_17_13, by decide +kernel⟩
theorem lk_L_47 : xLV RL 47 yX11_weather cX11_weather 2 (some .boolean) 0 := ⟨m_17_17, m_17_18, m_17_19, m_1_2, m_17_20, by decide +kernel⟩
theorem lk_L_51 : xLV RL 51 yX12_weather cX12_weather 3 (some .boolean) 0 := ⟨m_18_7, m_18_8, m_18_9, m_1_5, m_18_10, by decide +kernel⟩
theorem lk_L_52 : xLV RL 52 yX11_sky cX11_sky 2 (some .int) 1 := ⟨m_18_16, m_18_17, m_18_18, m_1_2, m_18_19, by decide +kernel⟩
theorem lk_L_55 : xLV RL 55 yX12_sky cX12_sky 2 (some .int) 1 := ⟨m_18_21, m_18_22, m_18_23, m_1_5, m_19_0, by decide +kernel⟩
theorem lk_L_56 : xLV RL 56 yX11_headline cX11_headline 4 (some .boolean) 3 := ⟨m_19_8, m_19_9, m_19_10, m_1_2, m_19_11, by decide +kernel⟩
theorem lk_L_60 : xLV RL 60 yX12_headline cX12_headline 4 (some .boolean) 3 := ⟨m_19_19, m_19_20, m_19_21, m_1_5, m_19_22, by decide +kernel⟩
theorem lk_L_61 : xLV RL 61 yX11_table cX11_table 4 (some .boolean) 3 := ⟨m_20_3, m_20_4, m_20_5, m_1_2, m_20_6, by decide +kernel⟩
theorem lk_L_64 : xLV RL 64 yX12_table cX12_table 4 (some .boolean) 3 := ⟨m_20_12, m_20_13, m_20_14, m_1_5, m_20_15, by decide +kernel⟩
theorem lk_L_65 : xLV RL 65 yX11_want cX11_want 4 (some .boolean) 3 := ⟨m_20_16, m_20_17, m_20_18, m_1_2, m_20_19, by decide +kernel⟩
theorem lk_L_68 : xLV RL 68 yX12_want cX12_want 4 (some .boolean) 3 := ⟨m_20_21, m_20_22, m_20_23, m_1_5, m_21_0, by decide +kernel⟩
theorem lk_L_69 : xLV RL 69 yX11_asked cX11_asked 5 (some .int) 4 := ⟨m_21_1, m_21_2, m_21_3, m_1_2, m_21_4, by decide +kernel⟩
theorem lk_L_73 : xLV RL 73 yX12_asked cX12_asked 5 (some .int) 4 := ⟨m_21_9, m_21_10, m_21_11, m_1_5, m_21_12, by decide +kernel⟩
theorem lk_L_74 : xLV RL 74 yX11_minutes cX11_minutes 4 (some .boolean) 3 := ⟨m_21_17, m_21_18, m_21_19, m_1_2, m_21_20, by decide +kernel⟩
theorem lk_L_77 : xLV RL 77 yX12_minutes cX12_minutes 4 (some .boolean) 3 := ⟨m_21_22, m_21_23, m_22_0, m_1_5, m_22_1, by decide +kernel⟩
theorem lk_L_78 : xLV RL 78 yX11_terms cX11_terms 3 (some .int) 1 := ⟨m_22_7, m_22_8, m_22_9, m_1_2, m_22_10, by decide +kernel⟩
theorem lk_L_81 : xLV RL 81 yX12_terms cX12_terms 4 (some .int) 1 := ⟨m_28_3, m_28_4, m_28_5, m_1_5, m_28_6, by decide +kernel⟩
theorem lk_L_82 : xLV RL 82 yX11_fault cX11_fault 1 (some .int) 0 := ⟨m_32_9, m_32_10, m_32_11, m_1_2, m_32_12, by decide +kernel⟩
theorem lk_L_86 : xLV RL 86 yX12_fault cX12_fault 1 (some .int) 0 := ⟨m_32_13, m_32_14, m_32_15, m_1_5, m_32_16, by decide +kernel⟩
theorem lk_L_87 : xLV RL 87 yX11_bundle cX11_bundle 7 (some .int) 5 := ⟨m_32_17, m_32_18, m_32_19, m_1_2, m_32_20, by decide +kernel⟩
theorem lk_L_90 : xLV RL 90 yX12_bundle cX12_bundle 8 (some .int) 5 := ⟨m_36_1, m_36_2, m_36_3, m_1_5, m_36_4, by decide +kernel⟩
theorem lk_L_91 : xLV RL 91 yX11_told cX11_told 5 (some .int) 2 := ⟨m_37_4, m_37_5, m_37_6, m_1_2, m_37_7, by decide +kernel⟩
theorem lk_L_94 : xLV RL 94 yX12_told cX12_told 4 (some .int) 2 := ⟨m_37_18, m_37_19, m_37_20, m_1_5, m_37_21, by decide +kernel⟩
theorem lk_L_95 : xLV RL 95 yX11_why cX11_why 1 (some .int) 0 := ⟨m_38_2, m_38_3, m_38_4, m_1_2, m_38_5, by decide +kernel⟩
theorem lk_L_98 : xLV RL 98 yX12_why cX12_why 1 (some .int) 0 := ⟨m_38_6, m_38_7, m_38_8, m_1_5, m_38_9, by decide +kernel⟩
theorem lk_L_99 : xLV RL 99 yX11_close cX11_close 1 (some .int) 0 := ⟨m_38_10, m_38_11, m_38_12, m_1_2, m_38_13, by decide +kernel⟩
theorem nw_L_20 : xNw RL 20 13 RX12 TX12 91 tyX12 [.int 0, .null, .int 0, .int 0, .null, .null, .null, .null, .null, .null, .null, .null, .null, .null, .null, .null, .int 0, .int 0, .int 0, .int 0, .int 0, .int 0, .int 0, .int 0, .int 0, .int 0, .int 0, .int 0, .long 0, .null, .null, .null, .null, .null, .null, .null, .null, .null, .null, .int 0, .int 0, .int 0, .int 0, .int 0, .int 0, .null, .null, .int 0, .null, .null, .null, .null, .null, .null, .null, .null, .null, .null, .int 0, .int 0, .null, .null, .null, .null, .null, .null, .null, .null, .null, .int 0, .long 0, .int 0, .null, .null, .null, .null, .null, .null, .int 0, .int 0, .null, .null, .null, .null, .null, .null, .null, .int 0, .int 0, .int 0, .int 0] := ⟨by decide, rfl, inlX12, tyX12_ok, dfX12, m_1_3, m_1_4, m_1_5⟩
theorem nw_L_8 : xNw RL 8 12 RX11 TX11 18 tyX11 [.null, .null, .null, .null, .null, .null, .null, .null, .null, .null, .null, .null, .int 0, .int 0, .int 0, .int 0, .int 0, .int 0] := ⟨by decide, rfl, inlX11, tyX11_ok, dfX11, m_1_0, m_1_1, m_1_2⟩
theorem xPi_seal {S S1 : xT} {g : xG} {a q r ci : Nat} (h : xPi S g a) (hq : S q = some (r, 0)) (hS : S1 = xset S q (ci, 0)) (hr : 5000 ≤ r ∧ r < 5100) : xPi S1 g a := by
  obtain ⟨p, q', c, d, n, h1, h2, h3, h4, h5, h6, h7, h8, h9, h10, h11, h12, h13, h14, h15⟩ := h
  have ho : ∀ b, b ≠ q → S1 b = S b := fun b hb => by rw [hS]; exact xset_o hb
  exact ⟨p, q', c, d, n, xhs_seal ho hq h1 (by omega), h2, h3, h4, xhs_seal ho hq h5 (by omega), xhs_seal ho hq h6 (by omega), h7, h8, h9, xhs_seal ho hq h10 (by omega), xhs_seal ho hq h11 (by omega), h12, h13, h14, h15⟩
section XSR
variable {K : xCx} {E : xEn} {own : String} {cc : ByteArray} {Lw : List (Nat × Nat)} {nL rf rc rs rl : Nat} {pc : Nat} {lv : List (Nat × Value)} {st : List Value} {S : xT} {g : xG} {cells slots : Nat}
theorem X_scr (hK : xK K E own cc Lw nL rf rc rs rl) {b n : Nat} {xs : Nat → Int32} {j : Int} (hX : va_X b n xs K.2.2.2.2.1 K.2.2.2.2.1.heap) (hbl : b < K.2.2.2.2.1.heap.size) (hbA : ¬ E.2.2.1 ≤ b) (hn : n ≤ 3072) (q1 : 0 ≤ j) (q2 : j < n) (hd : decode cc pc = .ok (.iaload, 1)) (kk : ∀ z : Int, xs j.toNat = iI z → -2147483648 ≤ z → z ≤ 2147483647 → X K E (pc + 1) lv (.int (iI z) :: st) S g cells slots) : X K E pc lv (.int (iI j) :: .ref b :: st) S g cells slots := by
  intro H locs ls h1 h2 h3 h4 h5 h6
  refine va_sld (A := fun q => E.2.2.1 ≤ q) hK.1 hK.2.1 hX hbl hbA h5 (iI_in q1 q2 (by omega)) hd ?_
  rw [iI_clamp q1 (by omega)]
  exact X_anyi kk H locs ls h1 h2 h3 h4 h5 h6
theorem X_scrK (hK : xK K E own cc Lw nL rf rc rs rl) {b n : Nat} {xs : Nat → Int32} {j z : Int} (hX : va_X b n xs K.2.2.2.2.1 K.2.2.2.2.1.heap) (hbl : b < K.2.2.2.2.1.heap.size) (hbA : ¬ E.2.2.1 ≤ b) (hn : n ≤ 3072) (q1 : 0 ≤ j) (q2 : j < n) (e : xs j.toNat = iI z) (hd : decode cc pc = .ok (.iaload, 1)) (kk : X K E (pc + 1) lv (.int (iI z) :: st) S g cells slots) : X K E pc lv (.int (iI j) :: .ref b :: st) S g cells slots := by
  intro H locs ls h1 h2 h3 h4 h5 h6
  refine va_sld (A := fun q => E.2.2.1 ≤ q) hK.1 hK.2.1 hX hbl hbA h5 (iI_in q1 q2 (by omega)) hd ?_
  rw [iI_clamp q1 (by omega), e]
  exact kk H locs ls h1 h2 h3 h4 h5 h6
theorem X_sclen (hK : xK K E own cc Lw nL rf rc rs rl) {b n : Nat} {xs : Nat → Int32} (hX : va_X b n xs K.2.2.2.2.1 K.2.2.2.2.1.heap) (hbl : b < K.2.2.2.2.1.heap.size) (hbA : ¬ E.2.2.1 ≤ b) (hd : decode cc pc = .ok (.arraylength, 1)) (kk : X K E (pc + 1) lv (.int (iI (n : Int)) :: st) S g cells slots) : X K E pc lv (.ref b :: st) S g cells slots := by
  intro H locs ls h1 h2 h3 h4 h5 h6
  refine va_slen (A := fun q => E.2.2.1 ≤ q) hK.1 hK.2.1 hX hbl hbA h5 hd ?_
  rw [← Int32.ofInt_eq_ofNat]
  exact kk H locs ls h1 h2 h3 h4 h5 h6
end XSR
def xLW : List (Nat × Nat) := [(5010, 0), (5010, 1), (5012, 0), (5004, 0), (5004, 1), (11000, 0), (5004, 2), (11100, 0), (5004, 3), (5004, 4), (11400, 0), (5004, 5), (5004, 6), (11500, 0), (5006, 0), (5000, 0), (5000, 1), (5006, 1), (5006, 2), (5006, 3), (5006, 4), (5006, 5), (5006, 6), (5006, 7), (5012, 1), (5012, 2), (5005, 0), (5005, 1), (5005, 2), (5005, 3), (5012, 3), (5012, 4), (5011, 0), (5011, 1), (5011, 2), (5011, 3), (5011, 4), (5011, 5), (5011, 6), (5011, 7), (5012, 5), (5008, 0), (5008, 1), (5008, 2), (5008, 3), (5008, 4), (5008, 5), (5008, 6), (5012, 6), (5012, 7), (5003, 0), (5003, 1), (5003, 2), (5003, 3), (5012, 8), (5009, 0), (5009, 1), (5009, 2), (5009, 3), (5009, 4), (5009, 5), (5012, 9), (5007, 0), (5007, 1), (5007, 2), (5007, 3), (5007, 4), (5007, 5), (5007, 6), (5007, 7), (5007, 8), (5007, 9), (5012, 10), (5012, 11), (5012, 12), (5012, 13), (5012, 14), (5012, 15), (5012, 16), (5012, 17), (5013, 1), (5013, 4), (5013, 5), (5013, 6), (5013, 7), (5013, 8), (14600, 0), (5013, 9), (5013, 10), (5013, 11), (5013, 12), (15000, 0), (5013, 13), (15100, 0), (5013, 14), (5013, 15), (5013, 29), (5013, 30), (5013, 31), (5013, 32), (5013, 33), (5013, 34), (5013, 35), (5013, 36), (5013, 37), (5013, 38), (5013, 45), (5013, 46), (5013, 47), (5013, 48), (5013, 49), (5013, 50), (5013, 51), (5013, 52), (5013, 53), (5013, 54), (5013, 55), (5013, 56), (5013, 57), (5013, 59), (5013, 60), (5013, 61), (5013, 62), (5013, 63), (5013, 64), (5013, 65), (5013, 66), (5013, 67), (5013, 68), (5013, 71), (5013, 72), (5013, 73), (5013, 74), (5013, 75), (5013, 76), (5013, 77), (5013, 80), (5013, 81), (5013, 82), (5013, 83), (5013, 84), (5013, 85), (5013, 86), (5013, 89), (5013, 90), (13500, 0), (10, 1), (13, 0), (14100, 0), (13, 2), (5001, 5), (5001, 0), (5001, 1), (5001, 2), (5001, 4), (5001, 3), (0, 0), (0, 1), (0, 2), (10103, 0), (14200, 0), (19301, 0), (14300, 0), (14400, 0), (13, 16), (1, 4), (10700, 0), (14700, 0), (13, 17), (10800, 0), (14800, 0), (11200, 0), (14900, 0), (13, 18), (15200, 0), (12900, 0), (13000, 0), (8, 2), (8, 3), (8, 4), (8, 5), (8, 6), (11, 1), (11, 2), (14000, 0), (13600, 0), (13700, 0), (13800, 0), (13900, 0), (12, 13), (11, 0), (300, 0), (300, 1), (300, 2), (10303, 0), (12, 7), (13, 19), (13, 25), (13, 27), (13, 40), (13, 41), (13, 43), (13, 44), (13, 20), (13, 21), (13, 28), (13, 23), (13, 22), (13, 24), (15300, 0), (13, 26), (15500, 0), (15600, 0), (15700, 0), (15800, 0), (13, 42), (15900, 0), (16000, 0), (16100, 0), (16200, 0), (15400, 0), (13, 39), (5002, 7), (5002, 8), (5002, 9), (5002, 10), (5002, 0), (5002, 1), (5002, 2), (5002, 3), (5002, 4), (5002, 5), (5002, 6), (12000, 0), (2, 7), (1, 5), (100, 0), (100, 1), (100, 2), (10203, 0), (16300, 0), (13, 47), (19401, 0), (14500, 0), (16400, 0), (16500, 0), (16600, 0), (16700, 0), (16800, 0), (16900, 0), (17000, 0), (13, 58), (12, 14), (13, 59), (6, 5), (6, 6), (6, 7), (200, 0), (200, 2), (10403, 0), (200, 1), (2, 8), (2, 9), (2, 10), (12, 12), (19501, 0), (17400, 0), (17500, 0), (19601, 0), (13, 3), (17100, 0), (17200, 0), (17300, 0), (12802, 0), (11700, 0), (11800, 0), (11900, 0), (5, 3), (17600, 0), (17700, 0), (17800, 0), (17900, 0), (18000, 0), (13, 69), (3, 2), (10500, 0), (10600, 0), (3, 3), (13, 70), (12, 15), (13, 71), (7, 0), (12100, 0), (12200, 0), (12600, 0), (7, 9), (12500, 0), (12300, 0), (12, 10), (12, 11), (12400, 0), (12701, 0), (18600, 0), (18700, 0), (18100, 0), (18200, 0), (19701, 0), (18300, 0), (18500, 0), (13, 78), (13, 79), (18400, 0), (9, 4), (13100, 0), (13200, 0), (9, 3), (13400, 0), (9, 5), (13300, 0), (19100, 0), (13, 87), (13, 88), (19200, 0), (19000, 0), (18800, 0), (18900, 0), (12, 16), (12, 17), (13, 89), (13, 90)]
set_option maxHeartbeats 16000000 in
set_option maxRecDepth 100000 in
theorem law_X {K : xCx} {E : xEn} {b L : Nat} {xs : Nat → Int32} {S : xT} {g : xG} (hst : K.2.1.stackTraces = false) (hK : xK K E RL cL_law xLW 7 2048 601024 7293034 84000) (hts : ∀ w ∈ lw_tbl, w.before K.2.2.2.2.2.2.1 K.2.2.2.2.1 = true) (hT : tsr (fun q => E.2.2.1 ≤ q) K.2.2.2.2.1 K.2.2.2.2.1.heap) (hp3 : xP3 K.2.2.2.2.1) (hret : ∀ (pc : Nat) (lv : List (Nat × Value)) (S1 : xT) (g1 : xG) (cells slots : Nat), decode cL_law pc = .ok (.ireturn, 1) → cells ≤ 601024 → slots ≤ 7293034 → X K E pc lv [.int (iI 1)] S1 g1 cells slots) (hL : L ≤ 3072) (hX : va_X b L xs K.2.2.2.2.1 K.2.2.2.2.1.heap) (hbl : b < K.2.2.2.2.1.heap.size) (hbA : ¬ E.2.2.1 ≤ b) (hem : S (E.2.2.2.2.2.2.2 0) = some (20003, 0)) (hab : xAb S) (hsi : xSi S E.2.2.2.2.2.2.2) : X K E 0 [(0, .ref b)] [] S g 0 0 := by
  refine X_new hK nw_L_8 (by omega) (by omega) dL_law_0 (fun b1 S2 g3 zb1 nb1 hSb1 hg3 qb1 hs_b1 => ?_)
  have A4 : xLs S2 g3 := xLs_al (xAb.ls hab) (hg3 ▸ xM_new (L := []) xM.rf nb1) rfl qb1 (xNw2.one hSb1) (by decide)
  refine X_dup hK dL_law_3 rfl ?_
  refine X_callIU hK [] [.ref b1] li_L_19 (c_X11_init _ _ _ _ _ S2 g3 b1 hs_b1 (xSi.nw hsi (xNw2.one hSb1) (by decide)) (fun a9 t9 n9 h9 => ((xNw2.tr xNw2.rf (hSb1 ▸ xNw2.set (by decide)) (fun _ h => h)) a9 t9 n9 h9).elim (hab a9 t9 n9) (fun q9 => (show ∀ t8 ∈ [5012], t8 ≠ 0 ∧ t8 ≠ 100 ∧ t8 ≠ 200 ∧ t8 ≠ 300 by decide) t9 q9)) (qb1 _ _ hem)) dL_law_4 rfl rfl (by simp [Value.category]) (by decide) (by omega) (by omega) (by decide) (fun r5 S7 g6 dcr5 dsr5 pr5 qr5 hg6 => ?_)
  obtain ⟨wr5, rfl, k8, k9, k10, k11, k12, k13, k14, k15, k16, k17, k18⟩ := pr5
  refine X_st [.ref b1] rfl ?_
  obtain ⟨b19, eb19, hs_b19, yb19⟩ := k15
  obtain ⟨b20, b21, b22, b23, eb20, hs_b20, zb20, eb21, hs_b21, zb21, eb22, hs_b22, zb22, eb23, hs_b23, zb23, b24, eb24, zb24⟩ := yb19
  refine X_seal (ci := 12) zb1 (qr5 _ _ hs_b1) (by decide) k18 (fun a9 t9 n9 k9 _ _ _ c9 h9 => Or.inr (h9 ▸ xsl_raw t9 k9 (by omega))) (fun k9 => xsl_raw _ k9 (by omega)) (fun S25 hSy26 hs_y26 hoy26 => ?_)
  have hk27 := (xhs_seal hoy26 (qr5 _ _ hs_b1) (qr5 _ _ (qb1 _ _ hem)) (by decide))
  have hk28 := (xhs_seal hoy26 (qr5 _ _ hs_b1) hs_b19 (by decide))
  have hk29 := (xhs_seal hoy26 (qr5 _ _ hs_b1) zb24.1 (by decide))
  have hk30 := (xhs_seal hoy26 (qr5 _ _ hs_b1) hs_b20 (by decide))
  have hk31 := (xhs_seal hoy26 (qr5 _ _ hs_b1) hs_b21 (by decide))
  have hk32 := (xhs_seal hoy26 (qr5 _ _ hs_b1) hs_b22 (by decide))
  have hk33 := (xhs_seal hoy26 (qr5 _ _ hs_b1) hs_b23 (by decide))
  have pi34 : xPi S25 g6 b1 := xPi_of k11 (qr5 _ _ hs_b1) hSy26
  have rk9 : xRC S25 g6 b1 := xRC_of k12 eb19 hs_b19 eb24 zb24 (qr5 _ _ hs_b1) hSy26
  obtain ⟨b35, eb35, hs_b35, fb35⟩ := k17
  obtain ⟨b36, b37, b38, eb36, hs_b36, fb36, eb37, hs_b37, eb38, hs_b38, fb38, fb37⟩ := k16
  refine X_astoren hK (i := 1) [(1, .ref b1), (0, .ref b)] dL_law_7 rfl (by decide) rfl ?_
  refine X_new hK nw_L_20 (by omega) (by omega) dL_law_8 (fun b39 S40 g41 zb39 nb39 hSb39 hg41 qb39 hs_b39 => ?_)
  have A42 : xLs S40 g41 := xLs_al (xLs_seal k8 (qr5 _ _ hs_b1) hSy26 (by decide) (by decide)) (hg41 ▸ xM_new (L := []) xM.rf nb39) rfl qb39 (xNw2.one hSb39) (by decide)
  have hk43 := (qb39 _ _ (xhs_seal hoy26 (qr5 _ _ hs_b1) hs_b35 (by decide)))
  have hk44 := (qb39 _ _ (xhs_seal hoy26 (qr5 _ _ hs_b1) hs_b36 (by decide)))
  have hk45 := (qb39 _ _ (xhs_seal hoy26 (qr5 _ _ hs_b1) hs_b37 (by decide)))
  have hk46 := (qb39 _ _ (xhs_seal hoy26 (qr5 _ _ hs_b1) hs_b38 (by decide)))
  refine X_dup hK dL_law_11 rfl ?_
  refine X_callIU hK [] [.ref b39] li_L_22 (c_X12_init _ _ _ _ _ S40 g41 b39 hs_b39 (by rw [hg41, xrow_s]; rfl) (by rw [hg41, xrow_s]; rfl) (by rw [hg41, xrow_s]; rfl) (by rw [hg41, xrow_s]; rfl) (by rw [hg41, xrow_s]; rfl) (by rw [hg41, xrow_s]; rfl) (by rw [hg41, xrow_s]; rfl) (by rw [hg41, xrow_s]; rfl) (by rw [hg41, xrow_s]; rfl) (by rw [hg41, xrow_s]; rfl) (by rw [hg41, xrow_s]; rfl) (by rw [hg41, xrow_s]; rfl) (by rw [hg41, xrow_s]; rfl) (by rw [hg41, xrow_s]; rfl) (by rw [hg41, xrow_s]; rfl) (by rw [hg41, xrow_s]; rfl) (by rw [hg41, xrow_s]; rfl) (by rw [hg41, xrow_s]; rfl) (by rw [hg41, xrow_s]; rfl) (by rw [hg41, xrow_s]; rfl) (by rw [hg41, xrow_s]; rfl) (by rw [hg41, xrow_s]; rfl) (by rw [hg41, xrow_s]; rfl) (by rw [hg41, xrow_s]; rfl) (by rw [hg41, xrow_s]; rfl) (by rw [hg41, xrow_s]; rfl) (by rw [hg41, xrow_s]; rfl) (by rw [hg41, xrow_s]; rfl) (by rw [hg41, xrow_s]; rfl)) dL_law_12 rfl rfl (by simp [Value.category]) (by decide) (by omega) (by omega) (by decide) (fun r47 S49 g48 dcr47 dsr47 pr47 qr47 hg48 => ?_)
  obtain ⟨wr47, rfl, k50, k51, k52, k53, k54, k55, k56, k57, k58, k59, k60⟩ := pr47
  have A61 : xLs S49 g48 := xLs_al A42 hg48 (by decide) qr47 wr47 (by decide)
  refine X_st [.ref b39] rfl ?_
  obtain ⟨b62, b63, b64, eb62, hs_b62, zb62, eb63, hs_b63, zb63, eb64, hs_b64, zb64⟩ := k57
  refine X_seal (ci := 13) zb39 (qr47 _ _ hs_b39) (by decide) k60 (fun a9 t9 n9 k9 _ _ _ c9 h9 => Or.inr (h9 ▸ xsl_raw t9 k9 (by omega))) (fun k9 => xsl_raw _ k9 (by omega)) (fun S65 hSy66 hs_y66 hoy66 => ?_)
  have hk67 := (xhs_seal hoy66 (qr47 _ _ hs_b39) (qr47 _ _ (qb39 _ _ hk27)) (by decide))
  have hk68 := (xhs_seal hoy66 (qr47 _ _ hs_b39) (qr47 _ _ (qb39 _ _ hs_y26)) (by decide))
  have hk69 := (xhs_seal hoy66 (qr47 _ _ hs_b39) (qr47 _ _ (qb39 _ _ hk28)) (by decide))
  have hk70 := (xhs_seal hoy66 (qr47 _ _ hs_b39) (qr47 _ _ (qb39 _ _ hk29)) (by decide))
  have hk71 := (xhs_seal hoy66 (qr47 _ _ hs_b39) (qr47 _ _ (qb39 _ _ hk30)) (by decide))
  have hk72 := (xhs_seal hoy66 (qr47 _ _ hs_b39) (qr47 _ _ (qb39 _ _ hk31)) (by decide))
  have hk73 := (xhs_seal hoy66 (qr47 _ _ hs_b39) (qr47 _ _ (qb39 _ _ hk32)) (by decide))
  have hk74 := (xhs_seal hoy66 (qr47 _ _ hs_b39) (qr47 _ _ (qb39 _ _ hk33)) (by decide))
  have hk75 := (xhs_seal hoy66 (qr47 _ _ hs_b39) (qr47 _ _ hk43) (by decide))
  have hk76 := (xhs_seal hoy66 (qr47 _ _ hs_b39) (qr47 _ _ hk44) (by decide))
  have hk77 := (xhs_seal hoy66 (qr47 _ _ hs_b39) (qr47 _ _ hk45) (by decide))
  have hk78 := (xhs_seal hoy66 (qr47 _ _ hs_b39) (qr47 _ _ hk46) (by decide))
  have hk79 := (xhs_seal hoy66 (qr47 _ _ hs_b39) hs_b62 (by decide))
  have hk80 := (xhs_seal hoy66 (qr47 _ _ hs_b39) hs_b63 (by decide))
  have hk81 := (xhs_seal hoy66 (qr47 _ _ hs_b39) hs_b64 (by decide))
  have pi82 : xPi S65 g48 b1 := xPi_seal (xPi_m (xPi_m pi34 (hg41 ▸ xM_new (L := []) xM.rf nb39) qb39 (by decide)) hg48 qr47 (by decide)) (qr47 _ _ hs_b39) hSy66 (by decide)
  have tw8 : xTW S65 g48 b1 b39 := xTW_of k59 (xRC_m (xRC_m rk9 (hg41 ▸ xM_new (L := []) xM.rf nb39) qb39 (by decide)) hg48 qr47 (by decide)) (qr47 _ _ hs_b39) hSy66
  have mm83 := xMj.mp k58 (qr47 _ _ hs_b39) hSy66
  have tmm83 := k58.1
  refine X_knowr 13500 420 hk75 (by decide) sl_10_0 (fun b84 eb84 hs_b84 => ?_)
  refine X_knowr 14100 420 hs_y66 (by decide) sl_13_1 (fun b85 eb85 hs_b85 => ?_)
  refine X_knowr 14700 400 hs_y66 (by decide) sl_13_10 (fun b86 eb86 hs_b86 => ?_)
  refine X_astoren hK (i := 2) [(2, .ref b39), (1, .ref b1), (0, .ref b)] dL_law_15 rfl (by decide) rfl ?_
  refine X_iconst hK dL_law_16 ?_
  refine X_newa hK (ty := .long) 12802 2 (.long 0) rfl (fun _ => rfl) rfl (by decide) m_1_6 (by omega) ⟨by show _ * 8 ≤ _; omega, by omega⟩ (by omega) (by omega) (fun _ _ h9 => h9) (fun S9 k9 => by rw [sl_12802]; exact ⟨0, rfl⟩) dL_law_17 (fun b87 S88 g89 zb87 nb87 hSb87 hg89 qb87 hs_b87 => ?_)
  have A90 : xLs S88 g89 := xLs_al (xLs_seal A61 (qr47 _ _ hs_b39) hSy66 (by decide) (by decide)) (hg89 ▸ xM_new (L := []) xM.rf nb87) rfl qb87 (xNw2.one hSb87) (by decide)
  refine X_astoren hK (i := 3) [(3, .ref b87), (2, .ref b39), (1, .ref b1), (0, .ref b)] dL_law_19 rfl (by decide) rfl ?_
  refine X_iconst hK dL_law_20 ?_
  refine X_istore hK (i := 4) [(4, .int (iI 0)), (3, .ref b87), (2, .ref b39), (1, .ref b1), (0, .ref b)] dL_law_21 (by decide) rfl ?_
  have P9 : ∀ (n9 : Nat) (S91 : xT) (qS91 : xLe S88 S91) (g92 : xG) (i9 k9 t9 c9 b9 sh9 sp9 sm9 : Int) (hi9 : 0 ≤ i9 ∧ i9 ≤ 3072) (hk9 : 0 ≤ k9 ∧ k9 ≤ 420) (ht9 : 0 ≤ t9 ∧ t9 ≤ 400) (hc9 : 0 ≤ c9 ∧ c9 ≤ 60) (hb9 : 0 ≤ b9 ∧ b9 ≤ 40) (hsh9 : -2147483648 ≤ sh9 ∧ sh9 ≤ 2147483647) (hsp9 : -2147483648 ≤ sp9 ∧ sp9 ≤ 2147483647) (hsm9 : 0 ≤ sm9 ∧ sm9 ≤ 400) (al9 : xLs S91 g92) (si9 : xSi S91 E.2.2.2.2.2.2.2) (pi9 : xPi S91 g92 b1) (mp9 : xMp S91 g92 b39) (tw9 : xTw S91 g92 b39) (tkw9 : xTW S91 g92 b1 b39) (el09 : g92 b1 0 = .ref b35) (el19 : g92 b1 3 = .ref b36) (el29 : g92 b1 1 = .ref b37) (el39 : g92 b37 1 = .ref b38) (el49 : g92 b1 2 = .ref b19) (el59 : g92 b19 0 = .ref b20) (el69 : g92 b19 2 = .ref b21) (el79 : g92 b19 3 = .ref b22) (el89 : g92 b19 4 = .ref b23) (el99 : g92 b35 0 = .ref b84) (el109 : g92 b39 1 = .ref b85) (el119 : g92 b39 10 = .ref b86) (el129 : g92 b39 13 = .ref b62) (el139 : g92 b39 14 = .ref b63) (el149 : g92 b39 12 = .ref b64) (exk9 : g92 b35 1 = .int (iI k9)) (emk9 : g92 b39 2 = .int (iI k9)) (ext9 : g92 b1 12 = .int (iI t9)) (emt9 : g92 b39 3 = .int (iI t9)) (exc9 : g92 b36 3 = .int (iI c9)) (emc9 : g92 b39 69 = .int (iI c9)) (exb9 : g92 b38 2 = .int (iI b9)) (emb9 : g92 b39 16 = .int (iI b9)) (exsh9 : g92 b1 16 = .int (iI sh9)) (emsh9 : g92 b39 89 = .int (iI sh9)) (exsp9 : g92 b1 17 = .int (iI sp9)) (emsp9 : g92 b39 90 = .int (iI sp9)) (emsm9 : g92 b39 17 = .int (iI sm9)) (wn9 : xWn S91 g92 b23 b64) (wt9 : xTc (xv g92 b21) (xv g92 b62) 4) (ld9 : xTc (xv g92 b22) (xv g92 b63) 6) (sk9 : xSm (xv g92 b20) (xv g92 b86) sm9) (tc9 : xTc (xv g92 b84) (xv g92 b85) k9) (dc9 ds9 : Nat) (hdc9 : (dc9 : Int) ≤ 200 + 4 * i9) (hds9 : (ds9 : Int) ≤ 20000 + 1000 * i9) (hm9 : 4000 - i9 < (n9 : Int)), X K E 23 [(4, .int (iI i9)), (3, .ref b87), (2, .ref b39), (1, .ref b1), (0, .ref b)] [] S91 g92 dc9 ds9 := by
    intro n9
    induction n9 with
    | zero => intro S91 qS91 g92 i9 k9 t9 c9 b9 sh9 sp9 sm9 hi9 hk9 ht9 hc9 hb9 hsh9 hsp9 hsm9 al9 si9 pi9 mp9 tw9 tkw9 el09 el19 el29 el39 el49 el59 el69 el79 el89 el99 el109 el119 el129 el139 el149 exk9 emk9 ext9 emt9 exc9 emc9 exb9 emb9 exsh9 emsh9 exsp9 emsp9 emsm9 wn9 wt9 ld9 sk9 tc9 dc9 ds9 hdc9 hds9 hm9; exact False.elim (by omega)
    | succ n9 ih9 =>
      intro S91 qS91 g92 i9 k9 t9 c9 b9 sh9 sp9 sm9 hi9 hk9 ht9 hc9 hb9 hsh9 hsp9 hsm9 al9 si9 pi9 mp9 tw9 tkw9 el09 el19 el29 el39 el49 el59 el69 el79 el89 el99 el109 el119 el129 el139 el149 exk9 emk9 ext9 emt9 exc9 emc9 exb9 emb9 exsh9 emsh9 exsp9 emsp9 emsm9 wn9 wt9 ld9 sk9 tc9 dc9 ds9 hdc9 hds9 hm9
      obtain ⟨nt9, Yt9, Ym9, Qt9, rc9, rm9, at9⟩ := id tkw9
      refine X_iload hK (i := 4) 0 dL_law_23 rfl ?_
      refine X_aloadn hK (i := 0) 4 dL_law_25 rfl rfl ?_
      refine X_sclen hK hX hbl hbA dL_law_26 ?_
      refine X_bipush hK dL_law_27 (by decide) ?_
      refine X_isub hK dL_law_29 ?_
      refine X_icmp_gt hK 1471 (by omega) (by omega) dL_law_30 (by decide) (fun c93 => ?_) (fun c93 => ?_)
      · refine X_iconst hK dL_law_1471 ?_
        exact hret _ _ _ _ _ _ dL_law_1472 (by omega) (by omega)
      · refine X_aloadn hK (i := 0) 4 dL_law_33 rfl rfl ?_
        refine X_iload hK (i := 4) 0 dL_law_34 rfl ?_
        refine X_scr hK hX hbl hbA hL (by omega) (by omega) dL_law_36 (fun z94 ez94 lz94 uz94 => ?_)
        refine X_bipush hK dL_law_37 (by decide) ?_
        refine X_iand hK dL_law_39 (fun z95 ez95 lz95 uz95 => ?_)
        have bz95 := xandB ez95 ⟨lz95, uz95⟩ (by omega)
        rcases (show (z95 < 0 ∨ 34 < z95) ∨ z95 = 0 ∨ z95 = 1 ∨ z95 = 2 ∨ z95 = 3 ∨ z95 = 4 ∨ z95 = 5 ∨ z95 = 6 ∨ z95 = 7 ∨ z95 = 8 ∨ z95 = 9 ∨ z95 = 10 ∨ z95 = 11 ∨ z95 = 12 ∨ z95 = 13 ∨ z95 = 14 ∨ z95 = 15 ∨ z95 = 16 ∨ z95 = 17 ∨ z95 = 18 ∨ z95 = 19 ∨ z95 = 20 ∨ z95 = 21 ∨ z95 = 22 ∨ z95 = 23 ∨ z95 = 24 ∨ z95 = 25 ∨ z95 = 26 ∨ z95 = 27 ∨ z95 = 28 ∨ z95 = 29 ∨ z95 = 30 ∨ z95 = 31 ∨ z95 = 32 ∨ z95 = 33 ∨ z95 = 34 by omega) with c96 | c96 | c96 | c96 | c96 | c96 | c96 | c96 | c96 | c96 | c96 | c96 | c96 | c96 | c96 | c96 | c96 | c96 | c96 | c96 | c96 | c96 | c96 | c96 | c96 | c96 | c96 | c96 | c96 | c96 | c96 | c96 | c96 | c96 | c96 | c96
        · refine X_tableOut hK 1465 (by omega) c96 dL_law_40 (by decide) ?_
          refine X_iinc hK (i := 4) (z := i9) (n := 6) 0 [(4, .int (iI (i9 + 6))), (3, .ref b87), (2, .ref b39), (1, .ref b1), (0, .ref b)] dL_law_1465 rfl (by decide) rfl ?_
          refine X_goto hK 23 dL_law_1468 (by decide) ?_
          exact ih9 S91 qS91 g92 (i9 + 6) k9 t9 c9 b9 sh9 sp9 sm9 (by omega) (by omega) (by omega) (by omega) (by omega) (by omega) (by omega) (by omega) al9 si9 pi9 mp9 tw9 tkw9 el09 el19 el29 el39 el49 el59 el69 el79 el89 el99 el109 el119 el129 el139 el149 exk9 emk9 ext9 emt9 exc9 emc9 exb9 emb9 exsh9 emsh9 exsp9 emsp9 emsm9 wn9 (by exact wt9) (by exact ld9) (by exact sk9) (by exact xTc.mono tc9 (by omega)) dc9 ds9 (by omega) (by omega) (by omega)
        · refine X_tableIn hK 196 0 (by decide) c96 (by decide) (by decide) dL_law_40 rfl (by decide) ?_
          refine X_aloadn hK (i := 1) 3 dL_law_196 rfl rfl ?_
          refine X_aloadn hK (i := 0) 4 dL_law_197 rfl rfl ?_
          refine X_iload hK (i := 4) 0 dL_law_198 rfl ?_
          refine X_iconst hK dL_law_200 ?_
          refine X_iadd hK dL_law_201 ?_
          refine X_scr hK hX hbl hbA hL (by omega) (by omega) dL_law_202 (fun z97 ez97 lz97 uz97 => ?_)
          refine X_aloadn hK (i := 0) 4 dL_law_203 rfl rfl ?_
          refine X_iload hK (i := 4) 0 dL_law_204 rfl ?_
          refine X_iconst hK dL_law_206 ?_
          refine X_iadd hK dL_law_207 ?_
          refine X_scr hK hX hbl hbA hL (by omega) (by omega) dL_law_208 (fun z98 ez98 lz98 uz98 => ?_)
          refine X_aloadn hK (i := 0) 4 dL_law_209 rfl rfl ?_
          refine X_iload hK (i := 4) 0 dL_law_210 rfl ?_
          refine X_iconst hK dL_law_212 ?_
          refine X_iadd hK dL_law_213 ?_
          refine X_scr hK hX hbl hbA hL (by omega) (by omega) dL_law_214 (fun z99 ez99 lz99 uz99 => ?_)
          refine X_aloadn hK (i := 0) 4 dL_law_215 rfl rfl ?_
          refine X_iload hK (i := 4) 0 dL_law_216 rfl ?_
          refine X_iconst hK dL_law_218 ?_
          refine X_iadd hK dL_law_219 ?_
          refine X_scr hK hX hbl hbA hL (by omega) (by omega) dL_law_220 (fun z100 ez100 lz100 uz100 => ?_)
          refine X_aloadn hK (i := 0) 4 dL_law_221 rfl rfl ?_
          refine X_iload hK (i := 4) 0 dL_law_222 rfl ?_
          refine X_iconst hK dL_law_224 ?_
          refine X_iadd hK dL_law_225 ?_
          refine X_scr hK hX hbl hbA hL (by omega) (by omega) dL_law_226 (fun z101 ez101 lz101 uz101 => ?_)
          refine X_callV hK [.int (iI z97), .int (iI z98), .int (iI z99), .int (iI z100), .int (iI z101)] [] lk_L_23 (c_X11_feed _ _ _ _ _ S91 g92 b1 z97 z98 z99 z100 z101 b35 k9 b84 (qS91 _ _ (qb87 _ _ hk68)) (by omega) (by omega) (by omega) (by omega) (by omega) el09 (qS91 _ _ (qb87 _ _ hk75)) (by omega) exk9 el99 (qS91 _ _ (qb87 _ _ hs_b84))) (qS91 _ _ (qb87 _ _ hk68)) ⟨by decide, rfl⟩ dL_law_227 rfl rfl (by simp [Value.category]) (by decide) (by omega) (by omega) (by decide) (fun r102 S104 g103 pr102 qr102 hg103 => ?_)
          obtain ⟨rfl, z105, rfl, lz105, uz105, k106, k107, k108⟩ := pr102
          refine X_st [.int (iI z105)] rfl ?_
          refine X_pop hK dL_law_230 rfl ?_
          refine X_aloadn hK (i := 2) 2 dL_law_231 rfl rfl ?_
          refine X_aloadn hK (i := 0) 4 dL_law_232 rfl rfl ?_
          refine X_iload hK (i := 4) 0 dL_law_233 rfl ?_
          refine X_iconst hK dL_law_235 ?_
          refine X_iadd hK dL_law_236 ?_
          refine X_scrK hK hX hbl hbA hL (by omega) (by omega) ez97 dL_law_237 ?_
          refine X_aloadn hK (i := 0) 4 dL_law_238 rfl rfl ?_
          refine X_iload hK (i := 4) 0 dL_law_239 rfl ?_
          refine X_iconst hK dL_law_241 ?_
          refine X_iadd hK dL_law_242 ?_
          refine X_scrK hK hX hbl hbA hL (by omega) (by omega) ez98 dL_law_243 ?_
          refine X_aloadn hK (i := 0) 4 dL_law_244 rfl rfl ?_
          refine X_iload hK (i := 4) 0 dL_law_245 rfl ?_
          refine X_iconst hK dL_law_247 ?_
          refine X_iadd hK dL_law_248 ?_
          refine X_scrK hK hX hbl hbA hL (by omega) (by omega) ez99 dL_law_249 ?_
          refine X_aloadn hK (i := 0) 4 dL_law_250 rfl rfl ?_
          refine X_iload hK (i := 4) 0 dL_law_251 rfl ?_
          refine X_iconst hK dL_law_253 ?_
          refine X_iadd hK dL_law_254 ?_
          refine X_scrK hK hX hbl hbA hL (by omega) (by omega) ez100 dL_law_255 ?_
          refine X_aloadn hK (i := 0) 4 dL_law_256 rfl rfl ?_
          refine X_iload hK (i := 4) 0 dL_law_257 rfl ?_
          refine X_iconst hK dL_law_259 ?_
          refine X_iadd hK dL_law_260 ?_
          refine X_scrK hK hX hbl hbA hL (by omega) (by omega) ez101 dL_law_261 ?_
          refine X_callV hK [.int (iI z97), .int (iI z98), .int (iI z99), .int (iI z100), .int (iI z101)] [] lk_L_27 (c_X12_feed _ _ _ _ _ S91 g103 b39 z97 z98 z99 z100 z101 k9 b85 (qS91 _ _ (qb87 _ _ hs_y66)) (by omega) (by omega) (by omega) (by omega) (by omega) (by omega) ((hg103 b39 13 0 2 (qS91 _ _ (qb87 _ _ hs_y66)) (by decide)).trans emk9) ((hg103 b39 13 0 1 (qS91 _ _ (qb87 _ _ hs_y66)) (by decide)).trans el109) (qS91 _ _ (qb87 _ _ hs_b85))) (qS91 _ _ (qb87 _ _ hs_y66)) ⟨by decide, rfl⟩ dL_law_262 rfl rfl (by simp [Value.category]) (by decide) (by omega) (by omega) (by decide) (fun r109 S111 g110 pr109 qr109 hg110 => ?_)
          obtain ⟨rfl, z112, rfl, lz112, uz112, k113, k114, k115⟩ := pr109
          refine X_st [.int (iI z112)] rfl ?_
          refine X_pop hK dL_law_265 rfl ?_
          refine X_goto hK 1465 dL_law_266 (by decide) ?_
          refine X_iinc hK (i := 4) (z := i9) (n := 6) 0 [(4, .int (iI (i9 + 6))), (3, .ref b87), (2, .ref b39), (1, .ref b1), (0, .ref b)] dL_law_1465 rfl (by decide) rfl ?_
          refine X_goto hK 23 dL_law_1468 (by decide) ?_
          exact ih9 S91 qS91 g110 (i9 + 6) (if k9 ≤ 400 then k9 + 20 else k9) t9 c9 b9 sh9 sp9 sm9 (by omega) (by first | omega | (split <;> omega)) (by omega) (by omega) (by omega) (by omega) (by omega) (by omega) (xLs_mod (xLs_mod al9 hg103 (by decide)) hg110 (by decide)) si9 (xPi_m (xPi_m pi9 hg103 xLe.rf (by decide)) hg110 xLe.rf (by decide)) (xMp_m (xMp_m mp9 hg103 xLe.rf (by decide)) hg110 xLe.rf (by decide)) (xTw_m (xTw_m tw9 hg103 xLe.rf (by decide)) hg110 xLe.rf (by decide)) (xTW_m (xTW_m tkw9 hg103 xLe.rf (by decide)) hg110 xLe.rf (by decide)) ((hg110 b1 12 0 0 (qS91 _ _ (qb87 _ _ hk68)) (by decide)).trans ((hg103 b1 12 0 0 (qS91 _ _ (qb87 _ _ hk68)) (by decide)).trans el09)) ((hg110 b1 12 0 3 (qS91 _ _ (qb87 _ _ hk68)) (by decide)).trans ((hg103 b1 12 0 3 (qS91 _ _ (qb87 _ _ hk68)) (by decide)).trans el19)) ((hg110 b1 12 0 1 (qS91 _ _ (qb87 _ _ hk68)) (by decide)).trans ((hg103 b1 12 0 1 (qS91 _ _ (qb87 _ _ hk68)) (by decide)).trans el29)) ((hg110 b37 6 0 1 (qS91 _ _ (qb87 _ _ hk77)) (by decide)).trans ((hg103 b37 6 0 1 (qS91 _ _ (qb87 _ _ hk77)) (by decide)).trans el39)) ((hg110 b1 12 0 2 (qS91 _ _ (qb87 _ _ hk68)) (by decide)).trans ((hg103 b1 12 0 2 (qS91 _ _ (qb87 _ _ hk68)) (by decide)).trans el49)) ((hg110 b19 4 0 0 (qS91 _ _ (qb87 _ _ hk69)) (by decide)).trans ((hg103 b19 4 0 0 (qS91 _ _ (qb87 _ _ hk69)) (by decide)).trans el59)) ((hg110 b19 4 0 2 (qS91 _ _ (qb87 _ _ hk69)) (by decide)).trans ((hg103 b19 4 0 2 (qS91 _ _ (qb87 _ _ hk69)) (by decide)).trans el69)) ((hg110 b19 4 0 3 (qS91 _ _ (qb87 _ _ hk69)) (by decide)).trans ((hg103 b19 4 0 3 (qS91 _ _ (qb87 _ _ hk69)) (by decide)).trans el79)) ((hg110 b19 4 0 4 (qS91 _ _ (qb87 _ _ hk69)) (by decide)).trans ((hg103 b19 4 0 4 (qS91 _ _ (qb87 _ _ hk69)) (by decide)).trans el89)) ((hg110 b35 10 0 0 (qS91 _ _ (qb87 _ _ hk75)) (by decide)).trans ((hg103 b35 10 0 0 (qS91 _ _ (qb87 _ _ hk75)) (by decide)).trans el99)) ((hg110 b39 13 0 1 (qS91 _ _ (qb87 _ _ hs_y66)) (by decide)).trans ((hg103 b39 13 0 1 (qS91 _ _ (qb87 _ _ hs_y66)) (by decide)).trans el109)) ((hg110 b39 13 0 10 (qS91 _ _ (qb87 _ _ hs_y66)) (by decide)).trans ((hg103 b39 13 0 10 (qS91 _ _ (qb87 _ _ hs_y66)) (by decide)).trans el119)) ((hg110 b39 13 0 13 (qS91 _ _ (qb87 _ _ hs_y66)) (by decide)).trans ((hg103 b39 13 0 13 (qS91 _ _ (qb87 _ _ hs_y66)) (by decide)).trans el129)) ((hg110 b39 13 0 14 (qS91 _ _ (qb87 _ _ hs_y66)) (by decide)).trans ((hg103 b39 13 0 14 (qS91 _ _ (qb87 _ _ hs_y66)) (by decide)).trans el139)) ((hg110 b39 13 0 12 (qS91 _ _ (qb87 _ _ hs_y66)) (by decide)).trans ((hg103 b39 13 0 12 (qS91 _ _ (qb87 _ _ hs_y66)) (by decide)).trans el149)) ((hg110 b35 10 0 1 (qS91 _ _ (qb87 _ _ hk75)) (by decide)).trans k106) k113 ((hg110 b1 12 0 12 (qS91 _ _ (qb87 _ _ hk68)) (by decide)).trans ((hg103 b1 12 0 12 (qS91 _ _ (qb87 _ _ hk68)) (by decide)).trans ext9)) ((hg110 b39 13 0 3 (qS91 _ _ (qb87 _ _ hs_y66)) (by decide)).trans ((hg103 b39 13 0 3 (qS91 _ _ (qb87 _ _ hs_y66)) (by decide)).trans emt9)) ((hg110 b36 5 0 3 (qS91 _ _ (qb87 _ _ hk76)) (by decide)).trans ((hg103 b36 5 0 3 (qS91 _ _ (qb87 _ _ hk76)) (by decide)).trans exc9)) ((hg110 b39 13 0 69 (qS91 _ _ (qb87 _ _ hs_y66)) (by decide)).trans ((hg103 b39 13 0 69 (qS91 _ _ (qb87 _ _ hs_y66)) (by decide)).trans emc9)) ((hg110 b38 0 0 2 (qS91 _ _ (qb87 _ _ hk78)) (by decide)).trans ((hg103 b38 0 0 2 (qS91 _ _ (qb87 _ _ hk78)) (by decide)).trans exb9)) ((hg110 b39 13 0 16 (qS91 _ _ (qb87 _ _ hs_y66)) (by decide)).trans ((hg103 b39 13 0 16 (qS91 _ _ (qb87 _ _ hs_y66)) (by decide)).trans emb9)) ((hg110 b1 12 0 16 (qS91 _ _ (qb87 _ _ hk68)) (by decide)).trans ((hg103 b1 12 0 16 (qS91 _ _ (qb87 _ _ hk68)) (by decide)).trans exsh9)) ((hg110 b39 13 0 89 (qS91 _ _ (qb87 _ _ hs_y66)) (by decide)).trans ((hg103 b39 13 0 89 (qS91 _ _ (qb87 _ _ hs_y66)) (by decide)).trans emsh9)) ((hg110 b1 12 0 17 (qS91 _ _ (qb87 _ _ hk68)) (by decide)).trans ((hg103 b1 12 0 17 (qS91 _ _ (qb87 _ _ hk68)) (by decide)).trans exsp9)) ((hg110 b39 13 0 90 (qS91 _ _ (qb87 _ _ hs_y66)) (by decide)).trans ((hg103 b39 13 0 90 (qS91 _ _ (qb87 _ _ hs_y66)) (by decide)).trans emsp9)) ((hg110 b39 13 0 17 (qS91 _ _ (qb87 _ _ hs_y66)) (by decide)).trans ((hg103 b39 13 0 17 (qS91 _ _ (qb87 _ _ hs_y66)) (by decide)).trans emsm9)) (xWn.m (xWn.m wn9 (qS91 _ _ (qb87 _ _ hk74)) (qS91 _ _ (qb87 _ _ hk81)) hg103 xLe.rf (by decide)) (qS91 _ _ (qb87 _ _ hk74)) (qS91 _ _ (qb87 _ _ hk81)) hg110 xLe.rf (by decide)) (by rw [(Eq.trans (xv_m hg110 (qS91 _ _ (qb87 _ _ hk72)) (by decide) (by decide)) (xv_m hg103 (qS91 _ _ (qb87 _ _ hk72)) (by decide) (by decide))), (Eq.trans (xv_m hg110 (qS91 _ _ (qb87 _ _ hk79)) (by decide) (by decide)) (xv_m hg103 (qS91 _ _ (qb87 _ _ hk79)) (by decide) (by decide)))]; exact wt9) (by rw [(Eq.trans (xv_m hg110 (qS91 _ _ (qb87 _ _ hk73)) (by decide) (by decide)) (xv_m hg103 (qS91 _ _ (qb87 _ _ hk73)) (by decide) (by decide))), (Eq.trans (xv_m hg110 (qS91 _ _ (qb87 _ _ hk80)) (by decide) (by decide)) (xv_m hg103 (qS91 _ _ (qb87 _ _ hk80)) (by decide) (by decide)))]; exact ld9) (by rw [(Eq.trans (xv_m hg110 (qS91 _ _ (qb87 _ _ hk71)) (by decide) (by decide)) (xv_m hg103 (qS91 _ _ (qb87 _ _ hk71)) (by decide) (by decide))), (Eq.trans (xv_m hg110 (qS91 _ _ (qb87 _ _ hs_b86)) (by decide) (by decide)) (xv_m hg103 (qS91 _ _ (qb87 _ _ hs_b86)) (by decide) (by decide)))]; exact sk9) (by rw [(xv_m hg110 (qS91 _ _ (qb87 _ _ hs_b84)) (by decide) (by decide))]; exact xTc.feed tc9 k108 (by rw [← (xv_m hg103 (qS91 _ _ (qb87 _ _ hs_b85)) (by decide) (by decide))]; exact k115)) dc9 ds9 (by omega) (by omega) (by omega)
        · refine X_tableIn hK 269 1 (by decide) c96 (by decide) (by decide) dL_law_40 rfl (by decide) ?_
          refine X_aloadn hK (i := 1) 3 dL_law_269 rfl rfl ?_
          refine X_aloadn hK (i := 0) 4 dL_law_270 rfl rfl ?_
          refine X_iload hK (i := 4) 0 dL_law_271 rfl ?_
          refine X_iconst hK dL_law_273 ?_
          refine X_iadd hK dL_law_274 ?_
          refine X_scr hK hX hbl hbA hL (by omega) (by omega) dL_law_275 (fun z116 ez116 lz116 uz116 => ?_)
          refine X_callV hK [.int (iI z116)] [] lk_L_28 (c_X11_end _ _ _ _ _ S91 g92 b1 z116 b35 k9 (qS91 _ _ (qb87 _ _ hk68)) (by omega) el09 (qS91 _ _ (qb87 _ _ hk75)) (by omega) exk9) (qS91 _ _ (qb87 _ _ hk68)) ⟨by decide, rfl⟩ dL_law_276 rfl rfl (by simp [Value.category]) (by decide) (by omega) (by omega) (by decide) (fun r117 S119 g118 pr117 qr117 hg118 => ?_)
          obtain ⟨rfl, z120, rfl, lz120, uz120, k121, k122⟩ := pr117
          refine X_st [.int (iI z120)] rfl ?_
          refine X_pop hK dL_law_279 rfl ?_
          refine X_aloadn hK (i := 2) 2 dL_law_280 rfl rfl ?_
          refine X_aloadn hK (i := 0) 4 dL_law_281 rfl rfl ?_
          refine X_iload hK (i := 4) 0 dL_law_282 rfl ?_
          refine X_iconst hK dL_law_284 ?_
          refine X_iadd hK dL_law_285 ?_
          refine X_scrK hK hX hbl hbA hL (by omega) (by omega) ez116 dL_law_286 ?_
          refine X_callV hK [.int (iI z116)] [] lk_L_32 (c_X12_end _ _ _ _ _ S91 g118 b39 z116 k9 (qS91 _ _ (qb87 _ _ hs_y66)) (by omega) (by omega) ((hg118 b39 13 0 2 (qS91 _ _ (qb87 _ _ hs_y66)) (by decide)).trans emk9)) (qS91 _ _ (qb87 _ _ hs_y66)) ⟨by decide, rfl⟩ dL_law_287 rfl rfl (by simp [Value.category]) (by decide) (by omega) (by omega) (by decide) (fun r123 S125 g124 pr123 qr123 hg124 => ?_)
          obtain ⟨rfl, z126, rfl, lz126, uz126, k127, k128⟩ := pr123
          refine X_st [.int (iI z126)] rfl ?_
          refine X_pop hK dL_law_290 rfl ?_
          refine X_goto hK 1465 dL_law_291 (by decide) ?_
          refine X_iinc hK (i := 4) (z := i9) (n := 6) 0 [(4, .int (iI (i9 + 6))), (3, .ref b87), (2, .ref b39), (1, .ref b1), (0, .ref b)] dL_law_1465 rfl (by decide) rfl ?_
          refine X_goto hK 23 dL_law_1468 (by decide) ?_
          exact ih9 S91 qS91 g124 (i9 + 6) (if 0 ≤ z116 ∧ z116 ≤ k9 then z116 else k9) t9 c9 b9 sh9 sp9 sm9 (by omega) (by first | omega | (split <;> omega)) (by omega) (by omega) (by omega) (by omega) (by omega) (by omega) (xLs_mod (xLs_mod al9 hg118 (by decide)) hg124 (by decide)) si9 (xPi_m (xPi_m pi9 hg118 xLe.rf (by decide)) hg124 xLe.rf (by decide)) (xMp_m (xMp_m mp9 hg118 xLe.rf (by decide)) hg124 xLe.rf (by decide)) (xTw_m (xTw_m tw9 hg118 xLe.rf (by decide)) hg124 xLe.rf (by decide)) (xTW_m (xTW_m tkw9 hg118 xLe.rf (by decide)) hg124 xLe.rf (by decide)) ((hg124 b1 12 0 0 (qS91 _ _ (qb87 _ _ hk68)) (by decide)).trans ((hg118 b1 12 0 0 (qS91 _ _ (qb87 _ _ hk68)) (by decide)).trans el09)) ((hg124 b1 12 0 3 (qS91 _ _ (qb87 _ _ hk68)) (by decide)).trans ((hg118 b1 12 0 3 (qS91 _ _ (qb87 _ _ hk68)) (by decide)).trans el19)) ((hg124 b1 12 0 1 (qS91 _ _ (qb87 _ _ hk68)) (by decide)).trans ((hg118 b1 12 0 1 (qS91 _ _ (qb87 _ _ hk68)) (by decide)).trans el29)) ((hg124 b37 6 0 1 (qS91 _ _ (qb87 _ _ hk77)) (by decide)).trans ((hg118 b37 6 0 1 (qS91 _ _ (qb87 _ _ hk77)) (by decide)).trans el39)) ((hg124 b1 12 0 2 (qS91 _ _ (qb87 _ _ hk68)) (by decide)).trans ((hg118 b1 12 0 2 (qS91 _ _ (qb87 _ _ hk68)) (by decide)).trans el49)) ((hg124 b19 4 0 0 (qS91 _ _ (qb87 _ _ hk69)) (by decide)).trans ((hg118 b19 4 0 0 (qS91 _ _ (qb87 _ _ hk69)) (by decide)).trans el59)) ((hg124 b19 4 0 2 (qS91 _ _ (qb87 _ _ hk69)) (by decide)).trans ((hg118 b19 4 0 2 (qS91 _ _ (qb87 _ _ hk69)) (by decide)).trans el69)) ((hg124 b19 4 0 3 (qS91 _ _ (qb87 _ _ hk69)) (by decide)).trans ((hg118 b19 4 0 3 (qS91 _ _ (qb87 _ _ hk69)) (by decide)).trans el79)) ((hg124 b19 4 0 4 (qS91 _ _ (qb87 _ _ hk69)) (by decide)).trans ((hg118 b19 4 0 4 (qS91 _ _ (qb87 _ _ hk69)) (by decide)).trans el89)) ((hg124 b35 10 0 0 (qS91 _ _ (qb87 _ _ hk75)) (by decide)).trans ((hg118 b35 10 0 0 (qS91 _ _ (qb87 _ _ hk75)) (by decide)).trans el99)) ((hg124 b39 13 0 1 (qS91 _ _ (qb87 _ _ hs_y66)) (by decide)).trans ((hg118 b39 13 0 1 (qS91 _ _ (qb87 _ _ hs_y66)) (by decide)).trans el109)) ((hg124 b39 13 0 10 (qS91 _ _ (qb87 _ _ hs_y66)) (by decide)).trans ((hg118 b39 13 0 10 (qS91 _ _ (qb87 _ _ hs_y66)) (by decide)).trans el119)) ((hg124 b39 13 0 13 (qS91 _ _ (qb87 _ _ hs_y66)) (by decide)).trans ((hg118 b39 13 0 13 (qS91 _ _ (qb87 _ _ hs_y66)) (by decide)).trans el129)) ((hg124 b39 13 0 14 (qS91 _ _ (qb87 _ _ hs_y66)) (by decide)).trans ((hg118 b39 13 0 14 (qS91 _ _ (qb87 _ _ hs_y66)) (by decide)).trans el139)) ((hg124 b39 13 0 12 (qS91 _ _ (qb87 _ _ hs_y66)) (by decide)).trans ((hg118 b39 13 0 12 (qS91 _ _ (qb87 _ _ hs_y66)) (by decide)).trans el149)) ((hg124 b35 10 0 1 (qS91 _ _ (qb87 _ _ hk75)) (by decide)).trans k121) k127 ((hg124 b1 12 0 12 (qS91 _ _ (qb87 _ _ hk68)) (by decide)).trans ((hg118 b1 12 0 12 (qS91 _ _ (qb87 _ _ hk68)) (by decide)).trans ext9)) ((hg124 b39 13 0 3 (qS91 _ _ (qb87 _ _ hs_y66)) (by decide)).trans ((hg118 b39 13 0 3 (qS91 _ _ (qb87 _ _ hs_y66)) (by decide)).trans emt9)) ((hg124 b36 5 0 3 (qS91 _ _ (qb87 _ _ hk76)) (by decide)).trans ((hg118 b36 5 0 3 (qS91 _ _ (qb87 _ _ hk76)) (by decide)).trans exc9)) ((hg124 b39 13 0 69 (qS91 _ _ (qb87 _ _ hs_y66)) (by decide)).trans ((hg118 b39 13 0 69 (qS91 _ _ (qb87 _ _ hs_y66)) (by decide)).trans emc9)) ((hg124 b38 0 0 2 (qS91 _ _ (qb87 _ _ hk78)) (by decide)).trans ((hg118 b38 0 0 2 (qS91 _ _ (qb87 _ _ hk78)) (by decide)).trans exb9)) ((hg124 b39 13 0 16 (qS91 _ _ (qb87 _ _ hs_y66)) (by decide)).trans ((hg118 b39 13 0 16 (qS91 _ _ (qb87 _ _ hs_y66)) (by decide)).trans emb9)) ((hg124 b1 12 0 16 (qS91 _ _ (qb87 _ _ hk68)) (by decide)).trans ((hg118 b1 12 0 16 (qS91 _ _ (qb87 _ _ hk68)) (by decide)).trans exsh9)) ((hg124 b39 13 0 89 (qS91 _ _ (qb87 _ _ hs_y66)) (by decide)).trans ((hg118 b39 13 0 89 (qS91 _ _ (qb87 _ _ hs_y66)) (by decide)).trans emsh9)) ((hg124 b1 12 0 17 (qS91 _ _ (qb87 _ _ hk68)) (by decide)).trans ((hg118 b1 12 0 17 (qS91 _ _ (qb87 _ _ hk68)) (by decide)).trans exsp9)) ((hg124 b39 13 0 90 (qS91 _ _ (qb87 _ _ hs_y66)) (by decide)).trans ((hg118 b39 13 0 90 (qS91 _ _ (qb87 _ _ hs_y66)) (by decide)).trans emsp9)) ((hg124 b39 13 0 17 (qS91 _ _ (qb87 _ _ hs_y66)) (by decide)).trans ((hg118 b39 13 0 17 (qS91 _ _ (qb87 _ _ hs_y66)) (by decide)).trans emsm9)) (xWn.m (xWn.m wn9 (qS91 _ _ (qb87 _ _ hk74)) (qS91 _ _ (qb87 _ _ hk81)) hg118 xLe.rf (by decide)) (qS91 _ _ (qb87 _ _ hk74)) (qS91 _ _ (qb87 _ _ hk81)) hg124 xLe.rf (by decide)) (by rw [(Eq.trans (xv_m hg124 (qS91 _ _ (qb87 _ _ hk72)) (by decide) (by decide)) (xv_m hg118 (qS91 _ _ (qb87 _ _ hk72)) (by decide) (by decide))), (Eq.trans (xv_m hg124 (qS91 _ _ (qb87 _ _ hk79)) (by decide) (by decide)) (xv_m hg118 (qS91 _ _ (qb87 _ _ hk79)) (by decide) (by decide)))]; exact wt9) (by rw [(Eq.trans (xv_m hg124 (qS91 _ _ (qb87 _ _ hk73)) (by decide) (by decide)) (xv_m hg118 (qS91 _ _ (qb87 _ _ hk73)) (by decide) (by decide))), (Eq.trans (xv_m hg124 (qS91 _ _ (qb87 _ _ hk80)) (by decide) (by decide)) (xv_m hg118 (qS91 _ _ (qb87 _ _ hk80)) (by decide) (by decide)))]; exact ld9) (by rw [(Eq.trans (xv_m hg124 (qS91 _ _ (qb87 _ _ hk71)) (by decide) (by decide)) (xv_m hg118 (qS91 _ _ (qb87 _ _ hk71)) (by decide) (by decide))), (Eq.trans (xv_m hg124 (qS91 _ _ (qb87 _ _ hs_b86)) (by decide) (by decide)) (xv_m hg118 (qS91 _ _ (qb87 _ _ hs_b86)) (by decide) (by decide)))]; exact sk9) (by rw [(Eq.trans (xv_m hg124 (qS91 _ _ (qb87 _ _ hs_b84)) (by decide) (by decide)) (xv_m hg118 (qS91 _ _ (qb87 _ _ hs_b84)) (by decide) (by decide))), (Eq.trans (xv_m hg124 (qS91 _ _ (qb87 _ _ hs_b85)) (by decide) (by decide)) (xv_m hg118 (qS91 _ _ (qb87 _ _ hs_b85)) (by decide) (by decide)))]; exact xTc.mono tc9 (by omega)) dc9 ds9 (by omega) (by omega) (by omega)
        · refine X_tableIn hK 294 2 (by decide) c96 (by decide) (by decide) dL_law_40 rfl (by decide) ?_
          refine X_aloadn hK (i := 1) 3 dL_law_294 rfl rfl ?_
          refine X_aloadn hK (i := 0) 4 dL_law_295 rfl rfl ?_
          refine X_iload hK (i := 4) 0 dL_law_296 rfl ?_
          refine X_iconst hK dL_law_298 ?_
          refine X_iadd hK dL_law_299 ?_
          refine X_scr hK hX hbl hbA hL (by omega) (by omega) dL_law_300 (fun z129 ez129 lz129 uz129 => ?_)
          refine X_aloadn hK (i := 0) 4 dL_law_301 rfl rfl ?_
          refine X_iload hK (i := 4) 0 dL_law_302 rfl ?_
          refine X_iconst hK dL_law_304 ?_
          refine X_iadd hK dL_law_305 ?_
          refine X_scr hK hX hbl hbA hL (by omega) (by omega) dL_law_306 (fun z130 ez130 lz130 uz130 => ?_)
          refine X_if_eq hK 314 (by omega) dL_law_307 (by decide) (fun c131 => ?_) (fun c131 => ?_)
          · refine X_iconst hK dL_law_314 ?_
            refine X_aloadn hK (i := 0) 4 dL_law_315 rfl rfl ?_
            refine X_iload hK (i := 4) 0 dL_law_316 rfl ?_
            refine X_iconst hK dL_law_318 ?_
            refine X_iadd hK dL_law_319 ?_
            refine X_scr hK hX hbl hbA hL (by omega) (by omega) dL_law_320 (fun z132 ez132 lz132 uz132 => ?_)
            refine X_aloadn hK (i := 0) 4 dL_law_321 rfl rfl ?_
            refine X_iload hK (i := 4) 0 dL_law_322 rfl ?_
            refine X_iconst hK dL_law_324 ?_
            refine X_iadd hK dL_law_325 ?_
            refine X_scr hK hX hbl hbA hL (by omega) (by omega) dL_law_326 (fun z133 ez133 lz133 uz133 => ?_)
            refine X_callVU hK [.int (iI z129), .int (iI 0), .int (iI z132), .int (iI z133)] [] lk_L_33 (c_X11_boy _ _ _ _ _ S91 g92 b1 z129 0 z132 z133 b37 b38 b9 (qS91 _ _ (qb87 _ _ hk68)) (by omega) (by omega) (by omega) (by omega) el29 (qS91 _ _ (qb87 _ _ hk77)) el39 (qS91 _ _ (qb87 _ _ hk78)) (by omega) exb9 al9 si9) (qS91 _ _ (qb87 _ _ hk68)) ⟨by decide, rfl⟩ dL_law_327 rfl rfl (by simp [Value.category]) (by decide) (by omega) (by omega) (by decide) (fun r134 S136 g135 dcr134 dsr134 pr134 qr134 hg135 => ?_)
            obtain ⟨wr134, z137, rfl, lz137, uz137, k138, k139, k140, k141, k142⟩ := pr134
            refine X_st [.int (iI z137)] rfl ?_
            refine X_pop hK dL_law_330 rfl ?_
            refine X_aloadn hK (i := 2) 2 dL_law_331 rfl rfl ?_
            refine X_aloadn hK (i := 0) 4 dL_law_332 rfl rfl ?_
            refine X_iload hK (i := 4) 0 dL_law_333 rfl ?_
            refine X_iconst hK dL_law_335 ?_
            refine X_iadd hK dL_law_336 ?_
            refine X_scrK hK hX hbl hbA hL (by omega) (by omega) ez129 dL_law_337 ?_
            refine X_aloadn hK (i := 0) 4 dL_law_338 rfl rfl ?_
            refine X_iload hK (i := 4) 0 dL_law_339 rfl ?_
            refine X_iconst hK dL_law_341 ?_
            refine X_iadd hK dL_law_342 ?_
            refine X_scrK hK hX hbl hbA hL (by omega) (by omega) ez130 dL_law_343 ?_
            refine X_if_eq hK 351 (by omega) dL_law_344 (by decide) (fun c143 => ?_) (fun c143 => False.elim (by omega))
            refine X_iconst hK dL_law_351 ?_
            refine X_aloadn hK (i := 0) 4 dL_law_352 rfl rfl ?_
            refine X_iload hK (i := 4) 0 dL_law_353 rfl ?_
            refine X_iconst hK dL_law_355 ?_
            refine X_iadd hK dL_law_356 ?_
            refine X_scrK hK hX hbl hbA hL (by omega) (by omega) ez132 dL_law_357 ?_
            refine X_aloadn hK (i := 0) 4 dL_law_358 rfl rfl ?_
            refine X_iload hK (i := 4) 0 dL_law_359 rfl ?_
            refine X_iconst hK dL_law_361 ?_
            refine X_iadd hK dL_law_362 ?_
            refine X_scrK hK hX hbl hbA hL (by omega) (by omega) ez133 dL_law_363 ?_
            refine X_callV hK [.int (iI z129), .int (iI 0), .int (iI z132), .int (iI z133)] [] lk_L_37 (c_X12_boy _ _ _ _ _ S136 g135 b39 z129 0 z132 z133 b9 (qr134 _ _ (qS91 _ _ (qb87 _ _ hs_y66))) (by omega) (by omega) (by omega) (by omega) (by omega) ((hg135 b39 13 0 16 (qS91 _ _ (qb87 _ _ hs_y66)) (by decide)).trans emb9)) (qr134 _ _ (qS91 _ _ (qb87 _ _ hs_y66))) ⟨by decide, rfl⟩ dL_law_364 rfl rfl (by simp [Value.category]) (by decide) (by omega) (by omega) (by decide) (fun r144 S146 g145 pr144 qr144 hg145 => ?_)
            obtain ⟨rfl, z147, rfl, lz147, uz147, k148, k149⟩ := pr144
            refine X_st [.int (iI z147)] rfl ?_
            refine X_pop hK dL_law_367 rfl ?_
            refine X_goto hK 1465 dL_law_368 (by decide) ?_
            refine X_iinc hK (i := 4) (z := i9) (n := 6) 0 [(4, .int (iI (i9 + 6))), (3, .ref b87), (2, .ref b39), (1, .ref b1), (0, .ref b)] dL_law_1465 rfl (by decide) rfl ?_
            refine X_goto hK 23 dL_law_1468 (by decide) ?_
            exact ih9 S136 (xLe.tr qS91 qr134) g145 (i9 + 6) k9 t9 c9 (if b9 < 40 ∧ 6 ≤ z129 ∧ z129 ≤ 18 ∧ -1 ≤ z132 ∧ z132 ≤ 399 ∧ 0 ≤ z133 ∧ z133 ≤ 99 then b9 + 1 else b9) sh9 sp9 sm9 (by omega) (by omega) (by omega) (by omega) (by first | omega | (split <;> omega)) (by omega) (by omega) (by omega) (xLs_mod k138 hg145 (by decide)) k139 (xPi_m (xPi_m pi9 hg135 qr134 (by decide)) hg145 xLe.rf (by decide)) (xMp_m (xMp_m mp9 hg135 qr134 (by decide)) hg145 xLe.rf (by decide)) (xTw_m (xTw_m tw9 hg135 qr134 (by decide)) hg145 xLe.rf (by decide)) (xTW_m (xTW_m tkw9 hg135 qr134 (by decide)) hg145 xLe.rf (by decide)) ((hg145 b1 12 0 0 (qr134 _ _ (qS91 _ _ (qb87 _ _ hk68))) (by decide)).trans ((hg135 b1 12 0 0 (qS91 _ _ (qb87 _ _ hk68)) (by decide)).trans el09)) ((hg145 b1 12 0 3 (qr134 _ _ (qS91 _ _ (qb87 _ _ hk68))) (by decide)).trans ((hg135 b1 12 0 3 (qS91 _ _ (qb87 _ _ hk68)) (by decide)).trans el19)) ((hg145 b1 12 0 1 (qr134 _ _ (qS91 _ _ (qb87 _ _ hk68))) (by decide)).trans ((hg135 b1 12 0 1 (qS91 _ _ (qb87 _ _ hk68)) (by decide)).trans el29)) ((hg145 b37 6 0 1 (qr134 _ _ (qS91 _ _ (qb87 _ _ hk77))) (by decide)).trans ((hg135 b37 6 0 1 (qS91 _ _ (qb87 _ _ hk77)) (by decide)).trans el39)) ((hg145 b1 12 0 2 (qr134 _ _ (qS91 _ _ (qb87 _ _ hk68))) (by decide)).trans ((hg135 b1 12 0 2 (qS91 _ _ (qb87 _ _ hk68)) (by decide)).trans el49)) ((hg145 b19 4 0 0 (qr134 _ _ (qS91 _ _ (qb87 _ _ hk69))) (by decide)).trans ((hg135 b19 4 0 0 (qS91 _ _ (qb87 _ _ hk69)) (by decide)).trans el59)) ((hg145 b19 4 0 2 (qr134 _ _ (qS91 _ _ (qb87 _ _ hk69))) (by decide)).trans ((hg135 b19 4 0 2 (qS91 _ _ (qb87 _ _ hk69)) (by decide)).trans el69)) ((hg145 b19 4 0 3 (qr134 _ _ (qS91 _ _ (qb87 _ _ hk69))) (by decide)).trans ((hg135 b19 4 0 3 (qS91 _ _ (qb87 _ _ hk69)) (by decide)).trans el79)) ((hg145 b19 4 0 4 (qr134 _ _ (qS91 _ _ (qb87 _ _ hk69))) (by decide)).trans ((hg135 b19 4 0 4 (qS91 _ _ (qb87 _ _ hk69)) (by decide)).trans el89)) ((hg145 b35 10 0 0 (qr134 _ _ (qS91 _ _ (qb87 _ _ hk75))) (by decide)).trans ((hg135 b35 10 0 0 (qS91 _ _ (qb87 _ _ hk75)) (by decide)).trans el99)) ((hg145 b39 13 0 1 (qr134 _ _ (qS91 _ _ (qb87 _ _ hs_y66))) (by decide)).trans ((hg135 b39 13 0 1 (qS91 _ _ (qb87 _ _ hs_y66)) (by decide)).trans el109)) ((hg145 b39 13 0 10 (qr134 _ _ (qS91 _ _ (qb87 _ _ hs_y66))) (by decide)).trans ((hg135 b39 13 0 10 (qS91 _ _ (qb87 _ _ hs_y66)) (by decide)).trans el119)) ((hg145 b39 13 0 13 (qr134 _ _ (qS91 _ _ (qb87 _ _ hs_y66))) (by decide)).trans ((hg135 b39 13 0 13 (qS91 _ _ (qb87 _ _ hs_y66)) (by decide)).trans el129)) ((hg145 b39 13 0 14 (qr134 _ _ (qS91 _ _ (qb87 _ _ hs_y66))) (by decide)).trans ((hg135 b39 13 0 14 (qS91 _ _ (qb87 _ _ hs_y66)) (by decide)).trans el139)) ((hg145 b39 13 0 12 (qr134 _ _ (qS91 _ _ (qb87 _ _ hs_y66))) (by decide)).trans ((hg135 b39 13 0 12 (qS91 _ _ (qb87 _ _ hs_y66)) (by decide)).trans el149)) ((hg145 b35 10 0 1 (qr134 _ _ (qS91 _ _ (qb87 _ _ hk75))) (by decide)).trans ((hg135 b35 10 0 1 (qS91 _ _ (qb87 _ _ hk75)) (by decide)).trans exk9)) ((hg145 b39 13 0 2 (qr134 _ _ (qS91 _ _ (qb87 _ _ hs_y66))) (by decide)).trans ((hg135 b39 13 0 2 (qS91 _ _ (qb87 _ _ hs_y66)) (by decide)).trans emk9)) ((hg145 b1 12 0 12 (qr134 _ _ (qS91 _ _ (qb87 _ _ hk68))) (by decide)).trans ((hg135 b1 12 0 12 (qS91 _ _ (qb87 _ _ hk68)) (by decide)).trans ext9)) ((hg145 b39 13 0 3 (qr134 _ _ (qS91 _ _ (qb87 _ _ hs_y66))) (by decide)).trans ((hg135 b39 13 0 3 (qS91 _ _ (qb87 _ _ hs_y66)) (by decide)).trans emt9)) ((hg145 b36 5 0 3 (qr134 _ _ (qS91 _ _ (qb87 _ _ hk76))) (by decide)).trans ((hg135 b36 5 0 3 (qS91 _ _ (qb87 _ _ hk76)) (by decide)).trans exc9)) ((hg145 b39 13 0 69 (qr134 _ _ (qS91 _ _ (qb87 _ _ hs_y66))) (by decide)).trans ((hg135 b39 13 0 69 (qS91 _ _ (qb87 _ _ hs_y66)) (by decide)).trans emc9)) ((hg145 b38 0 0 2 (qr134 _ _ (qS91 _ _ (qb87 _ _ hk78))) (by decide)).trans k142) k149 ((hg145 b1 12 0 16 (qr134 _ _ (qS91 _ _ (qb87 _ _ hk68))) (by decide)).trans ((hg135 b1 12 0 16 (qS91 _ _ (qb87 _ _ hk68)) (by decide)).trans exsh9)) ((hg145 b39 13 0 89 (qr134 _ _ (qS91 _ _ (qb87 _ _ hs_y66))) (by decide)).trans ((hg135 b39 13 0 89 (qS91 _ _ (qb87 _ _ hs_y66)) (by decide)).trans emsh9)) ((hg145 b1 12 0 17 (qr134 _ _ (qS91 _ _ (qb87 _ _ hk68))) (by decide)).trans ((hg135 b1 12 0 17 (qS91 _ _ (qb87 _ _ hk68)) (by decide)).trans exsp9)) ((hg145 b39 13 0 90 (qr134 _ _ (qS91 _ _ (qb87 _ _ hs_y66))) (by decide)).trans ((hg135 b39 13 0 90 (qS91 _ _ (qb87 _ _ hs_y66)) (by decide)).trans emsp9)) ((hg145 b39 13 0 17 (qr134 _ _ (qS91 _ _ (qb87 _ _ hs_y66))) (by decide)).trans ((hg135 b39 13 0 17 (qS91 _ _ (qb87 _ _ hs_y66)) (by decide)).trans emsm9)) (xWn.m (xWn.m wn9 (qS91 _ _ (qb87 _ _ hk74)) (qS91 _ _ (qb87 _ _ hk81)) hg135 qr134 (by decide)) (qr134 _ _ (qS91 _ _ (qb87 _ _ hk74))) (qr134 _ _ (qS91 _ _ (qb87 _ _ hk81))) hg145 xLe.rf (by decide)) (by rw [(Eq.trans (xv_m hg145 (qr134 _ _ (qS91 _ _ (qb87 _ _ hk72))) (by decide) (by decide)) (xv_m hg135 (qS91 _ _ (qb87 _ _ hk72)) (by decide) (by decide))), (Eq.trans (xv_m hg145 (qr134 _ _ (qS91 _ _ (qb87 _ _ hk79))) (by decide) (by decide)) (xv_m hg135 (qS91 _ _ (qb87 _ _ hk79)) (by decide) (by decide)))]; exact wt9) (by rw [(Eq.trans (xv_m hg145 (qr134 _ _ (qS91 _ _ (qb87 _ _ hk73))) (by decide) (by decide)) (xv_m hg135 (qS91 _ _ (qb87 _ _ hk73)) (by decide) (by decide))), (Eq.trans (xv_m hg145 (qr134 _ _ (qS91 _ _ (qb87 _ _ hk80))) (by decide) (by decide)) (xv_m hg135 (qS91 _ _ (qb87 _ _ hk80)) (by decide) (by decide)))]; exact ld9) (by rw [(Eq.trans (xv_m hg145 (qr134 _ _ (qS91 _ _ (qb87 _ _ hk71))) (by decide) (by decide)) (xv_m hg135 (qS91 _ _ (qb87 _ _ hk71)) (by decide) (by decide))), (Eq.trans (xv_m hg145 (qr134 _ _ (qS91 _ _ (qb87 _ _ hs_b86))) (by decide) (by decide)) (xv_m hg135 (qS91 _ _ (qb87 _ _ hs_b86)) (by decide) (by decide)))]; exact sk9) (by rw [(Eq.trans (xv_m hg145 (qr134 _ _ (qS91 _ _ (qb87 _ _ hs_b84))) (by decide) (by decide)) (xv_m hg135 (qS91 _ _ (qb87 _ _ hs_b84)) (by decide) (by decide))), (Eq.trans (xv_m hg145 (qr134 _ _ (qS91 _ _ (qb87 _ _ hs_b85))) (by decide) (by decide)) (xv_m hg135 (qS91 _ _ (qb87 _ _ hs_b85)) (by decide) (by decide)))]; exact xTc.mono tc9 (by omega)) (dc9 + dcr134) (ds9 + dsr134) (by omega) (by omega) (by omega)
          · refine X_iconst hK dL_law_310 ?_
            refine X_goto hK 315 dL_law_311 (by decide) ?_
            refine X_aloadn hK (i := 0) 4 dL_law_315 rfl rfl ?_
            refine X_iload hK (i := 4) 0 dL_law_316 rfl ?_
            refine X_iconst hK dL_law_318 ?_
            refine X_iadd hK dL_law_319 ?_
            refine X_scr hK hX hbl hbA hL (by omega) (by omega) dL_law_320 (fun z150 ez150 lz150 uz150 => ?_)
            refine X_aloadn hK (i := 0) 4 dL_law_321 rfl rfl ?_
            refine X_iload hK (i := 4) 0 dL_law_322 rfl ?_
            refine X_iconst hK dL_law_324 ?_
            refine X_iadd hK dL_law_325 ?_
            refine X_scr hK hX hbl hbA hL (by omega) (by omega) dL_law_326 (fun z151 ez151 lz151 uz151 => ?_)
            refine X_callVU hK [.int (iI z129), .int (iI 1), .int (iI z150), .int (iI z151)] [] lk_L_33 (c_X11_boy _ _ _ _ _ S91 g92 b1 z129 1 z150 z151 b37 b38 b9 (qS91 _ _ (qb87 _ _ hk68)) (by omega) (by omega) (by omega) (by omega) el29 (qS91 _ _ (qb87 _ _ hk77)) el39 (qS91 _ _ (qb87 _ _ hk78)) (by omega) exb9 al9 si9) (qS91 _ _ (qb87 _ _ hk68)) ⟨by decide, rfl⟩ dL_law_327 rfl rfl (by simp [Value.category]) (by decide) (by omega) (by omega) (by decide) (fun r152 S154 g153 dcr152 dsr152 pr152 qr152 hg153 => ?_)
            obtain ⟨wr152, z155, rfl, lz155, uz155, k156, k157, k158, k159, k160⟩ := pr152
            refine X_st [.int (iI z155)] rfl ?_
            refine X_pop hK dL_law_330 rfl ?_
            refine X_aloadn hK (i := 2) 2 dL_law_331 rfl rfl ?_
            refine X_aloadn hK (i := 0) 4 dL_law_332 rfl rfl ?_
            refine X_iload hK (i := 4) 0 dL_law_333 rfl ?_
            refine X_iconst hK dL_law_335 ?_
            refine X_iadd hK dL_law_336 ?_
            refine X_scrK hK hX hbl hbA hL (by omega) (by omega) ez129 dL_law_337 ?_
            refine X_aloadn hK (i := 0) 4 dL_law_338 rfl rfl ?_
            refine X_iload hK (i := 4) 0 dL_law_339 rfl ?_
            refine X_iconst hK dL_law_341 ?_
            refine X_iadd hK dL_law_342 ?_
            refine X_scrK hK hX hbl hbA hL (by omega) (by omega) ez130 dL_law_343 ?_
            refine X_if_eq hK 351 (by omega) dL_law_344 (by decide) (fun c161 => ?_) (fun c161 => ?_)
            · refine X_iconst hK dL_law_351 ?_
              refine X_aloadn hK (i := 0) 4 dL_law_352 rfl rfl ?_
              refine X_iload hK (i := 4) 0 dL_law_353 rfl ?_
              refine X_iconst hK dL_law_355 ?_
              refine X_iadd hK dL_law_356 ?_
              refine X_scrK hK hX hbl hbA hL (by omega) (by omega) ez150 dL_law_357 ?_
              refine X_aloadn hK (i := 0) 4 dL_law_358 rfl rfl ?_
              refine X_iload hK (i := 4) 0 dL_law_359 rfl ?_
              refine X_iconst hK dL_law_361 ?_
              refine X_iadd hK dL_law_362 ?_
              refine X_scrK hK hX hbl hbA hL (by omega) (by omega) ez151 dL_law_363 ?_
              refine X_callV hK [.int (iI z129), .int (iI 0), .int (iI z150), .int (iI z151)] [] lk_L_37 (c_X12_boy _ _ _ _ _ S154 g153 b39 z129 0 z150 z151 b9 (qr152 _ _ (qS91 _ _ (qb87 _ _ hs_y66))) (by omega) (by omega) (by omega) (by omega) (by omega) ((hg153 b39 13 0 16 (qS91 _ _ (qb87 _ _ hs_y66)) (by decide)).trans emb9)) (qr152 _ _ (qS91 _ _ (qb87 _ _ hs_y66))) ⟨by decide, rfl⟩ dL_law_364 rfl rfl (by simp [Value.category]) (by decide) (by omega) (by omega) (by decide) (fun r162 S164 g163 pr162 qr162 hg163 => ?_)
              obtain ⟨rfl, z165, rfl, lz165, uz165, k166, k167⟩ := pr162
              refine X_st [.int (iI z165)] rfl ?_
              refine X_pop hK dL_law_367 rfl ?_
              refine X_goto hK 1465 dL_law_368 (by decide) ?_
              refine X_iinc hK (i := 4) (z := i9) (n := 6) 0 [(4, .int (iI (i9 + 6))), (3, .ref b87), (2, .ref b39), (1, .ref b1), (0, .ref b)] dL_law_1465 rfl (by decide) rfl ?_
              refine X_goto hK 23 dL_law_1468 (by decide) ?_
              exact ih9 S154 (xLe.tr qS91 qr152) g163 (i9 + 6) k9 t9 c9 (if b9 < 40 ∧ 6 ≤ z129 ∧ z129 ≤ 18 ∧ -1 ≤ z150 ∧ z150 ≤ 399 ∧ 0 ≤ z151 ∧ z151 ≤ 99 then b9 + 1 else b9) sh9 sp9 sm9 (by omega) (by omega) (by omega) (by omega) (by first | omega | (split <;> omega)) (by omega) (by omega) (by omega) (xLs_mod k156 hg163 (by decide)) k157 (xPi_m (xPi_m pi9 hg153 qr152 (by decide)) hg163 xLe.rf (by decide)) (xMp_m (xMp_m mp9 hg153 qr152 (by decide)) hg163 xLe.rf (by decide)) (xTw_m (xTw_m tw9 hg153 qr152 (by decide)) hg163 xLe.rf (by decide)) (xTW_m (xTW_m tkw9 hg153 qr152 (by decide)) hg163 xLe.rf (by decide)) ((hg163 b1 12 0 0 (qr152 _ _ (qS91 _ _ (qb87 _ _ hk68))) (by decide)).trans ((hg153 b1 12 0 0 (qS91 _ _ (qb87 _ _ hk68)) (by decide)).trans el09)) ((hg163 b1 12 0 3 (qr152 _ _ (qS91 _ _ (qb87 _ _ hk68))) (by decide)).trans ((hg153 b1 12 0 3 (qS91 _ _ (qb87 _ _ hk68)) (by decide)).trans el19)) ((hg163 b1 12 0 1 (qr152 _ _ (qS91 _ _ (qb87 _ _ hk68))) (by decide)).trans ((hg153 b1 12 0 1 (qS91 _ _ (qb87 _ _ hk68)) (by decide)).trans el29)) ((hg163 b37 6 0 1 (qr152 _ _ (qS91 _ _ (qb87 _ _ hk77))) (by decide)).trans ((hg153 b37 6 0 1 (qS91 _ _ (qb87 _ _ hk77)) (by decide)).trans el39)) ((hg163 b1 12 0 2 (qr152 _ _ (qS91 _ _ (qb87 _ _ hk68))) (by decide)).trans ((hg153 b1 12 0 2 (qS91 _ _ (qb87 _ _ hk68)) (by decide)).trans el49)) ((hg163 b19 4 0 0 (qr152 _ _ (qS91 _ _ (qb87 _ _ hk69))) (by decide)).trans ((hg153 b19 4 0 0 (qS91 _ _ (qb87 _ _ hk69)) (by decide)).trans el59)) ((hg163 b19 4 0 2 (qr152 _ _ (qS91 _ _ (qb87 _ _ hk69))) (by decide)).trans ((hg153 b19 4 0 2 (qS91 _ _ (qb87 _ _ hk69)) (by decide)).trans el69)) ((hg163 b19 4 0 3 (qr152 _ _ (qS91 _ _ (qb87 _ _ hk69))) (by decide)).trans ((hg153 b19 4 0 3 (qS91 _ _ (qb87 _ _ hk69)) (by decide)).trans el79)) ((hg163 b19 4 0 4 (qr152 _ _ (qS91 _ _ (qb87 _ _ hk69))) (by decide)).trans ((hg153 b19 4 0 4 (qS91 _ _ (qb87 _ _ hk69)) (by decide)).trans el89)) ((hg163 b35 10 0 0 (qr152 _ _ (qS91 _ _ (qb87 _ _ hk75))) (by decide)).trans ((hg153 b35 10 0 0 (qS91 _ _ (qb87 _ _ hk75)) (by decide)).trans el99)) ((hg163 b39 13 0 1 (qr152 _ _ (qS91 _ _ (qb87 _ _ hs_y66))) (by decide)).trans ((hg153 b39 13 0 1 (qS91 _ _ (qb87 _ _ hs_y66)) (by decide)).trans el109)) ((hg163 b39 13 0 10 (qr152 _ _ (qS91 _ _ (qb87 _ _ hs_y66))) (by decide)).trans ((hg153 b39 13 0 10 (qS91 _ _ (qb87 _ _ hs_y66)) (by decide)).trans el119)) ((hg163 b39 13 0 13 (qr152 _ _ (qS91 _ _ (qb87 _ _ hs_y66))) (by decide)).trans ((hg153 b39 13 0 13 (qS91 _ _ (qb87 _ _ hs_y66)) (by decide)).trans el129)) ((hg163 b39 13 0 14 (qr152 _ _ (qS91 _ _ (qb87 _ _ hs_y66))) (by decide)).trans ((hg153 b39 13 0 14 (qS91 _ _ (qb87 _ _ hs_y66)) (by decide)).trans el139)) ((hg163 b39 13 0 12 (qr152 _ _ (qS91 _ _ (qb87 _ _ hs_y66))) (by decide)).trans ((hg153 b39 13 0 12 (qS91 _ _ (qb87 _ _ hs_y66)) (by decide)).trans el149)) ((hg163 b35 10 0 1 (qr152 _ _ (qS91 _ _ (qb87 _ _ hk75))) (by decide)).trans ((hg153 b35 10 0 1 (qS91 _ _ (qb87 _ _ hk75)) (by decide)).trans exk9)) ((hg163 b39 13 0 2 (qr152 _ _ (qS91 _ _ (qb87 _ _ hs_y66))) (by decide)).trans ((hg153 b39 13 0 2 (qS91 _ _ (qb87 _ _ hs_y66)) (by decide)).trans emk9)) ((hg163 b1 12 0 12 (qr152 _ _ (qS91 _ _ (qb87 _ _ hk68))) (by decide)).trans ((hg153 b1 12 0 12 (qS91 _ _ (qb87 _ _ hk68)) (by decide)).trans ext9)) ((hg163 b39 13 0 3 (qr152 _ _ (qS91 _ _ (qb87 _ _ hs_y66))) (by decide)).trans ((hg153 b39 13 0 3 (qS91 _ _ (qb87 _ _ hs_y66)) (by decide)).trans emt9)) ((hg163 b36 5 0 3 (qr152 _ _ (qS91 _ _ (qb87 _ _ hk76))) (by decide)).trans ((hg153 b36 5 0 3 (qS91 _ _ (qb87 _ _ hk76)) (by decide)).trans exc9)) ((hg163 b39 13 0 69 (qr152 _ _ (qS91 _ _ (qb87 _ _ hs_y66))) (by decide)).trans ((hg153 b39 13 0 69 (qS91 _ _ (qb87 _ _ hs_y66)) (by decide)).trans emc9)) ((hg163 b38 0 0 2 (qr152 _ _ (qS91 _ _ (qb87 _ _ hk78))) (by decide)).trans k160) k167 ((hg163 b1 12 0 16 (qr152 _ _ (qS91 _ _ (qb87 _ _ hk68))) (by decide)).trans ((hg153 b1 12 0 16 (qS91 _ _ (qb87 _ _ hk68)) (by decide)).trans exsh9)) ((hg163 b39 13 0 89 (qr152 _ _ (qS91 _ _ (qb87 _ _ hs_y66))) (by decide)).trans ((hg153 b39 13 0 89 (qS91 _ _ (qb87 _ _ hs_y66)) (by decide)).trans emsh9)) ((hg163 b1 12 0 17 (qr152 _ _ (qS91 _ _ (qb87 _ _ hk68))) (by decide)).trans ((hg153 b1 12 0 17 (qS91 _ _ (qb87 _ _ hk68)) (by decide)).trans exsp9)) ((hg163 b39 13 0 90 (qr152 _ _ (qS91 _ _ (qb87 _ _ hs_y66))) (by decide)).trans ((hg153 b39 13 0 90 (qS91 _ _ (qb87 _ _ hs_y66)) (by decide)).trans emsp9)) ((hg163 b39 13 0 17 (qr152 _ _ (qS91 _ _ (qb87 _ _ hs_y66))) (by decide)).trans ((hg153 b39 13 0 17 (qS91 _ _ (qb87 _ _ hs_y66)) (by decide)).trans emsm9)) (xWn.m (xWn.m wn9 (qS91 _ _ (qb87 _ _ hk74)) (qS91 _ _ (qb87 _ _ hk81)) hg153 qr152 (by decide)) (qr152 _ _ (qS91 _ _ (qb87 _ _ hk74))) (qr152 _ _ (qS91 _ _ (qb87 _ _ hk81))) hg163 xLe.rf (by decide)) (by rw [(Eq.trans (xv_m hg163 (qr152 _ _ (qS91 _ _ (qb87 _ _ hk72))) (by decide) (by decide)) (xv_m hg153 (qS91 _ _ (qb87 _ _ hk72)) (by decide) (by decide))), (Eq.trans (xv_m hg163 (qr152 _ _ (qS91 _ _ (qb87 _ _ hk79))) (by decide) (by decide)) (xv_m hg153 (qS91 _ _ (qb87 _ _ hk79)) (by decide) (by decide)))]; exact wt9) (by rw [(Eq.trans (xv_m hg163 (qr152 _ _ (qS91 _ _ (qb87 _ _ hk73))) (by decide) (by decide)) (xv_m hg153 (qS91 _ _ (qb87 _ _ hk73)) (by decide) (by decide))), (Eq.trans (xv_m hg163 (qr152 _ _ (qS91 _ _ (qb87 _ _ hk80))) (by decide) (by decide)) (xv_m hg153 (qS91 _ _ (qb87 _ _ hk80)) (by decide) (by decide)))]; exact ld9) (by rw [(Eq.trans (xv_m hg163 (qr152 _ _ (qS91 _ _ (qb87 _ _ hk71))) (by decide) (by decide)) (xv_m hg153 (qS91 _ _ (qb87 _ _ hk71)) (by decide) (by decide))), (Eq.trans (xv_m hg163 (qr152 _ _ (qS91 _ _ (qb87 _ _ hs_b86))) (by decide) (by decide)) (xv_m hg153 (qS91 _ _ (qb87 _ _ hs_b86)) (by decide) (by decide)))]; exact sk9) (by rw [(Eq.trans (xv_m hg163 (qr152 _ _ (qS91 _ _ (qb87 _ _ hs_b84))) (by decide) (by decide)) (xv_m hg153 (qS91 _ _ (qb87 _ _ hs_b84)) (by decide) (by decide))), (Eq.trans (xv_m hg163 (qr152 _ _ (qS91 _ _ (qb87 _ _ hs_b85))) (by decide) (by decide)) (xv_m hg153 (qS91 _ _ (qb87 _ _ hs_b85)) (by decide) (by decide)))]; exact xTc.mono tc9 (by omega)) (dc9 + dcr152) (ds9 + dsr152) (by omega) (by omega) (by omega)
            · refine X_iconst hK dL_law_347 ?_
              refine X_goto hK 352 dL_law_348 (by decide) ?_
              refine X_aloadn hK (i := 0) 4 dL_law_352 rfl rfl ?_
              refine X_iload hK (i := 4) 0 dL_law_353 rfl ?_
              refine X_iconst hK dL_law_355 ?_
              refine X_iadd hK dL_law_356 ?_
              refine X_scrK hK hX hbl hbA hL (by omega) (by omega) ez150 dL_law_357 ?_
              refine X_aloadn hK (i := 0) 4 dL_law_358 rfl rfl ?_
              refine X_iload hK (i := 4) 0 dL_law_359 rfl ?_
              refine X_iconst hK dL_law_361 ?_
              refine X_iadd hK dL_law_362 ?_
              refine X_scrK hK hX hbl hbA hL (by omega) (by omega) ez151 dL_law_363 ?_
              refine X_callV hK [.int (iI z129), .int (iI 1), .int (iI z150), .int (iI z151)] [] lk_L_37 (c_X12_boy _ _ _ _ _ S154 g153 b39 z129 1 z150 z151 b9 (qr152 _ _ (qS91 _ _ (qb87 _ _ hs_y66))) (by omega) (by omega) (by omega) (by omega) (by omega) ((hg153 b39 13 0 16 (qS91 _ _ (qb87 _ _ hs_y66)) (by decide)).trans emb9)) (qr152 _ _ (qS91 _ _ (qb87 _ _ hs_y66))) ⟨by decide, rfl⟩ dL_law_364 rfl rfl (by simp [Value.category]) (by decide) (by omega) (by omega) (by decide) (fun r168 S170 g169 pr168 qr168 hg169 => ?_)
              obtain ⟨rfl, z171, rfl, lz171, uz171, k172, k173⟩ := pr168
              refine X_st [.int (iI z171)] rfl ?_
              refine X_pop hK dL_law_367 rfl ?_
              refine X_goto hK 1465 dL_law_368 (by decide) ?_
              refine X_iinc hK (i := 4) (z := i9) (n := 6) 0 [(4, .int (iI (i9 + 6))), (3, .ref b87), (2, .ref b39), (1, .ref b1), (0, .ref b)] dL_law_1465 rfl (by decide) rfl ?_
              refine X_goto hK 23 dL_law_1468 (by decide) ?_
              exact ih9 S154 (xLe.tr qS91 qr152) g169 (i9 + 6) k9 t9 c9 (if b9 < 40 ∧ 6 ≤ z129 ∧ z129 ≤ 18 ∧ -1 ≤ z150 ∧ z150 ≤ 399 ∧ 0 ≤ z151 ∧ z151 ≤ 99 then b9 + 1 else b9) sh9 sp9 sm9 (by omega) (by omega) (by omega) (by omega) (by first | omega | (split <;> omega)) (by omega) (by omega) (by omega) (xLs_mod k156 hg169 (by decide)) k157 (xPi_m (xPi_m pi9 hg153 qr152 (by decide)) hg169 xLe.rf (by decide)) (xMp_m (xMp_m mp9 hg153 qr152 (by decide)) hg169 xLe.rf (by decide)) (xTw_m (xTw_m tw9 hg153 qr152 (by decide)) hg169 xLe.rf (by decide)) (xTW_m (xTW_m tkw9 hg153 qr152 (by decide)) hg169 xLe.rf (by decide)) ((hg169 b1 12 0 0 (qr152 _ _ (qS91 _ _ (qb87 _ _ hk68))) (by decide)).trans ((hg153 b1 12 0 0 (qS91 _ _ (qb87 _ _ hk68)) (by decide)).trans el09)) ((hg169 b1 12 0 3 (qr152 _ _ (qS91 _ _ (qb87 _ _ hk68))) (by decide)).trans ((hg153 b1 12 0 3 (qS91 _ _ (qb87 _ _ hk68)) (by decide)).trans el19)) ((hg169 b1 12 0 1 (qr152 _ _ (qS91 _ _ (qb87 _ _ hk68))) (by decide)).trans ((hg153 b1 12 0 1 (qS91 _ _ (qb87 _ _ hk68)) (by decide)).trans el29)) ((hg169 b37 6 0 1 (qr152 _ _ (qS91 _ _ (qb87 _ _ hk77))) (by decide)).trans ((hg153 b37 6 0 1 (qS91 _ _ (qb87 _ _ hk77)) (by decide)).trans el39)) ((hg169 b1 12 0 2 (qr152 _ _ (qS91 _ _ (qb87 _ _ hk68))) (by decide)).trans ((hg153 b1 12 0 2 (qS91 _ _ (qb87 _ _ hk68)) (by decide)).trans el49)) ((hg169 b19 4 0 0 (qr152 _ _ (qS91 _ _ (qb87 _ _ hk69))) (by decide)).trans ((hg153 b19 4 0 0 (qS91 _ _ (qb87 _ _ hk69)) (by decide)).trans el59)) ((hg169 b19 4 0 2 (qr152 _ _ (qS91 _ _ (qb87 _ _ hk69))) (by decide)).trans ((hg153 b19 4 0 2 (qS91 _ _ (qb87 _ _ hk69)) (by decide)).trans el69)) ((hg169 b19 4 0 3 (qr152 _ _ (qS91 _ _ (qb87 _ _ hk69))) (by decide)).trans ((hg153 b19 4 0 3 (qS91 _ _ (qb87 _ _ hk69)) (by decide)).trans el79)) ((hg169 b19 4 0 4 (qr152 _ _ (qS91 _ _ (qb87 _ _ hk69))) (by decide)).trans ((hg153 b19 4 0 4 (qS91 _ _ (qb87 _ _ hk69)) (by decide)).trans el89)) ((hg169 b35 10 0 0 (qr152 _ _ (qS91 _ _ (qb87 _ _ hk75))) (by decide)).trans ((hg153 b35 10 0 0 (qS91 _ _ (qb87 _ _ hk75)) (by decide)).trans el99)) ((hg169 b39 13 0 1 (qr152 _ _ (qS91 _ _ (qb87 _ _ hs_y66))) (by decide)).trans ((hg153 b39 13 0 1 (qS91 _ _ (qb87 _ _ hs_y66)) (by decide)).trans el109)) ((hg169 b39 13 0 10 (qr152 _ _ (qS91 _ _ (qb87 _ _ hs_y66))) (by decide)).trans ((hg153 b39 13 0 10 (qS91 _ _ (qb87 _ _ hs_y66)) (by decide)).trans el119)) ((hg169 b39 13 0 13 (qr152 _ _ (qS91 _ _ (qb87 _ _ hs_y66))) (by decide)).trans ((hg153 b39 13 0 13 (qS91 _ _ (qb87 _ _ hs_y66)) (by decide)).trans el129)) ((hg169 b39 13 0 14 (qr152 _ _ (qS91 _ _ (qb87 _ _ hs_y66))) (by decide)).trans ((hg153 b39 13 0 14 (qS91 _ _ (qb87 _ _ hs_y66)) (by decide)).trans el139)) ((hg169 b39 13 0 12 (qr152 _ _ (qS91 _ _ (qb87 _ _ hs_y66))) (by decide)).trans ((hg153 b39 13 0 12 (qS91 _ _ (qb87 _ _ hs_y66)) (by decide)).trans el149)) ((hg169 b35 10 0 1 (qr152 _ _ (qS91 _ _ (qb87 _ _ hk75))) (by decide)).trans ((hg153 b35 10 0 1 (qS91 _ _ (qb87 _ _ hk75)) (by decide)).trans exk9)) ((hg169 b39 13 0 2 (qr152 _ _ (qS91 _ _ (qb87 _ _ hs_y66))) (by decide)).trans ((hg153 b39 13 0 2 (qS91 _ _ (qb87 _ _ hs_y66)) (by decide)).trans emk9)) ((hg169 b1 12 0 12 (qr152 _ _ (qS91 _ _ (qb87 _ _ hk68))) (by decide)).trans ((hg153 b1 12 0 12 (qS91 _ _ (qb87 _ _ hk68)) (by decide)).trans ext9)) ((hg169 b39 13 0 3 (qr152 _ _ (qS91 _ _ (qb87 _ _ hs_y66))) (by decide)).trans ((hg153 b39 13 0 3 (qS91 _ _ (qb87 _ _ hs_y66)) (by decide)).trans emt9)) ((hg169 b36 5 0 3 (qr152 _ _ (qS91 _ _ (qb87 _ _ hk76))) (by decide)).trans ((hg153 b36 5 0 3 (qS91 _ _ (qb87 _ _ hk76)) (by decide)).trans exc9)) ((hg169 b39 13 0 69 (qr152 _ _ (qS91 _ _ (qb87 _ _ hs_y66))) (by decide)).trans ((hg153 b39 13 0 69 (qS91 _ _ (qb87 _ _ hs_y66)) (by decide)).trans emc9)) ((hg169 b38 0 0 2 (qr152 _ _ (qS91 _ _ (qb87 _ _ hk78))) (by decide)).trans k160) k173 ((hg169 b1 12 0 16 (qr152 _ _ (qS91 _ _ (qb87 _ _ hk68))) (by decide)).trans ((hg153 b1 12 0 16 (qS91 _ _ (qb87 _ _ hk68)) (by decide)).trans exsh9)) ((hg169 b39 13 0 89 (qr152 _ _ (qS91 _ _ (qb87 _ _ hs_y66))) (by decide)).trans ((hg153 b39 13 0 89 (qS91 _ _ (qb87 _ _ hs_y66)) (by decide)).trans emsh9)) ((hg169 b1 12 0 17 (qr152 _ _ (qS91 _ _ (qb87 _ _ hk68))) (by decide)).trans ((hg153 b1 12 0 17 (qS91 _ _ (qb87 _ _ hk68)) (by decide)).trans exsp9)) ((hg169 b39 13 0 90 (qr152 _ _ (qS91 _ _ (qb87 _ _ hs_y66))) (by decide)).trans ((hg153 b39 13 0 90 (qS91 _ _ (qb87 _ _ hs_y66)) (by decide)).trans emsp9)) ((hg169 b39 13 0 17 (qr152 _ _ (qS91 _ _ (qb87 _ _ hs_y66))) (by decide)).trans ((hg153 b39 13 0 17 (qS91 _ _ (qb87 _ _ hs_y66)) (by decide)).trans emsm9)) (xWn.m (xWn.m wn9 (qS91 _ _ (qb87 _ _ hk74)) (qS91 _ _ (qb87 _ _ hk81)) hg153 qr152 (by decide)) (qr152 _ _ (qS91 _ _ (qb87 _ _ hk74))) (qr152 _ _ (qS91 _ _ (qb87 _ _ hk81))) hg169 xLe.rf (by decide)) (by rw [(Eq.trans (xv_m hg169 (qr152 _ _ (qS91 _ _ (qb87 _ _ hk72))) (by decide) (by decide)) (xv_m hg153 (qS91 _ _ (qb87 _ _ hk72)) (by decide) (by decide))), (Eq.trans (xv_m hg169 (qr152 _ _ (qS91 _ _ (qb87 _ _ hk79))) (by decide) (by decide)) (xv_m hg153 (qS91 _ _ (qb87 _ _ hk79)) (by decide) (by decide)))]; exact wt9) (by rw [(Eq.trans (xv_m hg169 (qr152 _ _ (qS91 _ _ (qb87 _ _ hk73))) (by decide) (by decide)) (xv_m hg153 (qS91 _ _ (qb87 _ _ hk73)) (by decide) (by decide))), (Eq.trans (xv_m hg169 (qr152 _ _ (qS91 _ _ (qb87 _ _ hk80))) (by decide) (by decide)) (xv_m hg153 (qS91 _ _ (qb87 _ _ hk80)) (by decide) (by decide)))]; exact ld9) (by rw [(Eq.trans (xv_m hg169 (qr152 _ _ (qS91 _ _ (qb87 _ _ hk71))) (by decide) (by decide)) (xv_m hg153 (qS91 _ _ (qb87 _ _ hk71)) (by decide) (by decide))), (Eq.trans (xv_m hg169 (qr152 _ _ (qS91 _ _ (qb87 _ _ hs_b86))) (by decide) (by decide)) (xv_m hg153 (qS91 _ _ (qb87 _ _ hs_b86)) (by decide) (by decide)))]; exact sk9) (by rw [(Eq.trans (xv_m hg169 (qr152 _ _ (qS91 _ _ (qb87 _ _ hs_b84))) (by decide) (by decide)) (xv_m hg153 (qS91 _ _ (qb87 _ _ hs_b84)) (by decide) (by decide))), (Eq.trans (xv_m hg169 (qr152 _ _ (qS91 _ _ (qb87 _ _ hs_b85))) (by decide) (by decide)) (xv_m hg153 (qS91 _ _ (qb87 _ _ hs_b85)) (by decide) (by decide)))]; exact xTc.mono tc9 (by omega)) (dc9 + dcr152) (ds9 + dsr152) (by omega) (by omega) (by omega)
        · refine X_tableIn hK 371 3 (by decide) c96 (by decide) (by decide) dL_law_40 rfl (by decide) ?_
          refine X_aloadn hK (i := 1) 3 dL_law_371 rfl rfl ?_
          refine X_aloadn hK (i := 0) 4 dL_law_372 rfl rfl ?_
          refine X_iload hK (i := 4) 0 dL_law_373 rfl ?_
          refine X_iconst hK dL_law_375 ?_
          refine X_iadd hK dL_law_376 ?_
          refine X_scr hK hX hbl hbA hL (by omega) (by omega) dL_law_377 (fun z174 ez174 lz174 uz174 => ?_)
          refine X_aloadn hK (i := 0) 4 dL_law_378 rfl rfl ?_
          refine X_iload hK (i := 4) 0 dL_law_379 rfl ?_
          refine X_iconst hK dL_law_381 ?_
          refine X_iadd hK dL_law_382 ?_
          refine X_scr hK hX hbl hbA hL (by omega) (by omega) dL_law_383 (fun z175 ez175 lz175 uz175 => ?_)
          refine X_callV hK [.int (iI z174), .int (iI z175)] [] lk_L_38 (c_X11_badge _ _ _ _ _ S91 g92 b1 z174 z175 b37 b38 b9 (qS91 _ _ (qb87 _ _ hk68)) (by omega) (by omega) el29 (qS91 _ _ (qb87 _ _ hk77)) el39 (qS91 _ _ (qb87 _ _ hk78)) (by omega) exb9 al9) (qS91 _ _ (qb87 _ _ hk68)) ⟨by decide, rfl⟩ dL_law_384 rfl rfl (by simp [Value.category]) (by decide) (by omega) (by omega) (by decide) (fun r176 S178 g177 pr176 qr176 hg177 => ?_)
          obtain ⟨rfl, z179, rfl, lz179, uz179, k180⟩ := pr176
          refine X_st [.int (iI z179)] rfl ?_
          refine X_pop hK dL_law_387 rfl ?_
          refine X_aloadn hK (i := 2) 2 dL_law_388 rfl rfl ?_
          refine X_aloadn hK (i := 0) 4 dL_law_389 rfl rfl ?_
          refine X_iload hK (i := 4) 0 dL_law_390 rfl ?_
          refine X_iconst hK dL_law_392 ?_
          refine X_iadd hK dL_law_393 ?_
          refine X_scrK hK hX hbl hbA hL (by omega) (by omega) ez174 dL_law_394 ?_
          refine X_aloadn hK (i := 0) 4 dL_law_395 rfl rfl ?_
          refine X_iload hK (i := 4) 0 dL_law_396 rfl ?_
          refine X_iconst hK dL_law_398 ?_
          refine X_iadd hK dL_law_399 ?_
          refine X_scrK hK hX hbl hbA hL (by omega) (by omega) ez175 dL_law_400 ?_
          refine X_callV hK [.int (iI z174), .int (iI z175)] [] lk_L_42 (c_X12_badge _ _ _ _ _ S91 g177 b39 z174 z175 b9 (qS91 _ _ (qb87 _ _ hs_y66)) (by omega) (by omega) (by omega) ((hg177 b39 13 0 16 (qS91 _ _ (qb87 _ _ hs_y66)) (by decide)).trans emb9)) (qS91 _ _ (qb87 _ _ hs_y66)) ⟨by decide, rfl⟩ dL_law_401 rfl rfl (by simp [Value.category]) (by decide) (by omega) (by omega) (by decide) (fun r181 S183 g182 pr181 qr181 hg182 => ?_)
          obtain ⟨rfl, z184, rfl, lz184, uz184, k185⟩ := pr181
          refine X_st [.int (iI z184)] rfl ?_
          refine X_pop hK dL_law_404 rfl ?_
          refine X_goto hK 1465 dL_law_405 (by decide) ?_
          refine X_iinc hK (i := 4) (z := i9) (n := 6) 0 [(4, .int (iI (i9 + 6))), (3, .ref b87), (2, .ref b39), (1, .ref b1), (0, .ref b)] dL_law_1465 rfl (by decide) rfl ?_
          refine X_goto hK 23 dL_law_1468 (by decide) ?_
          exact ih9 S91 qS91 g182 (i9 + 6) k9 t9 c9 b9 sh9 sp9 sm9 (by omega) (by omega) (by omega) (by omega) (by omega) (by omega) (by omega) (by omega) (xLs_mod (xLs_mod al9 hg177 (by decide)) hg182 (by decide)) si9 (xPi_m (xPi_m pi9 hg177 xLe.rf (by decide)) hg182 xLe.rf (by decide)) (xMp_m (xMp_m mp9 hg177 xLe.rf (by decide)) hg182 xLe.rf (by decide)) (xTw_m (xTw_m tw9 hg177 xLe.rf (by decide)) hg182 xLe.rf (by decide)) (xTW_m (xTW_m tkw9 hg177 xLe.rf (by decide)) hg182 xLe.rf (by decide)) ((hg182 b1 12 0 0 (qS91 _ _ (qb87 _ _ hk68)) (by decide)).trans ((hg177 b1 12 0 0 (qS91 _ _ (qb87 _ _ hk68)) (by decide)).trans el09)) ((hg182 b1 12 0 3 (qS91 _ _ (qb87 _ _ hk68)) (by decide)).trans ((hg177 b1 12 0 3 (qS91 _ _ (qb87 _ _ hk68)) (by decide)).trans el19)) ((hg182 b1 12 0 1 (qS91 _ _ (qb87 _ _ hk68)) (by decide)).trans ((hg177 b1 12 0 1 (qS91 _ _ (qb87 _ _ hk68)) (by decide)).trans el29)) ((hg182 b37 6 0 1 (qS91 _ _ (qb87 _ _ hk77)) (by decide)).trans ((hg177 b37 6 0 1 (qS91 _ _ (qb87 _ _ hk77)) (by decide)).trans el39)) ((hg182 b1 12 0 2 (qS91 _ _ (qb87 _ _ hk68)) (by decide)).trans ((hg177 b1 12 0 2 (qS91 _ _ (qb87 _ _ hk68)) (by decide)).trans el49)) ((hg182 b19 4 0 0 (qS91 _ _ (qb87 _ _ hk69)) (by decide)).trans ((hg177 b19 4 0 0 (qS91 _ _ (qb87 _ _ hk69)) (by decide)).trans el59)) ((hg182 b19 4 0 2 (qS91 _ _ (qb87 _ _ hk69)) (by decide)).trans ((hg177 b19 4 0 2 (qS91 _ _ (qb87 _ _ hk69)) (by decide)).trans el69)) ((hg182 b19 4 0 3 (qS91 _ _ (qb87 _ _ hk69)) (by decide)).trans ((hg177 b19 4 0 3 (qS91 _ _ (qb87 _ _ hk69)) (by decide)).trans el79)) ((hg182 b19 4 0 4 (qS91 _ _ (qb87 _ _ hk69)) (by decide)).trans ((hg177 b19 4 0 4 (qS91 _ _ (qb87 _ _ hk69)) (by decide)).trans el89)) ((hg182 b35 10 0 0 (qS91 _ _ (qb87 _ _ hk75)) (by decide)).trans ((hg177 b35 10 0 0 (qS91 _ _ (qb87 _ _ hk75)) (by decide)).trans el99)) ((hg182 b39 13 0 1 (qS91 _ _ (qb87 _ _ hs_y66)) (by decide)).trans ((hg177 b39 13 0 1 (qS91 _ _ (qb87 _ _ hs_y66)) (by decide)).trans el109)) ((hg182 b39 13 0 10 (qS91 _ _ (qb87 _ _ hs_y66)) (by decide)).trans ((hg177 b39 13 0 10 (qS91 _ _ (qb87 _ _ hs_y66)) (by decide)).trans el119)) ((hg182 b39 13 0 13 (qS91 _ _ (qb87 _ _ hs_y66)) (by decide)).trans ((hg177 b39 13 0 13 (qS91 _ _ (qb87 _ _ hs_y66)) (by decide)).trans el129)) ((hg182 b39 13 0 14 (qS91 _ _ (qb87 _ _ hs_y66)) (by decide)).trans ((hg177 b39 13 0 14 (qS91 _ _ (qb87 _ _ hs_y66)) (by decide)).trans el139)) ((hg182 b39 13 0 12 (qS91 _ _ (qb87 _ _ hs_y66)) (by decide)).trans ((hg177 b39 13 0 12 (qS91 _ _ (qb87 _ _ hs_y66)) (by decide)).trans el149)) ((hg182 b35 10 0 1 (qS91 _ _ (qb87 _ _ hk75)) (by decide)).trans ((hg177 b35 10 0 1 (qS91 _ _ (qb87 _ _ hk75)) (by decide)).trans exk9)) ((hg182 b39 13 0 2 (qS91 _ _ (qb87 _ _ hs_y66)) (by decide)).trans ((hg177 b39 13 0 2 (qS91 _ _ (qb87 _ _ hs_y66)) (by decide)).trans emk9)) ((hg182 b1 12 0 12 (qS91 _ _ (qb87 _ _ hk68)) (by decide)).trans ((hg177 b1 12 0 12 (qS91 _ _ (qb87 _ _ hk68)) (by decide)).trans ext9)) ((hg182 b39 13 0 3 (qS91 _ _ (qb87 _ _ hs_y66)) (by decide)).trans ((hg177 b39 13 0 3 (qS91 _ _ (qb87 _ _ hs_y66)) (by decide)).trans emt9)) ((hg182 b36 5 0 3 (qS91 _ _ (qb87 _ _ hk76)) (by decide)).trans ((hg177 b36 5 0 3 (qS91 _ _ (qb87 _ _ hk76)) (by decide)).trans exc9)) ((hg182 b39 13 0 69 (qS91 _ _ (qb87 _ _ hs_y66)) (by decide)).trans ((hg177 b39 13 0 69 (qS91 _ _ (qb87 _ _ hs_y66)) (by decide)).trans emc9)) ((hg182 b38 0 0 2 (qS91 _ _ (qb87 _ _ hk78)) (by decide)).trans ((hg177 b38 0 0 2 (qS91 _ _ (qb87 _ _ hk78)) (by decide)).trans exb9)) ((hg182 b39 13 0 16 (qS91 _ _ (qb87 _ _ hs_y66)) (by decide)).trans ((hg177 b39 13 0 16 (qS91 _ _ (qb87 _ _ hs_y66)) (by decide)).trans emb9)) ((hg182 b1 12 0 16 (qS91 _ _ (qb87 _ _ hk68)) (by decide)).trans ((hg177 b1 12 0 16 (qS91 _ _ (qb87 _ _ hk68)) (by decide)).trans exsh9)) ((hg182 b39 13 0 89 (qS91 _ _ (qb87 _ _ hs_y66)) (by decide)).trans ((hg177 b39 13 0 89 (qS91 _ _ (qb87 _ _ hs_y66)) (by decide)).trans emsh9)) ((hg182 b1 12 0 17 (qS91 _ _ (qb87 _ _ hk68)) (by decide)).trans ((hg177 b1 12 0 17 (qS91 _ _ (qb87 _ _ hk68)) (by decide)).trans exsp9)) ((hg182 b39 13 0 90 (qS91 _ _ (qb87 _ _ hs_y66)) (by decide)).trans ((hg177 b39 13 0 90 (qS91 _ _ (qb87 _ _ hs_y66)) (by decide)).trans emsp9)) ((hg182 b39 13 0 17 (qS91 _ _ (qb87 _ _ hs_y66)) (by decide)).trans ((hg177 b39 13 0 17 (qS91 _ _ (qb87 _ _ hs_y66)) (by decide)).trans emsm9)) (xWn.m (xWn.m wn9 (qS91 _ _ (qb87 _ _ hk74)) (qS91 _ _ (qb87 _ _ hk81)) hg177 xLe.rf (by decide)) (qS91 _ _ (qb87 _ _ hk74)) (qS91 _ _ (qb87 _ _ hk81)) hg182 xLe.rf (by decide)) (by rw [(Eq.trans (xv_m hg182 (qS91 _ _ (qb87 _ _ hk72)) (by decide) (by decide)) (xv_m hg177 (qS91 _ _ (qb87 _ _ hk72)) (by decide) (by decide))), (Eq.trans (xv_m hg182 (qS91 _ _ (qb87 _ _ hk79)) (by decide) (by decide)) (xv_m hg177 (qS91 _ _ (qb87 _ _ hk79)) (by decide) (by decide)))]; exact wt9) (by rw [(Eq.trans (xv_m hg182 (qS91 _ _ (qb87 _ _ hk73)) (by decide) (by decide)) (xv_m hg177 (qS91 _ _ (qb87 _ _ hk73)) (by decide) (by decide))), (Eq.trans (xv_m hg182 (qS91 _ _ (qb87 _ _ hk80)) (by decide) (by decide)) (xv_m hg177 (qS91 _ _ (qb87 _ _ hk80)) (by decide) (by decide)))]; exact ld9) (by rw [(Eq.trans (xv_m hg182 (qS91 _ _ (qb87 _ _ hk71)) (by decide) (by decide)) (xv_m hg177 (qS91 _ _ (qb87 _ _ hk71)) (by decide) (by decide))), (Eq.trans (xv_m hg182 (qS91 _ _ (qb87 _ _ hs_b86)) (by decide) (by decide)) (xv_m hg177 (qS91 _ _ (qb87 _ _ hs_b86)) (by decide) (by decide)))]; exact sk9) (by rw [(Eq.trans (xv_m hg182 (qS91 _ _ (qb87 _ _ hs_b84)) (by decide) (by decide)) (xv_m hg177 (qS91 _ _ (qb87 _ _ hs_b84)) (by decide) (by decide))), (Eq.trans (xv_m hg182 (qS91 _ _ (qb87 _ _ hs_b85)) (by decide) (by decide)) (xv_m hg177 (qS91 _ _ (qb87 _ _ hs_b85)) (by decide) (by decide)))]; exact xTc.mono tc9 (by omega)) dc9 ds9 (by omega) (by omega) (by omega)
        · refine X_tableIn hK 408 4 (by decide) c96 (by decide) (by decide) dL_law_40 rfl (by decide) ?_
          refine X_aloadn hK (i := 1) 3 dL_law_408 rfl rfl ?_
          refine X_aloadn hK (i := 0) 4 dL_law_409 rfl rfl ?_
          refine X_iload hK (i := 4) 0 dL_law_410 rfl ?_
          refine X_iconst hK dL_law_412 ?_
          refine X_iadd hK dL_law_413 ?_
          refine X_scr hK hX hbl hbA hL (by omega) (by omega) dL_law_414 (fun z186 ez186 lz186 uz186 => ?_)
          refine X_aloadn hK (i := 0) 4 dL_law_415 rfl rfl ?_
          refine X_iload hK (i := 4) 0 dL_law_416 rfl ?_
          refine X_iconst hK dL_law_418 ?_
          refine X_iadd hK dL_law_419 ?_
          refine X_scr hK hX hbl hbA hL (by omega) (by omega) dL_law_420 (fun z187 ez187 lz187 uz187 => ?_)
          refine X_callV hK [.int (iI z186), .int (iI z187)] [] lk_L_43 (c_X11_owner _ _ _ _ _ S91 g92 b1 z186 z187 b37 b38 b9 (qS91 _ _ (qb87 _ _ hk68)) (by omega) (by omega) el29 (qS91 _ _ (qb87 _ _ hk77)) el39 (qS91 _ _ (qb87 _ _ hk78)) (by omega) exb9 al9) (qS91 _ _ (qb87 _ _ hk68)) ⟨by decide, rfl⟩ dL_law_421 rfl rfl (by simp [Value.category]) (by decide) (by omega) (by omega) (by decide) (fun r188 S190 g189 pr188 qr188 hg189 => ?_)
          obtain ⟨rfl, z191, rfl, lz191, uz191, k192⟩ := pr188
          refine X_st [.int (iI z191)] rfl ?_
          refine X_pop hK dL_law_424 rfl ?_
          refine X_aloadn hK (i := 2) 2 dL_law_425 rfl rfl ?_
          refine X_aloadn hK (i := 0) 4 dL_law_426 rfl rfl ?_
          refine X_iload hK (i := 4) 0 dL_law_427 rfl ?_
          refine X_iconst hK dL_law_429 ?_
          refine X_iadd hK dL_law_430 ?_
          refine X_scrK hK hX hbl hbA hL (by omega) (by omega) ez186 dL_law_431 ?_
          refine X_aloadn hK (i := 0) 4 dL_law_432 rfl rfl ?_
          refine X_iload hK (i := 4) 0 dL_law_433 rfl ?_
          refine X_iconst hK dL_law_435 ?_
          refine X_iadd hK dL_law_436 ?_
          refine X_scrK hK hX hbl hbA hL (by omega) (by omega) ez187 dL_law_437 ?_
          refine X_callV hK [.int (iI z186), .int (iI z187)] [] lk_L_46 (c_X12_owner _ _ _ _ _ S91 g189 b39 z186 z187 b9 (qS91 _ _ (qb87 _ _ hs_y66)) (by omega) (by omega) (by omega) ((hg189 b39 13 0 16 (qS91 _ _ (qb87 _ _ hs_y66)) (by decide)).trans emb9)) (qS91 _ _ (qb87 _ _ hs_y66)) ⟨by decide, rfl⟩ dL_law_438 rfl rfl (by simp [Value.category]) (by decide) (by omega) (by omega) (by decide) (fun r193 S195 g194 pr193 qr193 hg194 => ?_)
          obtain ⟨rfl, z196, rfl, lz196, uz196, k197⟩ := pr193
          refine X_st [.int (iI z196)] rfl ?_
          refine X_pop hK dL_law_441 rfl ?_
          refine X_goto hK 1465 dL_law_442 (by decide) ?_
          refine X_iinc hK (i := 4) (z := i9) (n := 6) 0 [(4, .int (iI (i9 + 6))), (3, .ref b87), (2, .ref b39), (1, .ref b1), (0, .ref b)] dL_law_1465 rfl (by decide) rfl ?_
          refine X_goto hK 23 dL_law_1468 (by decide) ?_
          exact ih9 S91 qS91 g194 (i9 + 6) k9 t9 c9 b9 sh9 sp9 sm9 (by omega) (by omega) (by omega) (by omega) (by omega) (by omega) (by omega) (by omega) (xLs_mod (xLs_mod al9 hg189 (by decide)) hg194 (by decide)) si9 (xPi_m (xPi_m pi9 hg189 xLe.rf (by decide)) hg194 xLe.rf (by decide)) (xMp_m (xMp_m mp9 hg189 xLe.rf (by decide)) hg194 xLe.rf (by decide)) (xTw_m (xTw_m tw9 hg189 xLe.rf (by decide)) hg194 xLe.rf (by decide)) (xTW_m (xTW_m tkw9 hg189 xLe.rf (by decide)) hg194 xLe.rf (by decide)) ((hg194 b1 12 0 0 (qS91 _ _ (qb87 _ _ hk68)) (by decide)).trans ((hg189 b1 12 0 0 (qS91 _ _ (qb87 _ _ hk68)) (by decide)).trans el09)) ((hg194 b1 12 0 3 (qS91 _ _ (qb87 _ _ hk68)) (by decide)).trans ((hg189 b1 12 0 3 (qS91 _ _ (qb87 _ _ hk68)) (by decide)).trans el19)) ((hg194 b1 12 0 1 (qS91 _ _ (qb87 _ _ hk68)) (by decide)).trans ((hg189 b1 12 0 1 (qS91 _ _ (qb87 _ _ hk68)) (by decide)).trans el29)) ((hg194 b37 6 0 1 (qS91 _ _ (qb87 _ _ hk77)) (by decide)).trans ((hg189 b37 6 0 1 (qS91 _ _ (qb87 _ _ hk77)) (by decide)).trans el39)) ((hg194 b1 12 0 2 (qS91 _ _ (qb87 _ _ hk68)) (by decide)).trans ((hg189 b1 12 0 2 (qS91 _ _ (qb87 _ _ hk68)) (by decide)).trans el49)) ((hg194 b19 4 0 0 (qS91 _ _ (qb87 _ _ hk69)) (by decide)).trans ((hg189 b19 4 0 0 (qS91 _ _ (qb87 _ _ hk69)) (by decide)).trans el59)) ((hg194 b19 4 0 2 (qS91 _ _ (qb87 _ _ hk69)) (by decide)).trans ((hg189 b19 4 0 2 (qS91 _ _ (qb87 _ _ hk69)) (by decide)).trans el69)) ((hg194 b19 4 0 3 (qS91 _ _ (qb87 _ _ hk69)) (by decide)).trans ((hg189 b19 4 0 3 (qS91 _ _ (qb87 _ _ hk69)) (by decide)).trans el79)) ((hg194 b19 4 0 4 (qS91 _ _ (qb87 _ _ hk69)) (by decide)).trans ((hg189 b19 4 0 4 (qS91 _ _ (qb87 _ _ hk69)) (by decide)).trans el89)) ((hg194 b35 10 0 0 (qS91 _ _ (qb87 _ _ hk75)) (by decide)).trans ((hg189 b35 10 0 0 (qS91 _ _ (qb87 _ _ hk75)) (by decide)).trans el99)) ((hg194 b39 13 0 1 (qS91 _ _ (qb87 _ _ hs_y66)) (by decide)).trans ((hg189 b39 13 0 1 (qS91 _ _ (qb87 _ _ hs_y66)) (by decide)).trans el109)) ((hg194 b39 13 0 10 (qS91 _ _ (qb87 _ _ hs_y66)) (by decide)).trans ((hg189 b39 13 0 10 (qS91 _ _ (qb87 _ _ hs_y66)) (by decide)).trans el119)) ((hg194 b39 13 0 13 (qS91 _ _ (qb87 _ _ hs_y66)) (by decide)).trans ((hg189 b39 13 0 13 (qS91 _ _ (qb87 _ _ hs_y66)) (by decide)).trans el129)) ((hg194 b39 13 0 14 (qS91 _ _ (qb87 _ _ hs_y66)) (by decide)).trans ((hg189 b39 13 0 14 (qS91 _ _ (qb87 _ _ hs_y66)) (by decide)).trans el139)) ((hg194 b39 13 0 12 (qS91 _ _ (qb87 _ _ hs_y66)) (by decide)).trans ((hg189 b39 13 0 12 (qS91 _ _ (qb87 _ _ hs_y66)) (by decide)).trans el149)) ((hg194 b35 10 0 1 (qS91 _ _ (qb87 _ _ hk75)) (by decide)).trans ((hg189 b35 10 0 1 (qS91 _ _ (qb87 _ _ hk75)) (by decide)).trans exk9)) ((hg194 b39 13 0 2 (qS91 _ _ (qb87 _ _ hs_y66)) (by decide)).trans ((hg189 b39 13 0 2 (qS91 _ _ (qb87 _ _ hs_y66)) (by decide)).trans emk9)) ((hg194 b1 12 0 12 (qS91 _ _ (qb87 _ _ hk68)) (by decide)).trans ((hg189 b1 12 0 12 (qS91 _ _ (qb87 _ _ hk68)) (by decide)).trans ext9)) ((hg194 b39 13 0 3 (qS91 _ _ (qb87 _ _ hs_y66)) (by decide)).trans ((hg189 b39 13 0 3 (qS91 _ _ (qb87 _ _ hs_y66)) (by decide)).trans emt9)) ((hg194 b36 5 0 3 (qS91 _ _ (qb87 _ _ hk76)) (by decide)).trans ((hg189 b36 5 0 3 (qS91 _ _ (qb87 _ _ hk76)) (by decide)).trans exc9)) ((hg194 b39 13 0 69 (qS91 _ _ (qb87 _ _ hs_y66)) (by decide)).trans ((hg189 b39 13 0 69 (qS91 _ _ (qb87 _ _ hs_y66)) (by decide)).trans emc9)) ((hg194 b38 0 0 2 (qS91 _ _ (qb87 _ _ hk78)) (by decide)).trans ((hg189 b38 0 0 2 (qS91 _ _ (qb87 _ _ hk78)) (by decide)).trans exb9)) ((hg194 b39 13 0 16 (qS91 _ _ (qb87 _ _ hs_y66)) (by decide)).trans ((hg189 b39 13 0 16 (qS91 _ _ (qb87 _ _ hs_y66)) (by decide)).trans emb9)) ((hg194 b1 12 0 16 (qS91 _ _ (qb87 _ _ hk68)) (by decide)).trans ((hg189 b1 12 0 16 (qS91 _ _ (qb87 _ _ hk68)) (by decide)).trans exsh9)) ((hg194 b39 13 0 89 (qS91 _ _ (qb87 _ _ hs_y66)) (by decide)).trans ((hg189 b39 13 0 89 (qS91 _ _ (qb87 _ _ hs_y66)) (by decide)).trans emsh9)) ((hg194 b1 12 0 17 (qS91 _ _ (qb87 _ _ hk68)) (by decide)).trans ((hg189 b1 12 0 17 (qS91 _ _ (qb87 _ _ hk68)) (by decide)).trans exsp9)) ((hg194 b39 13 0 90 (qS91 _ _ (qb87 _ _ hs_y66)) (by decide)).trans ((hg189 b39 13 0 90 (qS91 _ _ (qb87 _ _ hs_y66)) (by decide)).trans emsp9)) ((hg194 b39 13 0 17 (qS91 _ _ (qb87 _ _ hs_y66)) (by decide)).trans ((hg189 b39 13 0 17 (qS91 _ _ (qb87 _ _ hs_y66)) (by decide)).trans emsm9)) (xWn.m (xWn.m wn9 (qS91 _ _ (qb87 _ _ hk74)) (qS91 _ _ (qb87 _ _ hk81)) hg189 xLe.rf (by decide)) (qS91 _ _ (qb87 _ _ hk74)) (qS91 _ _ (qb87 _ _ hk81)) hg194 xLe.rf (by decide)) (by rw [(Eq.trans (xv_m hg194 (qS91 _ _ (qb87 _ _ hk72)) (by decide) (by decide)) (xv_m hg189 (qS91 _ _ (qb87 _ _ hk72)) (by decide) (by decide))), (Eq.trans (xv_m hg194 (qS91 _ _ (qb87 _ _ hk79)) (by decide) (by decide)) (xv_m hg189 (qS91 _ _ (qb87 _ _ hk79)) (by decide) (by decide)))]; exact wt9) (by rw [(Eq.trans (xv_m hg194 (qS91 _ _ (qb87 _ _ hk73)) (by decide) (by decide)) (xv_m hg189 (qS91 _ _ (qb87 _ _ hk73)) (by decide) (by decide))), (Eq.trans (xv_m hg194 (qS91 _ _ (qb87 _ _ hk80)) (by decide) (by decide)) (xv_m hg189 (qS91 _ _ (qb87 _ _ hk80)) (by decide) (by decide)))]; exact ld9) (by rw [(Eq.trans (xv_m hg194 (qS91 _ _ (qb87 _ _ hk71)) (by decide) (by decide)) (xv_m hg189 (qS91 _ _ (qb87 _ _ hk71)) (by decide) (by decide))), (Eq.trans (xv_m hg194 (qS91 _ _ (qb87 _ _ hs_b86)) (by decide) (by decide)) (xv_m hg189 (qS91 _ _ (qb87 _ _ hs_b86)) (by decide) (by decide)))]; exact sk9) (by rw [(Eq.trans (xv_m hg194 (qS91 _ _ (qb87 _ _ hs_b84)) (by decide) (by decide)) (xv_m hg189 (qS91 _ _ (qb87 _ _ hs_b84)) (by decide) (by decide))), (Eq.trans (xv_m hg194 (qS91 _ _ (qb87 _ _ hs_b85)) (by decide) (by decide)) (xv_m hg189 (qS91 _ _ (qb87 _ _ hs_b85)) (by decide) (by decide)))]; exact xTc.mono tc9 (by omega)) dc9 ds9 (by omega) (by omega) (by omega)
        · refine X_tableIn hK 445 5 (by decide) c96 (by decide) (by decide) dL_law_40 rfl (by decide) ?_
          refine X_aloadn hK (i := 1) 3 dL_law_445 rfl rfl ?_
          refine X_callV hK [] [] lk_L_47 (c_X11_weather _ _ _ _ _ S91 g92 b1 b35 k9 b84 b19 b20 (qS91 _ _ (qb87 _ _ hk68)) el09 (qS91 _ _ (qb87 _ _ hk75)) (by omega) exk9 el99 (qS91 _ _ (qb87 _ _ hs_b84)) el49 (qS91 _ _ (qb87 _ _ hk69)) el59 (qS91 _ _ (qb87 _ _ hk71))) (qS91 _ _ (qb87 _ _ hk68)) ⟨by decide, rfl⟩ dL_law_446 rfl rfl (by simp [Value.category]) (by decide) (by omega) (by omega) (by decide) (fun r198 S200 g199 pr198 qr198 hg199 => ?_)
          obtain ⟨rfl, z201, rfl, lz201, uz201, k202, k203, k204⟩ := pr198
          refine X_st [.int (iI z201)] rfl ?_
          refine X_pop hK dL_law_449 rfl ?_
          refine X_aloadn hK (i := 2) 2 dL_law_450 rfl rfl ?_
          refine X_callV hK [] [] lk_L_51 (c3_weather _ _ _ _ _ S91 g199 b39 k9 b85 sm9 b86 (qS91 _ _ (qb87 _ _ hs_y66)) (by omega) ((hg199 b39 13 0 2 (qS91 _ _ (qb87 _ _ hs_y66)) (by decide)).trans emk9) ((hg199 b39 13 0 1 (qS91 _ _ (qb87 _ _ hs_y66)) (by decide)).trans el109) (qS91 _ _ (qb87 _ _ hs_b85)) (by omega) ((hg199 b39 13 0 17 (qS91 _ _ (qb87 _ _ hs_y66)) (by decide)).trans emsm9) ((hg199 b39 13 0 10 (qS91 _ _ (qb87 _ _ hs_y66)) (by decide)).trans el119) (qS91 _ _ (qb87 _ _ hs_b86))) (qS91 _ _ (qb87 _ _ hs_y66)) ⟨by decide, rfl⟩ dL_law_451 rfl rfl (by simp [Value.category]) (by decide) (by omega) (by omega) (by decide) (fun r205 S207 g206 pr205 qr205 hg206 => ?_)
          obtain ⟨rfl, z208, rfl, lz208, uz208, k209, k210, k211⟩ := pr205
          refine X_st [.int (iI z208)] rfl ?_
          have hq9 : z201 = z208 := xbeq k203 k210 (by rw [(xv_m hg199 (qS91 _ _ (qb87 _ _ hs_b85)) (by decide) (by decide)), tc9.wk]) (by omega) (by omega)
          obtain ⟨z212, lz212, uz212, ez212, iz212⟩ : ∃ s8 : Int, 0 ≤ s8 ∧ s8 ≤ 400 ∧ g206 b39 17 = .int (iI s8) ∧ xSm (xv g206 b20) (xv g206 b86) s8 := by
            by_cases h9 : z201 = 1
            · have hb9 := k203.mp h9
              obtain ⟨a1, a2⟩ := k211.1 (by omega)
              exact ⟨_, by omega, by omega, a1, xSm.of (by omega) (by rw [(xv_m hg206 (qS91 _ _ (qb87 _ _ hk71)) (by decide) (by decide))]; exact k204.1 h9) a2 (by rw [(xv_m hg199 (qS91 _ _ (qb87 _ _ hs_b85)) (by decide) (by decide))]; exact tc9)⟩
            · obtain ⟨a1, a2⟩ := k211.2 (by omega)
              exact ⟨_, by omega, by omega, a1, by rw [(xv_m hg206 (qS91 _ _ (qb87 _ _ hk71)) (by decide) (by decide)), k204.2 h9, a2, (xv_m hg199 (qS91 _ _ (qb87 _ _ hs_b86)) (by decide) (by decide))]; exact sk9⟩
          refine X_pop hK dL_law_454 rfl ?_
          refine X_goto hK 1465 dL_law_455 (by decide) ?_
          refine X_iinc hK (i := 4) (z := i9) (n := 6) 0 [(4, .int (iI (i9 + 6))), (3, .ref b87), (2, .ref b39), (1, .ref b1), (0, .ref b)] dL_law_1465 rfl (by decide) rfl ?_
          refine X_goto hK 23 dL_law_1468 (by decide) ?_
          exact ih9 S91 qS91 g206 (i9 + 6) (0) t9 c9 b9 sh9 sp9 z212 (by omega) (by omega) (by omega) (by omega) (by omega) (by omega) (by omega) (by omega) (xLs_mod (xLs_mod al9 hg199 (by decide)) hg206 (by decide)) si9 (xPi_m (xPi_m pi9 hg199 xLe.rf (by decide)) hg206 xLe.rf (by decide)) (xMp_m (xMp_m mp9 hg199 xLe.rf (by decide)) hg206 xLe.rf (by decide)) (xTw_m (xTw_m tw9 hg199 xLe.rf (by decide)) hg206 xLe.rf (by decide)) (xTW_m (xTW_m tkw9 hg199 xLe.rf (by decide)) hg206 xLe.rf (by decide)) ((hg206 b1 12 0 0 (qS91 _ _ (qb87 _ _ hk68)) (by decide)).trans ((hg199 b1 12 0 0 (qS91 _ _ (qb87 _ _ hk68)) (by decide)).trans el09)) ((hg206 b1 12 0 3 (qS91 _ _ (qb87 _ _ hk68)) (by decide)).trans ((hg199 b1 12 0 3 (qS91 _ _ (qb87 _ _ hk68)) (by decide)).trans el19)) ((hg206 b1 12 0 1 (qS91 _ _ (qb87 _ _ hk68)) (by decide)).trans ((hg199 b1 12 0 1 (qS91 _ _ (qb87 _ _ hk68)) (by decide)).trans el29)) ((hg206 b37 6 0 1 (qS91 _ _ (qb87 _ _ hk77)) (by decide)).trans ((hg199 b37 6 0 1 (qS91 _ _ (qb87 _ _ hk77)) (by decide)).trans el39)) ((hg206 b1 12 0 2 (qS91 _ _ (qb87 _ _ hk68)) (by decide)).trans ((hg199 b1 12 0 2 (qS91 _ _ (qb87 _ _ hk68)) (by decide)).trans el49)) ((hg206 b19 4 0 0 (qS91 _ _ (qb87 _ _ hk69)) (by decide)).trans ((hg199 b19 4 0 0 (qS91 _ _ (qb87 _ _ hk69)) (by decide)).trans el59)) ((hg206 b19 4 0 2 (qS91 _ _ (qb87 _ _ hk69)) (by decide)).trans ((hg199 b19 4 0 2 (qS91 _ _ (qb87 _ _ hk69)) (by decide)).trans el69)) ((hg206 b19 4 0 3 (qS91 _ _ (qb87 _ _ hk69)) (by decide)).trans ((hg199 b19 4 0 3 (qS91 _ _ (qb87 _ _ hk69)) (by decide)).trans el79)) ((hg206 b19 4 0 4 (qS91 _ _ (qb87 _ _ hk69)) (by decide)).trans ((hg199 b19 4 0 4 (qS91 _ _ (qb87 _ _ hk69)) (by decide)).trans el89)) ((hg206 b35 10 0 0 (qS91 _ _ (qb87 _ _ hk75)) (by decide)).trans ((hg199 b35 10 0 0 (qS91 _ _ (qb87 _ _ hk75)) (by decide)).trans el99)) ((hg206 b39 13 0 1 (qS91 _ _ (qb87 _ _ hs_y66)) (by decide)).trans ((hg199 b39 13 0 1 (qS91 _ _ (qb87 _ _ hs_y66)) (by decide)).trans el109)) ((hg206 b39 13 0 10 (qS91 _ _ (qb87 _ _ hs_y66)) (by decide)).trans ((hg199 b39 13 0 10 (qS91 _ _ (qb87 _ _ hs_y66)) (by decide)).trans el119)) ((hg206 b39 13 0 13 (qS91 _ _ (qb87 _ _ hs_y66)) (by decide)).trans ((hg199 b39 13 0 13 (qS91 _ _ (qb87 _ _ hs_y66)) (by decide)).trans el129)) ((hg206 b39 13 0 14 (qS91 _ _ (qb87 _ _ hs_y66)) (by decide)).trans ((hg199 b39 13 0 14 (qS91 _ _ (qb87 _ _ hs_y66)) (by decide)).trans el139)) ((hg206 b39 13 0 12 (qS91 _ _ (qb87 _ _ hs_y66)) (by decide)).trans ((hg199 b39 13 0 12 (qS91 _ _ (qb87 _ _ hs_y66)) (by decide)).trans el149)) ((hg206 b35 10 0 1 (qS91 _ _ (qb87 _ _ hk75)) (by decide)).trans k202) k209 ((hg206 b1 12 0 12 (qS91 _ _ (qb87 _ _ hk68)) (by decide)).trans ((hg199 b1 12 0 12 (qS91 _ _ (qb87 _ _ hk68)) (by decide)).trans ext9)) ((hg206 b39 13 0 3 (qS91 _ _ (qb87 _ _ hs_y66)) (by decide)).trans ((hg199 b39 13 0 3 (qS91 _ _ (qb87 _ _ hs_y66)) (by decide)).trans emt9)) ((hg206 b36 5 0 3 (qS91 _ _ (qb87 _ _ hk76)) (by decide)).trans ((hg199 b36 5 0 3 (qS91 _ _ (qb87 _ _ hk76)) (by decide)).trans exc9)) ((hg206 b39 13 0 69 (qS91 _ _ (qb87 _ _ hs_y66)) (by decide)).trans ((hg199 b39 13 0 69 (qS91 _ _ (qb87 _ _ hs_y66)) (by decide)).trans emc9)) ((hg206 b38 0 0 2 (qS91 _ _ (qb87 _ _ hk78)) (by decide)).trans ((hg199 b38 0 0 2 (qS91 _ _ (qb87 _ _ hk78)) (by decide)).trans exb9)) ((hg206 b39 13 0 16 (qS91 _ _ (qb87 _ _ hs_y66)) (by decide)).trans ((hg199 b39 13 0 16 (qS91 _ _ (qb87 _ _ hs_y66)) (by decide)).trans emb9)) ((hg206 b1 12 0 16 (qS91 _ _ (qb87 _ _ hk68)) (by decide)).trans ((hg199 b1 12 0 16 (qS91 _ _ (qb87 _ _ hk68)) (by decide)).trans exsh9)) ((hg206 b39 13 0 89 (qS91 _ _ (qb87 _ _ hs_y66)) (by decide)).trans ((hg199 b39 13 0 89 (qS91 _ _ (qb87 _ _ hs_y66)) (by decide)).trans emsh9)) ((hg206 b1 12 0 17 (qS91 _ _ (qb87 _ _ hk68)) (by decide)).trans ((hg199 b1 12 0 17 (qS91 _ _ (qb87 _ _ hk68)) (by decide)).trans exsp9)) ((hg206 b39 13 0 90 (qS91 _ _ (qb87 _ _ hs_y66)) (by decide)).trans ((hg199 b39 13 0 90 (qS91 _ _ (qb87 _ _ hs_y66)) (by decide)).trans emsp9)) ez212 (xWn.m (xWn.m wn9 (qS91 _ _ (qb87 _ _ hk74)) (qS91 _ _ (qb87 _ _ hk81)) hg199 xLe.rf (by decide)) (qS91 _ _ (qb87 _ _ hk74)) (qS91 _ _ (qb87 _ _ hk81)) hg206 xLe.rf (by decide)) (by rw [(Eq.trans (xv_m hg206 (qS91 _ _ (qb87 _ _ hk72)) (by decide) (by decide)) (xv_m hg199 (qS91 _ _ (qb87 _ _ hk72)) (by decide) (by decide))), (Eq.trans (xv_m hg206 (qS91 _ _ (qb87 _ _ hk79)) (by decide) (by decide)) (xv_m hg199 (qS91 _ _ (qb87 _ _ hk79)) (by decide) (by decide)))]; exact wt9) (by rw [(Eq.trans (xv_m hg206 (qS91 _ _ (qb87 _ _ hk73)) (by decide) (by decide)) (xv_m hg199 (qS91 _ _ (qb87 _ _ hk73)) (by decide) (by decide))), (Eq.trans (xv_m hg206 (qS91 _ _ (qb87 _ _ hk80)) (by decide) (by decide)) (xv_m hg199 (qS91 _ _ (qb87 _ _ hk80)) (by decide) (by decide)))]; exact ld9) iz212 (by rw [(Eq.trans (xv_m hg206 (qS91 _ _ (qb87 _ _ hs_b84)) (by decide) (by decide)) (xv_m hg199 (qS91 _ _ (qb87 _ _ hs_b84)) (by decide) (by decide))), (Eq.trans (xv_m hg206 (qS91 _ _ (qb87 _ _ hs_b85)) (by decide) (by decide)) (xv_m hg199 (qS91 _ _ (qb87 _ _ hs_b85)) (by decide) (by decide)))]; exact xTc.mono tc9 (by omega)) dc9 ds9 (by omega) (by omega) (by omega)
        · refine X_tableIn hK 458 6 (by decide) c96 (by decide) (by decide) dL_law_40 rfl (by decide) ?_
          refine X_aloadn hK (i := 1) 3 dL_law_458 rfl rfl ?_
          refine X_aloadn hK (i := 0) 4 dL_law_459 rfl rfl ?_
          refine X_iload hK (i := 4) 0 dL_law_460 rfl ?_
          refine X_iconst hK dL_law_462 ?_
          refine X_iadd hK dL_law_463 ?_
          refine X_scr hK hX hbl hbA hL (by omega) (by omega) dL_law_464 (fun z213 ez213 lz213 uz213 => ?_)
          refine X_callV hK [.int (iI z213)] [] lk_L_52 (c_X11_sky _ _ _ _ _ S91 g92 b1 z213 b19 b20 (qS91 _ _ (qb87 _ _ hk68)) (by omega) el49 (qS91 _ _ (qb87 _ _ hk69)) el59 (qS91 _ _ (qb87 _ _ hk71))) (qS91 _ _ (qb87 _ _ hk68)) ⟨by decide, rfl⟩ dL_law_465 rfl rfl (by simp [Value.category]) (by decide) (by omega) (by omega) (by decide) (fun r214 S216 g215 pr214 qr214 hg215 => ?_)
          obtain ⟨rfl, rfl, z217, rfl, lz217, uz217, k218⟩ := pr214
          refine X_st [.int (iI z217)] rfl ?_
          refine X_pop hK dL_law_468 rfl ?_
          refine X_aloadn hK (i := 2) 2 dL_law_469 rfl rfl ?_
          refine X_aloadn hK (i := 0) 4 dL_law_470 rfl rfl ?_
          refine X_iload hK (i := 4) 0 dL_law_471 rfl ?_
          refine X_iconst hK dL_law_473 ?_
          refine X_iadd hK dL_law_474 ?_
          refine X_scrK hK hX hbl hbA hL (by omega) (by omega) ez213 dL_law_475 ?_
          refine X_callV hK [.int (iI z213)] [] lk_L_55 (c_X12_sky _ _ _ _ _ S91 g92 b39 z213 sm9 b86 (qS91 _ _ (qb87 _ _ hs_y66)) (by omega) (by omega) emsm9 el119 (qS91 _ _ (qb87 _ _ hs_b86))) (qS91 _ _ (qb87 _ _ hs_y66)) ⟨by decide, rfl⟩ dL_law_476 rfl rfl (by simp [Value.category]) (by decide) (by omega) (by omega) (by decide) (fun r219 S221 g220 pr219 qr219 hg220 => ?_)
          obtain ⟨rfl, z222, rfl, lz222, uz222, k223⟩ := pr219
          refine X_st [.int (iI z222)] rfl ?_
          refine X_pop hK dL_law_479 rfl ?_
          refine X_goto hK 1465 dL_law_480 (by decide) ?_
          refine X_iinc hK (i := 4) (z := i9) (n := 6) 0 [(4, .int (iI (i9 + 6))), (3, .ref b87), (2, .ref b39), (1, .ref b1), (0, .ref b)] dL_law_1465 rfl (by decide) rfl ?_
          refine X_goto hK 23 dL_law_1468 (by decide) ?_
          exact ih9 S91 qS91 g220 (i9 + 6) k9 t9 c9 b9 sh9 sp9 sm9 (by omega) (by omega) (by omega) (by omega) (by omega) (by omega) (by omega) (by omega) (xLs_mod al9 hg220 (by decide)) si9 (xPi_m pi9 hg220 xLe.rf (by decide)) (xMp_m mp9 hg220 xLe.rf (by decide)) (xTw_m tw9 hg220 xLe.rf (by decide)) (xTW_m tkw9 hg220 xLe.rf (by decide)) ((hg220 b1 12 0 0 (qS91 _ _ (qb87 _ _ hk68)) (by decide)).trans el09) ((hg220 b1 12 0 3 (qS91 _ _ (qb87 _ _ hk68)) (by decide)).trans el19) ((hg220 b1 12 0 1 (qS91 _ _ (qb87 _ _ hk68)) (by decide)).trans el29) ((hg220 b37 6 0 1 (qS91 _ _ (qb87 _ _ hk77)) (by decide)).trans el39) ((hg220 b1 12 0 2 (qS91 _ _ (qb87 _ _ hk68)) (by decide)).trans el49) ((hg220 b19 4 0 0 (qS91 _ _ (qb87 _ _ hk69)) (by decide)).trans el59) ((hg220 b19 4 0 2 (qS91 _ _ (qb87 _ _ hk69)) (by decide)).trans el69) ((hg220 b19 4 0 3 (qS91 _ _ (qb87 _ _ hk69)) (by decide)).trans el79) ((hg220 b19 4 0 4 (qS91 _ _ (qb87 _ _ hk69)) (by decide)).trans el89) ((hg220 b35 10 0 0 (qS91 _ _ (qb87 _ _ hk75)) (by decide)).trans el99) ((hg220 b39 13 0 1 (qS91 _ _ (qb87 _ _ hs_y66)) (by decide)).trans el109) ((hg220 b39 13 0 10 (qS91 _ _ (qb87 _ _ hs_y66)) (by decide)).trans el119) ((hg220 b39 13 0 13 (qS91 _ _ (qb87 _ _ hs_y66)) (by decide)).trans el129) ((hg220 b39 13 0 14 (qS91 _ _ (qb87 _ _ hs_y66)) (by decide)).trans el139) ((hg220 b39 13 0 12 (qS91 _ _ (qb87 _ _ hs_y66)) (by decide)).trans el149) ((hg220 b35 10 0 1 (qS91 _ _ (qb87 _ _ hk75)) (by decide)).trans exk9) ((hg220 b39 13 0 2 (qS91 _ _ (qb87 _ _ hs_y66)) (by decide)).trans emk9) ((hg220 b1 12 0 12 (qS91 _ _ (qb87 _ _ hk68)) (by decide)).trans ext9) ((hg220 b39 13 0 3 (qS91 _ _ (qb87 _ _ hs_y66)) (by decide)).trans emt9) ((hg220 b36 5 0 3 (qS91 _ _ (qb87 _ _ hk76)) (by decide)).trans exc9) ((hg220 b39 13 0 69 (qS91 _ _ (qb87 _ _ hs_y66)) (by decide)).trans emc9) ((hg220 b38 0 0 2 (qS91 _ _ (qb87 _ _ hk78)) (by decide)).trans exb9) ((hg220 b39 13 0 16 (qS91 _ _ (qb87 _ _ hs_y66)) (by decide)).trans emb9) ((hg220 b1 12 0 16 (qS91 _ _ (qb87 _ _ hk68)) (by decide)).trans exsh9) ((hg220 b39 13 0 89 (qS91 _ _ (qb87 _ _ hs_y66)) (by decide)).trans emsh9) ((hg220 b1 12 0 17 (qS91 _ _ (qb87 _ _ hk68)) (by decide)).trans exsp9) ((hg220 b39 13 0 90 (qS91 _ _ (qb87 _ _ hs_y66)) (by decide)).trans emsp9) ((hg220 b39 13 0 17 (qS91 _ _ (qb87 _ _ hs_y66)) (by decide)).trans emsm9) (xWn.m wn9 (qS91 _ _ (qb87 _ _ hk74)) (qS91 _ _ (qb87 _ _ hk81)) hg220 xLe.rf (by decide)) (by rw [(xv_m hg220 (qS91 _ _ (qb87 _ _ hk72)) (by decide) (by decide)), (xv_m hg220 (qS91 _ _ (qb87 _ _ hk79)) (by decide) (by decide))]; exact wt9) (by rw [(xv_m hg220 (qS91 _ _ (qb87 _ _ hk73)) (by decide) (by decide)), (xv_m hg220 (qS91 _ _ (qb87 _ _ hk80)) (by decide) (by decide))]; exact ld9) (by rw [(xv_m hg220 (qS91 _ _ (qb87 _ _ hk71)) (by decide) (by decide)), (xv_m hg220 (qS91 _ _ (qb87 _ _ hs_b86)) (by decide) (by decide))]; exact sk9) (by rw [(xv_m hg220 (qS91 _ _ (qb87 _ _ hs_b84)) (by decide) (by decide)), (xv_m hg220 (qS91 _ _ (qb87 _ _ hs_b85)) (by decide) (by decide))]; exact xTc.mono tc9 (by omega)) dc9 ds9 (by omega) (by omega) (by omega)
        · refine X_tableIn hK 483 7 (by decide) c96 (by decide) (by decide) dL_law_40 rfl (by decide) ?_
          refine X_aloadn hK (i := 1) 3 dL_law_483 rfl rfl ?_
          refine X_aloadn hK (i := 0) 4 dL_law_484 rfl rfl ?_
          refine X_iload hK (i := 4) 0 dL_law_485 rfl ?_
          refine X_iconst hK dL_law_487 ?_
          refine X_iadd hK dL_law_488 ?_
          refine X_scr hK hX hbl hbA hL (by omega) (by omega) dL_law_489 (fun z224 ez224 lz224 uz224 => ?_)
          refine X_aloadn hK (i := 0) 4 dL_law_490 rfl rfl ?_
          refine X_iload hK (i := 4) 0 dL_law_491 rfl ?_
          refine X_iconst hK dL_law_493 ?_
          refine X_iadd hK dL_law_494 ?_
          refine X_scr hK hX hbl hbA hL (by omega) (by omega) dL_law_495 (fun z225 ez225 lz225 uz225 => ?_)
          refine X_aloadn hK (i := 0) 4 dL_law_496 rfl rfl ?_
          refine X_iload hK (i := 4) 0 dL_law_497 rfl ?_
          refine X_iconst hK dL_law_499 ?_
          refine X_iadd hK dL_law_500 ?_
          refine X_scr hK hX hbl hbA hL (by omega) (by omega) dL_law_501 (fun z226 ez226 lz226 uz226 => ?_)
          refine X_callV hK [.int (iI z224), .int (iI z225), .int (iI z226)] [] lk_L_56 (c_X11_headline _ _ _ _ _ S91 g92 b1 z224 z225 z226 t9 (qS91 _ _ (qb87 _ _ hk68)) (by omega) (by omega) (by omega) (by omega) ext9) (qS91 _ _ (qb87 _ _ hk68)) ⟨by decide, rfl⟩ dL_law_502 rfl rfl (by simp [Value.category]) (by decide) (by omega) (by omega) (by decide) (fun r227 S229 g228 pr227 qr227 hg228 => ?_)
          obtain ⟨rfl, z230, rfl, lz230, uz230, k231⟩ := pr227
          refine X_st [.int (iI z230)] rfl ?_
          refine X_pop hK dL_law_505 rfl ?_
          refine X_aloadn hK (i := 2) 2 dL_law_506 rfl rfl ?_
          refine X_aloadn hK (i := 0) 4 dL_law_507 rfl rfl ?_
          refine X_iload hK (i := 4) 0 dL_law_508 rfl ?_
          refine X_iconst hK dL_law_510 ?_
          refine X_iadd hK dL_law_511 ?_
          refine X_scrK hK hX hbl hbA hL (by omega) (by omega) ez224 dL_law_512 ?_
          refine X_aloadn hK (i := 0) 4 dL_law_513 rfl rfl ?_
          refine X_iload hK (i := 4) 0 dL_law_514 rfl ?_
          refine X_iconst hK dL_law_516 ?_
          refine X_iadd hK dL_law_517 ?_
          refine X_scrK hK hX hbl hbA hL (by omega) (by omega) ez225 dL_law_518 ?_
          refine X_aloadn hK (i := 0) 4 dL_law_519 rfl rfl ?_
          refine X_iload hK (i := 4) 0 dL_law_520 rfl ?_
          refine X_iconst hK dL_law_522 ?_
          refine X_iadd hK dL_law_523 ?_
          refine X_scrK hK hX hbl hbA hL (by omega) (by omega) ez226 dL_law_524 ?_
          refine X_callV hK [.int (iI z224), .int (iI z225), .int (iI z226)] [] lk_L_60 (c_X12_headline _ _ _ _ _ S91 g228 b39 z224 z225 z226 t9 (qS91 _ _ (qb87 _ _ hs_y66)) (by omega) (by omega) (by omega) (by omega) ((hg228 b39 13 0 3 (qS91 _ _ (qb87 _ _ hs_y66)) (by decide)).trans emt9)) (qS91 _ _ (qb87 _ _ hs_y66)) ⟨by decide, rfl⟩ dL_law_525 rfl rfl (by simp [Value.category]) (by decide) (by omega) (by omega) (by decide) (fun r232 S234 g233 pr232 qr232 hg233 => ?_)
          obtain ⟨rfl, z235, rfl, lz235, uz235, k236⟩ := pr232
          refine X_st [.int (iI z235)] rfl ?_
          refine X_pop hK dL_law_528 rfl ?_
          refine X_goto hK 1465 dL_law_529 (by decide) ?_
          refine X_iinc hK (i := 4) (z := i9) (n := 6) 0 [(4, .int (iI (i9 + 6))), (3, .ref b87), (2, .ref b39), (1, .ref b1), (0, .ref b)] dL_law_1465 rfl (by decide) rfl ?_
          refine X_goto hK 23 dL_law_1468 (by decide) ?_
          exact ih9 S91 qS91 g233 (i9 + 6) k9 t9 c9 b9 sh9 sp9 sm9 (by omega) (by omega) (by omega) (by omega) (by omega) (by omega) (by omega) (by omega) (xLs_mod (xLs_mod al9 hg228 (by decide)) hg233 (by decide)) si9 (xPi_m (xPi_m pi9 hg228 xLe.rf (by decide)) hg233 xLe.rf (by decide)) (xMp_m (xMp_m mp9 hg228 xLe.rf (by decide)) hg233 xLe.rf (by decide)) (xTw_m (xTw_m tw9 hg228 xLe.rf (by decide)) hg233 xLe.rf (by decide)) (xTW_m (xTW_m tkw9 hg228 xLe.rf (by decide)) hg233 xLe.rf (by decide)) ((hg233 b1 12 0 0 (qS91 _ _ (qb87 _ _ hk68)) (by decide)).trans ((hg228 b1 12 0 0 (qS91 _ _ (qb87 _ _ hk68)) (by decide)).trans el09)) ((hg233 b1 12 0 3 (qS91 _ _ (qb87 _ _ hk68)) (by decide)).trans ((hg228 b1 12 0 3 (qS91 _ _ (qb87 _ _ hk68)) (by decide)).trans el19)) ((hg233 b1 12 0 1 (qS91 _ _ (qb87 _ _ hk68)) (by decide)).trans ((hg228 b1 12 0 1 (qS91 _ _ (qb87 _ _ hk68)) (by decide)).trans el29)) ((hg233 b37 6 0 1 (qS91 _ _ (qb87 _ _ hk77)) (by decide)).trans ((hg228 b37 6 0 1 (qS91 _ _ (qb87 _ _ hk77)) (by decide)).trans el39)) ((hg233 b1 12 0 2 (qS91 _ _ (qb87 _ _ hk68)) (by decide)).trans ((hg228 b1 12 0 2 (qS91 _ _ (qb87 _ _ hk68)) (by decide)).trans el49)) ((hg233 b19 4 0 0 (qS91 _ _ (qb87 _ _ hk69)) (by decide)).trans ((hg228 b19 4 0 0 (qS91 _ _ (qb87 _ _ hk69)) (by decide)).trans el59)) ((hg233 b19 4 0 2 (qS91 _ _ (qb87 _ _ hk69)) (by decide)).trans ((hg228 b19 4 0 2 (qS91 _ _ (qb87 _ _ hk69)) (by decide)).trans el69)) ((hg233 b19 4 0 3 (qS91 _ _ (qb87 _ _ hk69)) (by decide)).trans ((hg228 b19 4 0 3 (qS91 _ _ (qb87 _ _ hk69)) (by decide)).trans el79)) ((hg233 b19 4 0 4 (qS91 _ _ (qb87 _ _ hk69)) (by decide)).trans ((hg228 b19 4 0 4 (qS91 _ _ (qb87 _ _ hk69)) (by decide)).trans el89)) ((hg233 b35 10 0 0 (qS91 _ _ (qb87 _ _ hk75)) (by decide)).trans ((hg228 b35 10 0 0 (qS91 _ _ (qb87 _ _ hk75)) (by decide)).trans el99)) ((hg233 b39 13 0 1 (qS91 _ _ (qb87 _ _ hs_y66)) (by decide)).trans ((hg228 b39 13 0 1 (qS91 _ _ (qb87 _ _ hs_y66)) (by decide)).trans el109)) ((hg233 b39 13 0 10 (qS91 _ _ (qb87 _ _ hs_y66)) (by decide)).trans ((hg228 b39 13 0 10 (qS91 _ _ (qb87 _ _ hs_y66)) (by decide)).trans el119)) ((hg233 b39 13 0 13 (qS91 _ _ (qb87 _ _ hs_y66)) (by decide)).trans ((hg228 b39 13 0 13 (qS91 _ _ (qb87 _ _ hs_y66)) (by decide)).trans el129)) ((hg233 b39 13 0 14 (qS91 _ _ (qb87 _ _ hs_y66)) (by decide)).trans ((hg228 b39 13 0 14 (qS91 _ _ (qb87 _ _ hs_y66)) (by decide)).trans el139)) ((hg233 b39 13 0 12 (qS91 _ _ (qb87 _ _ hs_y66)) (by decide)).trans ((hg228 b39 13 0 12 (qS91 _ _ (qb87 _ _ hs_y66)) (by decide)).trans el149)) ((hg233 b35 10 0 1 (qS91 _ _ (qb87 _ _ hk75)) (by decide)).trans ((hg228 b35 10 0 1 (qS91 _ _ (qb87 _ _ hk75)) (by decide)).trans exk9)) ((hg233 b39 13 0 2 (qS91 _ _ (qb87 _ _ hs_y66)) (by decide)).trans ((hg228 b39 13 0 2 (qS91 _ _ (qb87 _ _ hs_y66)) (by decide)).trans emk9)) ((hg233 b1 12 0 12 (qS91 _ _ (qb87 _ _ hk68)) (by decide)).trans ((hg228 b1 12 0 12 (qS91 _ _ (qb87 _ _ hk68)) (by decide)).trans ext9)) ((hg233 b39 13 0 3 (qS91 _ _ (qb87 _ _ hs_y66)) (by decide)).trans ((hg228 b39 13 0 3 (qS91 _ _ (qb87 _ _ hs_y66)) (by decide)).trans emt9)) ((hg233 b36 5 0 3 (qS91 _ _ (qb87 _ _ hk76)) (by decide)).trans ((hg228 b36 5 0 3 (qS91 _ _ (qb87 _ _ hk76)) (by decide)).trans exc9)) ((hg233 b39 13 0 69 (qS91 _ _ (qb87 _ _ hs_y66)) (by decide)).trans ((hg228 b39 13 0 69 (qS91 _ _ (qb87 _ _ hs_y66)) (by decide)).trans emc9)) ((hg233 b38 0 0 2 (qS91 _ _ (qb87 _ _ hk78)) (by decide)).trans ((hg228 b38 0 0 2 (qS91 _ _ (qb87 _ _ hk78)) (by decide)).trans exb9)) ((hg233 b39 13 0 16 (qS91 _ _ (qb87 _ _ hs_y66)) (by decide)).trans ((hg228 b39 13 0 16 (qS91 _ _ (qb87 _ _ hs_y66)) (by decide)).trans emb9)) ((hg233 b1 12 0 16 (qS91 _ _ (qb87 _ _ hk68)) (by decide)).trans ((hg228 b1 12 0 16 (qS91 _ _ (qb87 _ _ hk68)) (by decide)).trans exsh9)) ((hg233 b39 13 0 89 (qS91 _ _ (qb87 _ _ hs_y66)) (by decide)).trans ((hg228 b39 13 0 89 (qS91 _ _ (qb87 _ _ hs_y66)) (by decide)).trans emsh9)) ((hg233 b1 12 0 17 (qS91 _ _ (qb87 _ _ hk68)) (by decide)).trans ((hg228 b1 12 0 17 (qS91 _ _ (qb87 _ _ hk68)) (by decide)).trans exsp9)) ((hg233 b39 13 0 90 (qS91 _ _ (qb87 _ _ hs_y66)) (by decide)).trans ((hg228 b39 13 0 90 (qS91 _ _ (qb87 _ _ hs_y66)) (by decide)).trans emsp9)) ((hg233 b39 13 0 17 (qS91 _ _ (qb87 _ _ hs_y66)) (by decide)).trans ((hg228 b39 13 0 17 (qS91 _ _ (qb87 _ _ hs_y66)) (by decide)).trans emsm9)) (xWn.m (xWn.m wn9 (qS91 _ _ (qb87 _ _ hk74)) (qS91 _ _ (qb87 _ _ hk81)) hg228 xLe.rf (by decide)) (qS91 _ _ (qb87 _ _ hk74)) (qS91 _ _ (qb87 _ _ hk81)) hg233 xLe.rf (by decide)) (by rw [(Eq.trans (xv_m hg233 (qS91 _ _ (qb87 _ _ hk72)) (by decide) (by decide)) (xv_m hg228 (qS91 _ _ (qb87 _ _ hk72)) (by decide) (by decide))), (Eq.trans (xv_m hg233 (qS91 _ _ (qb87 _ _ hk79)) (by decide) (by decide)) (xv_m hg228 (qS91 _ _ (qb87 _ _ hk79)) (by decide) (by decide)))]; exact wt9) (by rw [(Eq.trans (xv_m hg233 (qS91 _ _ (qb87 _ _ hk73)) (by decide) (by decide)) (xv_m hg228 (qS91 _ _ (qb87 _ _ hk73)) (by decide) (by decide))), (Eq.trans (xv_m hg233 (qS91 _ _ (qb87 _ _ hk80)) (by decide) (by decide)) (xv_m hg228 (qS91 _ _ (qb87 _ _ hk80)) (by decide) (by decide)))]; exact ld9) (by rw [(Eq.trans (xv_m hg233 (qS91 _ _ (qb87 _ _ hk71)) (by decide) (by decide)) (xv_m hg228 (qS91 _ _ (qb87 _ _ hk71)) (by decide) (by decide))), (Eq.trans (xv_m hg233 (qS91 _ _ (qb87 _ _ hs_b86)) (by decide) (by decide)) (xv_m hg228 (qS91 _ _ (qb87 _ _ hs_b86)) (by decide) (by decide)))]; exact sk9) (by rw [(Eq.trans (xv_m hg233 (qS91 _ _ (qb87 _ _ hs_b84)) (by decide) (by decide)) (xv_m hg228 (qS91 _ _ (qb87 _ _ hs_b84)) (by decide) (by decide))), (Eq.trans (xv_m hg233 (qS91 _ _ (qb87 _ _ hs_b85)) (by decide) (by decide)) (xv_m hg228 (qS91 _ _ (qb87 _ _ hs_b85)) (by decide) (by decide)))]; exact xTc.mono tc9 (by omega)) dc9 ds9 (by omega) (by omega) (by omega)
        · refine X_tableIn hK 532 8 (by decide) c96 (by decide) (by decide) dL_law_40 rfl (by decide) ?_
          refine X_aloadn hK (i := 1) 3 dL_law_532 rfl rfl ?_
          refine X_aloadn hK (i := 0) 4 dL_law_533 rfl rfl ?_
          refine X_iload hK (i := 4) 0 dL_law_534 rfl ?_
          refine X_iconst hK dL_law_536 ?_
          refine X_iadd hK dL_law_537 ?_
          refine X_scr hK hX hbl hbA hL (by omega) (by omega) dL_law_538 (fun z237 ez237 lz237 uz237 => ?_)
          refine X_aloadn hK (i := 0) 4 dL_law_539 rfl rfl ?_
          refine X_iload hK (i := 4) 0 dL_law_540 rfl ?_
          refine X_iconst hK dL_law_542 ?_
          refine X_iadd hK dL_law_543 ?_
          refine X_scr hK hX hbl hbA hL (by omega) (by omega) dL_law_544 (fun z238 ez238 lz238 uz238 => ?_)
          refine X_aloadn hK (i := 0) 4 dL_law_545 rfl rfl ?_
          refine X_iload hK (i := 4) 0 dL_law_546 rfl ?_
          refine X_iconst hK dL_law_548 ?_
          refine X_iadd hK dL_law_549 ?_
          refine X_scr hK hX hbl hbA hL (by omega) (by omega) dL_law_550 (fun z239 ez239 lz239 uz239 => ?_)
          refine X_callV hK [.int (iI z237), .int (iI z238), .int (iI z239)] [] lk_L_61 (c_X11_table _ _ _ _ _ S91 g92 b1 z237 z238 z239 b19 b21 b22 (qS91 _ _ (qb87 _ _ hk68)) (by omega) (by omega) (by omega) el49 (qS91 _ _ (qb87 _ _ hk69)) el69 (qS91 _ _ (qb87 _ _ hk72)) el79 (qS91 _ _ (qb87 _ _ hk73))) (qS91 _ _ (qb87 _ _ hk68)) ⟨by decide, rfl⟩ dL_law_551 rfl rfl (by simp [Value.category]) (by decide) (by omega) (by omega) (by decide) (fun r240 S242 g241 pr240 qr240 hg241 => ?_)
          obtain ⟨rfl, z243, rfl, lz243, uz243, k244, k245⟩ := pr240
          refine X_st [.int (iI z243)] rfl ?_
          refine X_pop hK dL_law_554 rfl ?_
          refine X_aloadn hK (i := 2) 2 dL_law_555 rfl rfl ?_
          refine X_aloadn hK (i := 0) 4 dL_law_556 rfl rfl ?_
          refine X_iload hK (i := 4) 0 dL_law_557 rfl ?_
          refine X_iconst hK dL_law_559 ?_
          refine X_iadd hK dL_law_560 ?_
          refine X_scrK hK hX hbl hbA hL (by omega) (by omega) ez237 dL_law_561 ?_
          refine X_aloadn hK (i := 0) 4 dL_law_562 rfl rfl ?_
          refine X_iload hK (i := 4) 0 dL_law_563 rfl ?_
          refine X_iconst hK dL_law_565 ?_
          refine X_iadd hK dL_law_566 ?_
          refine X_scrK hK hX hbl hbA hL (by omega) (by omega) ez238 dL_law_567 ?_
          refine X_aloadn hK (i := 0) 4 dL_law_568 rfl rfl ?_
          refine X_iload hK (i := 4) 0 dL_law_569 rfl ?_
          refine X_iconst hK dL_law_571 ?_
          refine X_iadd hK dL_law_572 ?_
          refine X_scrK hK hX hbl hbA hL (by omega) (by omega) ez239 dL_law_573 ?_
          refine X_callV hK [.int (iI z237), .int (iI z238), .int (iI z239)] [] lk_L_64 (c_X12_table _ _ _ _ _ S91 g241 b39 z237 z238 z239 b62 b63 (qS91 _ _ (qb87 _ _ hs_y66)) (by omega) (by omega) (by omega) ((hg241 b39 13 0 13 (qS91 _ _ (qb87 _ _ hs_y66)) (by decide)).trans el129) (qS91 _ _ (qb87 _ _ hk79)) ((hg241 b39 13 0 14 (qS91 _ _ (qb87 _ _ hs_y66)) (by decide)).trans el139) (qS91 _ _ (qb87 _ _ hk80))) (qS91 _ _ (qb87 _ _ hs_y66)) ⟨by decide, rfl⟩ dL_law_574 rfl rfl (by simp [Value.category]) (by decide) (by omega) (by omega) (by decide) (fun r246 S248 g247 pr246 qr246 hg247 => ?_)
          obtain ⟨rfl, z249, rfl, lz249, uz249, k250, k251⟩ := pr246
          refine X_st [.int (iI z249)] rfl ?_
          have tb252 := xTb.tc (by rw [(xv_m hg241 (qS91 _ _ (qb87 _ _ hk79)) (by decide) (by decide))]; exact wt9) (by rw [(xv_m hg241 (qS91 _ _ (qb87 _ _ hk80)) (by decide) (by decide))]; exact ld9) k245 k251 (by omega)
          refine X_pop hK dL_law_577 rfl ?_
          refine X_goto hK 1465 dL_law_578 (by decide) ?_
          refine X_iinc hK (i := 4) (z := i9) (n := 6) 0 [(4, .int (iI (i9 + 6))), (3, .ref b87), (2, .ref b39), (1, .ref b1), (0, .ref b)] dL_law_1465 rfl (by decide) rfl ?_
          refine X_goto hK 23 dL_law_1468 (by decide) ?_
          exact ih9 S91 qS91 g247 (i9 + 6) k9 t9 c9 b9 sh9 sp9 sm9 (by omega) (by omega) (by omega) (by omega) (by omega) (by omega) (by omega) (by omega) (xLs_mod (xLs_mod al9 hg241 (by decide)) hg247 (by decide)) si9 (xPi_m (xPi_m pi9 hg241 xLe.rf (by decide)) hg247 xLe.rf (by decide)) (xMp_m (xMp_m mp9 hg241 xLe.rf (by decide)) hg247 xLe.rf (by decide)) (xTw_m (xTw_m tw9 hg241 xLe.rf (by decide)) hg247 xLe.rf (by decide)) (xTW_m (xTW_m tkw9 hg241 xLe.rf (by decide)) hg247 xLe.rf (by decide)) ((hg247 b1 12 0 0 (qS91 _ _ (qb87 _ _ hk68)) (by decide)).trans ((hg241 b1 12 0 0 (qS91 _ _ (qb87 _ _ hk68)) (by decide)).trans el09)) ((hg247 b1 12 0 3 (qS91 _ _ (qb87 _ _ hk68)) (by decide)).trans ((hg241 b1 12 0 3 (qS91 _ _ (qb87 _ _ hk68)) (by decide)).trans el19)) ((hg247 b1 12 0 1 (qS91 _ _ (qb87 _ _ hk68)) (by decide)).trans ((hg241 b1 12 0 1 (qS91 _ _ (qb87 _ _ hk68)) (by decide)).trans el29)) ((hg247 b37 6 0 1 (qS91 _ _ (qb87 _ _ hk77)) (by decide)).trans ((hg241 b37 6 0 1 (qS91 _ _ (qb87 _ _ hk77)) (by decide)).trans el39)) ((hg247 b1 12 0 2 (qS91 _ _ (qb87 _ _ hk68)) (by decide)).trans ((hg241 b1 12 0 2 (qS91 _ _ (qb87 _ _ hk68)) (by decide)).trans el49)) ((hg247 b19 4 0 0 (qS91 _ _ (qb87 _ _ hk69)) (by decide)).trans ((hg241 b19 4 0 0 (qS91 _ _ (qb87 _ _ hk69)) (by decide)).trans el59)) ((hg247 b19 4 0 2 (qS91 _ _ (qb87 _ _ hk69)) (by decide)).trans ((hg241 b19 4 0 2 (qS91 _ _ (qb87 _ _ hk69)) (by decide)).trans el69)) ((hg247 b19 4 0 3 (qS91 _ _ (qb87 _ _ hk69)) (by decide)).trans ((hg241 b19 4 0 3 (qS91 _ _ (qb87 _ _ hk69)) (by decide)).trans el79)) ((hg247 b19 4 0 4 (qS91 _ _ (qb87 _ _ hk69)) (by decide)).trans ((hg241 b19 4 0 4 (qS91 _ _ (qb87 _ _ hk69)) (by decide)).trans el89)) ((hg247 b35 10 0 0 (qS91 _ _ (qb87 _ _ hk75)) (by decide)).trans ((hg241 b35 10 0 0 (qS91 _ _ (qb87 _ _ hk75)) (by decide)).trans el99)) ((hg247 b39 13 0 1 (qS91 _ _ (qb87 _ _ hs_y66)) (by decide)).trans ((hg241 b39 13 0 1 (qS91 _ _ (qb87 _ _ hs_y66)) (by decide)).trans el109)) ((hg247 b39 13 0 10 (qS91 _ _ (qb87 _ _ hs_y66)) (by decide)).trans ((hg241 b39 13 0 10 (qS91 _ _ (qb87 _ _ hs_y66)) (by decide)).trans el119)) ((hg247 b39 13 0 13 (qS91 _ _ (qb87 _ _ hs_y66)) (by decide)).trans ((hg241 b39 13 0 13 (qS91 _ _ (qb87 _ _ hs_y66)) (by decide)).trans el129)) ((hg247 b39 13 0 14 (qS91 _ _ (qb87 _ _ hs_y66)) (by decide)).trans ((hg241 b39 13 0 14 (qS91 _ _ (qb87 _ _ hs_y66)) (by decide)).trans el139)) ((hg247 b39 13 0 12 (qS91 _ _ (qb87 _ _ hs_y66)) (by decide)).trans ((hg241 b39 13 0 12 (qS91 _ _ (qb87 _ _ hs_y66)) (by decide)).trans el149)) ((hg247 b35 10 0 1 (qS91 _ _ (qb87 _ _ hk75)) (by decide)).trans ((hg241 b35 10 0 1 (qS91 _ _ (qb87 _ _ hk75)) (by decide)).trans exk9)) ((hg247 b39 13 0 2 (qS91 _ _ (qb87 _ _ hs_y66)) (by decide)).trans ((hg241 b39 13 0 2 (qS91 _ _ (qb87 _ _ hs_y66)) (by decide)).trans emk9)) ((hg247 b1 12 0 12 (qS91 _ _ (qb87 _ _ hk68)) (by decide)).trans ((hg241 b1 12 0 12 (qS91 _ _ (qb87 _ _ hk68)) (by decide)).trans ext9)) ((hg247 b39 13 0 3 (qS91 _ _ (qb87 _ _ hs_y66)) (by decide)).trans ((hg241 b39 13 0 3 (qS91 _ _ (qb87 _ _ hs_y66)) (by decide)).trans emt9)) ((hg247 b36 5 0 3 (qS91 _ _ (qb87 _ _ hk76)) (by decide)).trans ((hg241 b36 5 0 3 (qS91 _ _ (qb87 _ _ hk76)) (by decide)).trans exc9)) ((hg247 b39 13 0 69 (qS91 _ _ (qb87 _ _ hs_y66)) (by decide)).trans ((hg241 b39 13 0 69 (qS91 _ _ (qb87 _ _ hs_y66)) (by decide)).trans emc9)) ((hg247 b38 0 0 2 (qS91 _ _ (qb87 _ _ hk78)) (by decide)).trans ((hg241 b38 0 0 2 (qS91 _ _ (qb87 _ _ hk78)) (by decide)).trans exb9)) ((hg247 b39 13 0 16 (qS91 _ _ (qb87 _ _ hs_y66)) (by decide)).trans ((hg241 b39 13 0 16 (qS91 _ _ (qb87 _ _ hs_y66)) (by decide)).trans emb9)) ((hg247 b1 12 0 16 (qS91 _ _ (qb87 _ _ hk68)) (by decide)).trans ((hg241 b1 12 0 16 (qS91 _ _ (qb87 _ _ hk68)) (by decide)).trans exsh9)) ((hg247 b39 13 0 89 (qS91 _ _ (qb87 _ _ hs_y66)) (by decide)).trans ((hg241 b39 13 0 89 (qS91 _ _ (qb87 _ _ hs_y66)) (by decide)).trans emsh9)) ((hg247 b1 12 0 17 (qS91 _ _ (qb87 _ _ hk68)) (by decide)).trans ((hg241 b1 12 0 17 (qS91 _ _ (qb87 _ _ hk68)) (by decide)).trans exsp9)) ((hg247 b39 13 0 90 (qS91 _ _ (qb87 _ _ hs_y66)) (by decide)).trans ((hg241 b39 13 0 90 (qS91 _ _ (qb87 _ _ hs_y66)) (by decide)).trans emsp9)) ((hg247 b39 13 0 17 (qS91 _ _ (qb87 _ _ hs_y66)) (by decide)).trans ((hg241 b39 13 0 17 (qS91 _ _ (qb87 _ _ hs_y66)) (by decide)).trans emsm9)) (xWn.m (xWn.m wn9 (qS91 _ _ (qb87 _ _ hk74)) (qS91 _ _ (qb87 _ _ hk81)) hg241 xLe.rf (by decide)) (qS91 _ _ (qb87 _ _ hk74)) (qS91 _ _ (qb87 _ _ hk81)) hg247 xLe.rf (by decide)) (by rw [(xv_m hg247 (qS91 _ _ (qb87 _ _ hk72)) (by decide) (by decide))]; exact tb252.1) (by rw [(xv_m hg247 (qS91 _ _ (qb87 _ _ hk73)) (by decide) (by decide))]; exact tb252.2) (by rw [(Eq.trans (xv_m hg247 (qS91 _ _ (qb87 _ _ hk71)) (by decide) (by decide)) (xv_m hg241 (qS91 _ _ (qb87 _ _ hk71)) (by decide) (by decide))), (Eq.trans (xv_m hg247 (qS91 _ _ (qb87 _ _ hs_b86)) (by decide) (by decide)) (xv_m hg241 (qS91 _ _ (qb87 _ _ hs_b86)) (by decide) (by decide)))]; exact sk9) (by rw [(Eq.trans (xv_m hg247 (qS91 _ _ (qb87 _ _ hs_b84)) (by decide) (by decide)) (xv_m hg241 (qS91 _ _ (qb87 _ _ hs_b84)) (by decide) (by decide))), (Eq.trans (xv_m hg247 (qS91 _ _ (qb87 _ _ hs_b85)) (by decide) (by decide)) (xv_m hg241 (qS91 _ _ (qb87 _ _ hs_b85)) (by decide) (by decide)))]; exact xTc.mono tc9 (by omega)) dc9 ds9 (by omega) (by omega) (by omega)
        · refine X_tableIn hK 581 9 (by decide) c96 (by decide) (by decide) dL_law_40 rfl (by decide) ?_
          refine X_aloadn hK (i := 1) 3 dL_law_581 rfl rfl ?_
          refine X_aloadn hK (i := 0) 4 dL_law_582 rfl rfl ?_
          refine X_iload hK (i := 4) 0 dL_law_583 rfl ?_
          refine X_iconst hK dL_law_585 ?_
          refine X_iadd hK dL_law_586 ?_
          refine X_scr hK hX hbl hbA hL (by omega) (by omega) dL_law_587 (fun z253 ez253 lz253 uz253 => ?_)
          refine X_aloadn hK (i := 0) 4 dL_law_588 rfl rfl ?_
          refine X_iload hK (i := 4) 0 dL_law_589 rfl ?_
          refine X_iconst hK dL_law_591 ?_
          refine X_iadd hK dL_law_592 ?_
          refine X_scr hK hX hbl hbA hL (by omega) (by omega) dL_law_593 (fun z254 ez254 lz254 uz254 => ?_)
          refine X_aloadn hK (i := 0) 4 dL_law_594 rfl rfl ?_
          refine X_iload hK (i := 4) 0 dL_law_595 rfl ?_
          refine X_iconst hK dL_law_597 ?_
          refine X_iadd hK dL_law_598 ?_
          refine X_scr hK hX hbl hbA hL (by omega) (by omega) dL_law_599 (fun z255 ez255 lz255 uz255 => ?_)
          refine X_callV hK [.int (iI z253), .int (iI z254), .int (iI z255)] [] lk_L_65 (c_X11_want _ _ _ _ _ S91 g92 b1 z253 z254 z255 b19 b23 (qS91 _ _ (qb87 _ _ hk68)) (by omega) (by omega) (by omega) el49 (qS91 _ _ (qb87 _ _ hk69)) el89 (qS91 _ _ (qb87 _ _ hk74))) (qS91 _ _ (qb87 _ _ hk68)) ⟨by decide, rfl⟩ dL_law_600 rfl rfl (by simp [Value.category]) (by decide) (by omega) (by omega) (by decide) (fun r256 S258 g257 pr256 qr256 hg257 => ?_)
          obtain ⟨rfl, z259, rfl, lz259, uz259, k260, k261⟩ := pr256
          refine X_st [.int (iI z259)] rfl ?_
          refine X_pop hK dL_law_603 rfl ?_
          refine X_aloadn hK (i := 2) 2 dL_law_604 rfl rfl ?_
          refine X_aloadn hK (i := 0) 4 dL_law_605 rfl rfl ?_
          refine X_iload hK (i := 4) 0 dL_law_606 rfl ?_
          refine X_iconst hK dL_law_608 ?_
          refine X_iadd hK dL_law_609 ?_
          refine X_scrK hK hX hbl hbA hL (by omega) (by omega) ez253 dL_law_610 ?_
          refine X_aloadn hK (i := 0) 4 dL_law_611 rfl rfl ?_
          refine X_iload hK (i := 4) 0 dL_law_612 rfl ?_
          refine X_iconst hK dL_law_614 ?_
          refine X_iadd hK dL_law_615 ?_
          refine X_scrK hK hX hbl hbA hL (by omega) (by omega) ez254 dL_law_616 ?_
          refine X_aloadn hK (i := 0) 4 dL_law_617 rfl rfl ?_
          refine X_iload hK (i := 4) 0 dL_law_618 rfl ?_
          refine X_iconst hK dL_law_620 ?_
          refine X_iadd hK dL_law_621 ?_
          refine X_scrK hK hX hbl hbA hL (by omega) (by omega) ez255 dL_law_622 ?_
          refine X_callV hK [.int (iI z253), .int (iI z254), .int (iI z255)] [] lk_L_68 (c_X12_want _ _ _ _ _ S91 g257 b39 z253 z254 z255 b64 (qS91 _ _ (qb87 _ _ hs_y66)) (by omega) (by omega) (by omega) ((hg257 b39 13 0 12 (qS91 _ _ (qb87 _ _ hs_y66)) (by decide)).trans el149) (qS91 _ _ (qb87 _ _ hk81))) (qS91 _ _ (qb87 _ _ hs_y66)) ⟨by decide, rfl⟩ dL_law_623 rfl rfl (by simp [Value.category]) (by decide) (by omega) (by omega) (by decide) (fun r262 S264 g263 pr262 qr262 hg263 => ?_)
          obtain ⟨rfl, z265, rfl, lz265, uz265, k266, k267⟩ := pr262
          refine X_st [.int (iI z265)] rfl ?_
          have wn268 : xWn S91 g263 b23 b64 := by
            by_cases h9 : z259 = 1
            · obtain ⟨w9, a1, a2, a3⟩ := k261.1 h9
              have hb9 := k260.mp h9
              exact xWn.up wn9 (by omega) (by omega) a1 a2 a3 (fun k9 => ((hg263 _ _ _ _ (qS91 _ _ (qb87 _ _ hk74)) (by rw [xky_a (by decide)]; decide)).trans (hg257 _ _ _ _ (qS91 _ _ (qb87 _ _ hk74)) (by rw [xky_a (by decide)]; decide)))) (fun r9 n9 h9 => xv_m hg263 h9 (by decide) (by decide)) (by rw [← (xv_m hg257 (qS91 _ _ (qb87 _ _ hk81)) (by decide) (by decide))]; exact k267.1 (by omega))
            · exact xWn.same wn9 (fun k9 => ((hg263 _ _ _ _ (qS91 _ _ (qb87 _ _ hk74)) (by rw [xky_a (by decide)]; decide)).trans (hg257 _ _ _ _ (qS91 _ _ (qb87 _ _ hk74)) (by rw [xky_a (by decide)]; decide)))) (fun r9 n9 h8 => (xv_m hg263 h8 (by decide) (by decide)).trans (k261.2 h9 r9 n9 h8)) ((k267.2 (by omega)).trans (xv_m hg257 (qS91 _ _ (qb87 _ _ hk81)) (by decide) (by decide)))
          refine X_pop hK dL_law_626 rfl ?_
          refine X_goto hK 1465 dL_law_627 (by decide) ?_
          refine X_iinc hK (i := 4) (z := i9) (n := 6) 0 [(4, .int (iI (i9 + 6))), (3, .ref b87), (2, .ref b39), (1, .ref b1), (0, .ref b)] dL_law_1465 rfl (by decide) rfl ?_
          refine X_goto hK 23 dL_law_1468 (by decide) ?_
          exact ih9 S91 qS91 g263 (i9 + 6) k9 t9 c9 b9 sh9 sp9 sm9 (by omega) (by omega) (by omega) (by omega) (by omega) (by omega) (by omega) (by omega) (xLs_mod (xLs_mod al9 hg257 (by decide)) hg263 (by decide)) si9 (xPi_m (xPi_m pi9 hg257 xLe.rf (by decide)) hg263 xLe.rf (by decide)) (xMp_m (xMp_m mp9 hg257 xLe.rf (by decide)) hg263 xLe.rf (by decide)) (xTw_m (xTw_m tw9 hg257 xLe.rf (by decide)) hg263 xLe.rf (by decide)) (xTW_m (xTW_m tkw9 hg257 xLe.rf (by decide)) hg263 xLe.rf (by decide)) ((hg263 b1 12 0 0 (qS91 _ _ (qb87 _ _ hk68)) (by decide)).trans ((hg257 b1 12 0 0 (qS91 _ _ (qb87 _ _ hk68)) (by decide)).trans el09)) ((hg263 b1 12 0 3 (qS91 _ _ (qb87 _ _ hk68)) (by decide)).trans ((hg257 b1 12 0 3 (qS91 _ _ (qb87 _ _ hk68)) (by decide)).trans el19)) ((hg263 b1 12 0 1 (qS91 _ _ (qb87 _ _ hk68)) (by decide)).trans ((hg257 b1 12 0 1 (qS91 _ _ (qb87 _ _ hk68)) (by decide)).trans el29)) ((hg263 b37 6 0 1 (qS91 _ _ (qb87 _ _ hk77)) (by decide)).trans ((hg257 b37 6 0 1 (qS91 _ _ (qb87 _ _ hk77)) (by decide)).trans el39)) ((hg263 b1 12 0 2 (qS91 _ _ (qb87 _ _ hk68)) (by decide)).trans ((hg257 b1 12 0 2 (qS91 _ _ (qb87 _ _ hk68)) (by decide)).trans el49)) ((hg263 b19 4 0 0 (qS91 _ _ (qb87 _ _ hk69)) (by decide)).trans ((hg257 b19 4 0 0 (qS91 _ _ (qb87 _ _ hk69)) (by decide)).trans el59)) ((hg263 b19 4 0 2 (qS91 _ _ (qb87 _ _ hk69)) (by decide)).trans ((hg257 b19 4 0 2 (qS91 _ _ (qb87 _ _ hk69)) (by decide)).trans el69)) ((hg263 b19 4 0 3 (qS91 _ _ (qb87 _ _ hk69)) (by decide)).trans ((hg257 b19 4 0 3 (qS91 _ _ (qb87 _ _ hk69)) (by decide)).trans el79)) ((hg263 b19 4 0 4 (qS91 _ _ (qb87 _ _ hk69)) (by decide)).trans ((hg257 b19 4 0 4 (qS91 _ _ (qb87 _ _ hk69)) (by decide)).trans el89)) ((hg263 b35 10 0 0 (qS91 _ _ (qb87 _ _ hk75)) (by decide)).trans ((hg257 b35 10 0 0 (qS91 _ _ (qb87 _ _ hk75)) (by decide)).trans el99)) ((hg263 b39 13 0 1 (qS91 _ _ (qb87 _ _ hs_y66)) (by decide)).trans ((hg257 b39 13 0 1 (qS91 _ _ (qb87 _ _ hs_y66)) (by decide)).trans el109)) ((hg263 b39 13 0 10 (qS91 _ _ (qb87 _ _ hs_y66)) (by decide)).trans ((hg257 b39 13 0 10 (qS91 _ _ (qb87 _ _ hs_y66)) (by decide)).trans el119)) ((hg263 b39 13 0 13 (qS91 _ _ (qb87 _ _ hs_y66)) (by decide)).trans ((hg257 b39 13 0 13 (qS91 _ _ (qb87 _ _ hs_y66)) (by decide)).trans el129)) ((hg263 b39 13 0 14 (qS91 _ _ (qb87 _ _ hs_y66)) (by decide)).trans ((hg257 b39 13 0 14 (qS91 _ _ (qb87 _ _ hs_y66)) (by decide)).trans el139)) ((hg263 b39 13 0 12 (qS91 _ _ (qb87 _ _ hs_y66)) (by decide)).trans ((hg257 b39 13 0 12 (qS91 _ _ (qb87 _ _ hs_y66)) (by decide)).trans el149)) ((hg263 b35 10 0 1 (qS91 _ _ (qb87 _ _ hk75)) (by decide)).trans ((hg257 b35 10 0 1 (qS91 _ _ (qb87 _ _ hk75)) (by decide)).trans exk9)) ((hg263 b39 13 0 2 (qS91 _ _ (qb87 _ _ hs_y66)) (by decide)).trans ((hg257 b39 13 0 2 (qS91 _ _ (qb87 _ _ hs_y66)) (by decide)).trans emk9)) ((hg263 b1 12 0 12 (qS91 _ _ (qb87 _ _ hk68)) (by decide)).trans ((hg257 b1 12 0 12 (qS91 _ _ (qb87 _ _ hk68)) (by decide)).trans ext9)) ((hg263 b39 13 0 3 (qS91 _ _ (qb87 _ _ hs_y66)) (by decide)).trans ((hg257 b39 13 0 3 (qS91 _ _ (qb87 _ _ hs_y66)) (by decide)).trans emt9)) ((hg263 b36 5 0 3 (qS91 _ _ (qb87 _ _ hk76)) (by decide)).trans ((hg257 b36 5 0 3 (qS91 _ _ (qb87 _ _ hk76)) (by decide)).trans exc9)) ((hg263 b39 13 0 69 (qS91 _ _ (qb87 _ _ hs_y66)) (by decide)).trans ((hg257 b39 13 0 69 (qS91 _ _ (qb87 _ _ hs_y66)) (by decide)).trans emc9)) ((hg263 b38 0 0 2 (qS91 _ _ (qb87 _ _ hk78)) (by decide)).trans ((hg257 b38 0 0 2 (qS91 _ _ (qb87 _ _ hk78)) (by decide)).trans exb9)) ((hg263 b39 13 0 16 (qS91 _ _ (qb87 _ _ hs_y66)) (by decide)).trans ((hg257 b39 13 0 16 (qS91 _ _ (qb87 _ _ hs_y66)) (by decide)).trans emb9)) ((hg263 b1 12 0 16 (qS91 _ _ (qb87 _ _ hk68)) (by decide)).trans ((hg257 b1 12 0 16 (qS91 _ _ (qb87 _ _ hk68)) (by decide)).trans exsh9)) ((hg263 b39 13 0 89 (qS91 _ _ (qb87 _ _ hs_y66)) (by decide)).trans ((hg257 b39 13 0 89 (qS91 _ _ (qb87 _ _ hs_y66)) (by decide)).trans emsh9)) ((hg263 b1 12 0 17 (qS91 _ _ (qb87 _ _ hk68)) (by decide)).trans ((hg257 b1 12 0 17 (qS91 _ _ (qb87 _ _ hk68)) (by decide)).trans exsp9)) ((hg263 b39 13 0 90 (qS91 _ _ (qb87 _ _ hs_y66)) (by decide)).trans ((hg257 b39 13 0 90 (qS91 _ _ (qb87 _ _ hs_y66)) (by decide)).trans emsp9)) ((hg263 b39 13 0 17 (qS91 _ _ (qb87 _ _ hs_y66)) (by decide)).trans ((hg257 b39 13 0 17 (qS91 _ _ (qb87 _ _ hs_y66)) (by decide)).trans emsm9)) wn268 (by rw [(Eq.trans (xv_m hg263 (qS91 _ _ (qb87 _ _ hk72)) (by decide) (by decide)) (xv_m hg257 (qS91 _ _ (qb87 _ _ hk72)) (by decide) (by decide))), (Eq.trans (xv_m hg263 (qS91 _ _ (qb87 _ _ hk79)) (by decide) (by decide)) (xv_m hg257 (qS91 _ _ (qb87 _ _ hk79)) (by decide) (by decide)))]; exact wt9) (by rw [(Eq.trans (xv_m hg263 (qS91 _ _ (qb87 _ _ hk73)) (by decide) (by decide)) (xv_m hg257 (qS91 _ _ (qb87 _ _ hk73)) (by decide) (by decide))), (Eq.trans (xv_m hg263 (qS91 _ _ (qb87 _ _ hk80)) (by decide) (by decide)) (xv_m hg257 (qS91 _ _ (qb87 _ _ hk80)) (by decide) (by decide)))]; exact ld9) (by rw [(Eq.trans (xv_m hg263 (qS91 _ _ (qb87 _ _ hk71)) (by decide) (by decide)) (xv_m hg257 (qS91 _ _ (qb87 _ _ hk71)) (by decide) (by decide))), (Eq.trans (xv_m hg263 (qS91 _ _ (qb87 _ _ hs_b86)) (by decide) (by decide)) (xv_m hg257 (qS91 _ _ (qb87 _ _ hs_b86)) (by decide) (by decide)))]; exact sk9) (by rw [(Eq.trans (xv_m hg263 (qS91 _ _ (qb87 _ _ hs_b84)) (by decide) (by decide)) (xv_m hg257 (qS91 _ _ (qb87 _ _ hs_b84)) (by decide) (by decide))), (Eq.trans (xv_m hg263 (qS91 _ _ (qb87 _ _ hs_b85)) (by decide) (by decide)) (xv_m hg257 (qS91 _ _ (qb87 _ _ hs_b85)) (by decide) (by decide)))]; exact xTc.mono tc9 (by omega)) dc9 ds9 (by omega) (by omega) (by omega)
        · refine X_tableIn hK 630 10 (by decide) c96 (by decide) (by decide) dL_law_40 rfl (by decide) ?_
          refine X_aloadn hK (i := 1) 3 dL_law_630 rfl rfl ?_
          refine X_aloadn hK (i := 0) 4 dL_law_631 rfl rfl ?_
          refine X_iload hK (i := 4) 0 dL_law_632 rfl ?_
          refine X_iconst hK dL_law_634 ?_
          refine X_iadd hK dL_law_635 ?_
          refine X_scr hK hX hbl hbA hL (by omega) (by omega) dL_law_636 (fun z269 ez269 lz269 uz269 => ?_)
          refine X_aloadn hK (i := 0) 4 dL_law_637 rfl rfl ?_
          refine X_iload hK (i := 4) 0 dL_law_638 rfl ?_
          refine X_iconst hK dL_law_640 ?_
          refine X_iadd hK dL_law_641 ?_
          refine X_scr hK hX hbl hbA hL (by omega) (by omega) dL_law_642 (fun z270 ez270 lz270 uz270 => ?_)
          refine X_aloadn hK (i := 0) 4 dL_law_643 rfl rfl ?_
          refine X_iload hK (i := 4) 0 dL_law_644 rfl ?_
          refine X_iconst hK dL_law_646 ?_
          refine X_iadd hK dL_law_647 ?_
          refine X_scr hK hX hbl hbA hL (by omega) (by omega) dL_law_648 (fun z271 ez271 lz271 uz271 => ?_)
          refine X_aloadn hK (i := 0) 4 dL_law_649 rfl rfl ?_
          refine X_iload hK (i := 4) 0 dL_law_650 rfl ?_
          refine X_iconst hK dL_law_652 ?_
          refine X_iadd hK dL_law_653 ?_
          refine X_scr hK hX hbl hbA hL (by omega) (by omega) dL_law_654 (fun z272 ez272 lz272 uz272 => ?_)
          refine X_callV hK [.int (iI z269), .int (iI z270), .int (iI z271), .int (iI z272)] [] lk_L_69 (c_X11_asked _ _ _ _ _ S91 g92 b1 z269 z270 z271 z272 b19 b23 b21 b22 (qS91 _ _ (qb87 _ _ hk68)) (by omega) (by omega) (by omega) (by omega) el49 (qS91 _ _ (qb87 _ _ hk69)) el89 (qS91 _ _ (qb87 _ _ hk74)) el69 (qS91 _ _ (qb87 _ _ hk72)) el79 (qS91 _ _ (qb87 _ _ hk73))) (qS91 _ _ (qb87 _ _ hk68)) ⟨by decide, rfl⟩ dL_law_655 rfl rfl (by simp [Value.category]) (by decide) (by omega) (by omega) (by decide) (fun r273 S275 g274 pr273 qr273 hg274 => ?_)
          obtain ⟨rfl, rfl, z276, rfl, lz276, uz276, k277⟩ := pr273
          refine X_st [.int (iI z276)] rfl ?_
          refine X_pop hK dL_law_658 rfl ?_
          refine X_aloadn hK (i := 2) 2 dL_law_659 rfl rfl ?_
          refine X_aloadn hK (i := 0) 4 dL_law_660 rfl rfl ?_
          refine X_iload hK (i := 4) 0 dL_law_661 rfl ?_
          refine X_iconst hK dL_law_663 ?_
          refine X_iadd hK dL_law_664 ?_
          refine X_scrK hK hX hbl hbA hL (by omega) (by omega) ez269 dL_law_665 ?_
          refine X_aloadn hK (i := 0) 4 dL_law_666 rfl rfl ?_
          refine X_iload hK (i := 4) 0 dL_law_667 rfl ?_
          refine X_iconst hK dL_law_669 ?_
          refine X_iadd hK dL_law_670 ?_
          refine X_scrK hK hX hbl hbA hL (by omega) (by omega) ez270 dL_law_671 ?_
          refine X_aloadn hK (i := 0) 4 dL_law_672 rfl rfl ?_
          refine X_iload hK (i := 4) 0 dL_law_673 rfl ?_
          refine X_iconst hK dL_law_675 ?_
          refine X_iadd hK dL_law_676 ?_
          refine X_scrK hK hX hbl hbA hL (by omega) (by omega) ez271 dL_law_677 ?_
          refine X_aloadn hK (i := 0) 4 dL_law_678 rfl rfl ?_
          refine X_iload hK (i := 4) 0 dL_law_679 rfl ?_
          refine X_iconst hK dL_law_681 ?_
          refine X_iadd hK dL_law_682 ?_
          refine X_scrK hK hX hbl hbA hL (by omega) (by omega) ez272 dL_law_683 ?_
          refine X_callV hK [.int (iI z269), .int (iI z270), .int (iI z271), .int (iI z272)] [] lk_L_73 (c_X12_asked _ _ _ _ _ S91 g92 b39 z269 z270 z271 z272 b64 b62 b63 (qS91 _ _ (qb87 _ _ hs_y66)) (by omega) (by omega) (by omega) (by omega) el149 (qS91 _ _ (qb87 _ _ hk81)) el129 (qS91 _ _ (qb87 _ _ hk79)) el139 (qS91 _ _ (qb87 _ _ hk80))) (qS91 _ _ (qb87 _ _ hs_y66)) ⟨by decide, rfl⟩ dL_law_684 rfl rfl (by simp [Value.category]) (by decide) (by omega) (by omega) (by decide) (fun r278 S280 g279 pr278 qr278 hg279 => ?_)
          obtain ⟨rfl, z281, rfl, lz281, uz281, k282⟩ := pr278
          refine X_st [.int (iI z281)] rfl ?_
          refine X_pop hK dL_law_687 rfl ?_
          refine X_goto hK 1465 dL_law_688 (by decide) ?_
          refine X_iinc hK (i := 4) (z := i9) (n := 6) 0 [(4, .int (iI (i9 + 6))), (3, .ref b87), (2, .ref b39), (1, .ref b1), (0, .ref b)] dL_law_1465 rfl (by decide) rfl ?_
          refine X_goto hK 23 dL_law_1468 (by decide) ?_
          exact ih9 S91 qS91 g279 (i9 + 6) k9 t9 c9 b9 sh9 sp9 sm9 (by omega) (by omega) (by omega) (by omega) (by omega) (by omega) (by omega) (by omega) (xLs_mod al9 hg279 (by decide)) si9 (xPi_m pi9 hg279 xLe.rf (by decide)) (xMp_m mp9 hg279 xLe.rf (by decide)) (xTw_m tw9 hg279 xLe.rf (by decide)) (xTW_m tkw9 hg279 xLe.rf (by decide)) ((hg279 b1 12 0 0 (qS91 _ _ (qb87 _ _ hk68)) (by decide)).trans el09) ((hg279 b1 12 0 3 (qS91 _ _ (qb87 _ _ hk68)) (by decide)).trans el19) ((hg279 b1 12 0 1 (qS91 _ _ (qb87 _ _ hk68)) (by decide)).trans el29) ((hg279 b37 6 0 1 (qS91 _ _ (qb87 _ _ hk77)) (by decide)).trans el39) ((hg279 b1 12 0 2 (qS91 _ _ (qb87 _ _ hk68)) (by decide)).trans el49) ((hg279 b19 4 0 0 (qS91 _ _ (qb87 _ _ hk69)) (by decide)).trans el59) ((hg279 b19 4 0 2 (qS91 _ _ (qb87 _ _ hk69)) (by decide)).trans el69) ((hg279 b19 4 0 3 (qS91 _ _ (qb87 _ _ hk69)) (by decide)).trans el79) ((hg279 b19 4 0 4 (qS91 _ _ (qb87 _ _ hk69)) (by decide)).trans el89) ((hg279 b35 10 0 0 (qS91 _ _ (qb87 _ _ hk75)) (by decide)).trans el99) ((hg279 b39 13 0 1 (qS91 _ _ (qb87 _ _ hs_y66)) (by decide)).trans el109) ((hg279 b39 13 0 10 (qS91 _ _ (qb87 _ _ hs_y66)) (by decide)).trans el119) ((hg279 b39 13 0 13 (qS91 _ _ (qb87 _ _ hs_y66)) (by decide)).trans el129) ((hg279 b39 13 0 14 (qS91 _ _ (qb87 _ _ hs_y66)) (by decide)).trans el139) ((hg279 b39 13 0 12 (qS91 _ _ (qb87 _ _ hs_y66)) (by decide)).trans el149) ((hg279 b35 10 0 1 (qS91 _ _ (qb87 _ _ hk75)) (by decide)).trans exk9) ((hg279 b39 13 0 2 (qS91 _ _ (qb87 _ _ hs_y66)) (by decide)).trans emk9) ((hg279 b1 12 0 12 (qS91 _ _ (qb87 _ _ hk68)) (by decide)).trans ext9) ((hg279 b39 13 0 3 (qS91 _ _ (qb87 _ _ hs_y66)) (by decide)).trans emt9) ((hg279 b36 5 0 3 (qS91 _ _ (qb87 _ _ hk76)) (by decide)).trans exc9) ((hg279 b39 13 0 69 (qS91 _ _ (qb87 _ _ hs_y66)) (by decide)).trans emc9) ((hg279 b38 0 0 2 (qS91 _ _ (qb87 _ _ hk78)) (by decide)).trans exb9) ((hg279 b39 13 0 16 (qS91 _ _ (qb87 _ _ hs_y66)) (by decide)).trans emb9) ((hg279 b1 12 0 16 (qS91 _ _ (qb87 _ _ hk68)) (by decide)).trans exsh9) ((hg279 b39 13 0 89 (qS91 _ _ (qb87 _ _ hs_y66)) (by decide)).trans emsh9) ((hg279 b1 12 0 17 (qS91 _ _ (qb87 _ _ hk68)) (by decide)).trans exsp9) ((hg279 b39 13 0 90 (qS91 _ _ (qb87 _ _ hs_y66)) (by decide)).trans emsp9) ((hg279 b39 13 0 17 (qS91 _ _ (qb87 _ _ hs_y66)) (by decide)).trans emsm9) (xWn.m wn9 (qS91 _ _ (qb87 _ _ hk74)) (qS91 _ _ (qb87 _ _ hk81)) hg279 xLe.rf (by decide)) (by rw [(xv_m hg279 (qS91 _ _ (qb87 _ _ hk72)) (by decide) (by decide)), (xv_m hg279 (qS91 _ _ (qb87 _ _ hk79)) (by decide) (by decide))]; exact wt9) (by rw [(xv_m hg279 (qS91 _ _ (qb87 _ _ hk73)) (by decide) (by decide)), (xv_m hg279 (qS91 _ _ (qb87 _ _ hk80)) (by decide) (by decide))]; exact ld9) (by rw [(xv_m hg279 (qS91 _ _ (qb87 _ _ hk71)) (by decide) (by decide)), (xv_m hg279 (qS91 _ _ (qb87 _ _ hs_b86)) (by decide) (by decide))]; exact sk9) (by rw [(xv_m hg279 (qS91 _ _ (qb87 _ _ hs_b84)) (by decide) (by decide)), (xv_m hg279 (qS91 _ _ (qb87 _ _ hs_b85)) (by decide) (by decide))]; exact xTc.mono tc9 (by omega)) dc9 ds9 (by omega) (by omega) (by omega)
        · refine X_tableIn hK 691 11 (by decide) c96 (by decide) (by decide) dL_law_40 rfl (by decide) ?_
          refine X_aloadn hK (i := 1) 3 dL_law_691 rfl rfl ?_
          refine X_aloadn hK (i := 0) 4 dL_law_692 rfl rfl ?_
          refine X_iload hK (i := 4) 0 dL_law_693 rfl ?_
          refine X_iconst hK dL_law_695 ?_
          refine X_iadd hK dL_law_696 ?_
          refine X_scr hK hX hbl hbA hL (by omega) (by omega) dL_law_697 (fun z283 ez283 lz283 uz283 => ?_)
          refine X_aloadn hK (i := 0) 4 dL_law_698 rfl rfl ?_
          refine X_iload hK (i := 4) 0 dL_law_699 rfl ?_
          refine X_iconst hK dL_law_701 ?_
          refine X_iadd hK dL_law_702 ?_
          refine X_scr hK hX hbl hbA hL (by omega) (by omega) dL_law_703 (fun z284 ez284 lz284 uz284 => ?_)
          refine X_aloadn hK (i := 0) 4 dL_law_704 rfl rfl ?_
          refine X_iload hK (i := 4) 0 dL_law_705 rfl ?_
          refine X_iconst hK dL_law_707 ?_
          refine X_iadd hK dL_law_708 ?_
          refine X_scr hK hX hbl hbA hL (by omega) (by omega) dL_law_709 (fun z285 ez285 lz285 uz285 => ?_)
          refine X_callV hK [.int (iI z283), .int (iI z284), .int (iI z285)] [] lk_L_74 (c3_minutes _ _ _ _ _ S91 g92 b1 z283 z284 z285 nt9 Yt9 Qt9 (qS91 _ _ (qb87 _ _ hk68)) (by omega) (by omega) (by omega) rc9) (qS91 _ _ (qb87 _ _ hk68)) ⟨by decide, rfl⟩ dL_law_710 rfl rfl (by simp [Value.category]) (by decide) (by omega) (by omega) (by decide) (fun r286 S288 g287 pr286 qr286 hg287 => ?_)
          obtain ⟨rfl, z289, rfl, lz289, uz289, k290, k291⟩ := pr286
          refine X_st [.int (iI z289)] rfl ?_
          refine X_pop hK dL_law_713 rfl ?_
          refine X_aloadn hK (i := 2) 2 dL_law_714 rfl rfl ?_
          refine X_aloadn hK (i := 0) 4 dL_law_715 rfl rfl ?_
          refine X_iload hK (i := 4) 0 dL_law_716 rfl ?_
          refine X_iconst hK dL_law_718 ?_
          refine X_iadd hK dL_law_719 ?_
          refine X_scrK hK hX hbl hbA hL (by omega) (by omega) ez283 dL_law_720 ?_
          refine X_aloadn hK (i := 0) 4 dL_law_721 rfl rfl ?_
          refine X_iload hK (i := 4) 0 dL_law_722 rfl ?_
          refine X_iconst hK dL_law_724 ?_
          refine X_iadd hK dL_law_725 ?_
          refine X_scrK hK hX hbl hbA hL (by omega) (by omega) ez284 dL_law_726 ?_
          refine X_aloadn hK (i := 0) 4 dL_law_727 rfl rfl ?_
          refine X_iload hK (i := 4) 0 dL_law_728 rfl ?_
          refine X_iconst hK dL_law_730 ?_
          refine X_iadd hK dL_law_731 ?_
          refine X_scrK hK hX hbl hbA hL (by omega) (by omega) ez285 dL_law_732 ?_
          refine X_callV hK [.int (iI z283), .int (iI z284), .int (iI z285)] [] lk_L_77 (c3_mminutes _ _ _ _ _ S91 g287 b39 z283 z284 z285 nt9 Ym9 Qt9 (qS91 _ _ (qb87 _ _ hs_y66)) (by omega) (by omega) (by omega) (xRm_m rm9 hg287 xLe.rf (by decide))) (qS91 _ _ (qb87 _ _ hs_y66)) ⟨by decide, rfl⟩ dL_law_733 rfl rfl (by simp [Value.category]) (by decide) (by omega) (by omega) (by decide) (fun r292 S294 g293 pr292 qr292 hg293 => ?_)
          obtain ⟨rfl, z295, rfl, lz295, uz295, k296, k297⟩ := pr292
          refine X_st [.int (iI z295)] rfl ?_
          have hq9 : z289 = z295 := xbeq k290 k296 Iff.rfl (by omega) (by omega)
          refine X_pop hK dL_law_736 rfl ?_
          refine X_goto hK 1465 dL_law_737 (by decide) ?_
          refine X_iinc hK (i := 4) (z := i9) (n := 6) 0 [(4, .int (iI (i9 + 6))), (3, .ref b87), (2, .ref b39), (1, .ref b1), (0, .ref b)] dL_law_1465 rfl (by decide) rfl ?_
          refine X_goto hK 23 dL_law_1468 (by decide) ?_
          exact ih9 S91 qS91 g293 (i9 + 6) k9 t9 c9 b9 sh9 sp9 sm9 (by omega) (by omega) (by omega) (by omega) (by omega) (by omega) (by omega) (by omega) (xLs_mod (xLs_mod al9 hg287 (by decide)) hg293 (by decide)) si9 (xPi_m (xPi_m pi9 hg287 xLe.rf (by decide)) hg293 xLe.rf (by decide)) (xMp_m (xMp_m mp9 hg287 xLe.rf (by decide)) hg293 xLe.rf (by decide)) (xTw_m (xTw_m tw9 hg287 xLe.rf (by decide)) hg293 xLe.rf (by decide)) (show xTW S91 g293 b1 b39 from ⟨nt9, Yt9, Ym9, _, (xRc_m k291 hg293 xLe.rf (by decide)), (by rw [hq9]; exact k297), at9⟩) ((hg293 b1 12 0 0 (qS91 _ _ (qb87 _ _ hk68)) (by decide)).trans ((hg287 b1 12 0 0 (qS91 _ _ (qb87 _ _ hk68)) (by decide)).trans el09)) ((hg293 b1 12 0 3 (qS91 _ _ (qb87 _ _ hk68)) (by decide)).trans ((hg287 b1 12 0 3 (qS91 _ _ (qb87 _ _ hk68)) (by decide)).trans el19)) ((hg293 b1 12 0 1 (qS91 _ _ (qb87 _ _ hk68)) (by decide)).trans ((hg287 b1 12 0 1 (qS91 _ _ (qb87 _ _ hk68)) (by decide)).trans el29)) ((hg293 b37 6 0 1 (qS91 _ _ (qb87 _ _ hk77)) (by decide)).trans ((hg287 b37 6 0 1 (qS91 _ _ (qb87 _ _ hk77)) (by decide)).trans el39)) ((hg293 b1 12 0 2 (qS91 _ _ (qb87 _ _ hk68)) (by decide)).trans ((hg287 b1 12 0 2 (qS91 _ _ (qb87 _ _ hk68)) (by decide)).trans el49)) ((hg293 b19 4 0 0 (qS91 _ _ (qb87 _ _ hk69)) (by decide)).trans ((hg287 b19 4 0 0 (qS91 _ _ (qb87 _ _ hk69)) (by decide)).trans el59)) ((hg293 b19 4 0 2 (qS91 _ _ (qb87 _ _ hk69)) (by decide)).trans ((hg287 b19 4 0 2 (qS91 _ _ (qb87 _ _ hk69)) (by decide)).trans el69)) ((hg293 b19 4 0 3 (qS91 _ _ (qb87 _ _ hk69)) (by decide)).trans ((hg287 b19 4 0 3 (qS91 _ _ (qb87 _ _ hk69)) (by decide)).trans el79)) ((hg293 b19 4 0 4 (qS91 _ _ (qb87 _ _ hk69)) (by decide)).trans ((hg287 b19 4 0 4 (qS91 _ _ (qb87 _ _ hk69)) (by decide)).trans el89)) ((hg293 b35 10 0 0 (qS91 _ _ (qb87 _ _ hk75)) (by decide)).trans ((hg287 b35 10 0 0 (qS91 _ _ (qb87 _ _ hk75)) (by decide)).trans el99)) ((hg293 b39 13 0 1 (qS91 _ _ (qb87 _ _ hs_y66)) (by decide)).trans ((hg287 b39 13 0 1 (qS91 _ _ (qb87 _ _ hs_y66)) (by decide)).trans el109)) ((hg293 b39 13 0 10 (qS91 _ _ (qb87 _ _ hs_y66)) (by decide)).trans ((hg287 b39 13 0 10 (qS91 _ _ (qb87 _ _ hs_y66)) (by decide)).trans el119)) ((hg293 b39 13 0 13 (qS91 _ _ (qb87 _ _ hs_y66)) (by decide)).trans ((hg287 b39 13 0 13 (qS91 _ _ (qb87 _ _ hs_y66)) (by decide)).trans el129)) ((hg293 b39 13 0 14 (qS91 _ _ (qb87 _ _ hs_y66)) (by decide)).trans ((hg287 b39 13 0 14 (qS91 _ _ (qb87 _ _ hs_y66)) (by decide)).trans el139)) ((hg293 b39 13 0 12 (qS91 _ _ (qb87 _ _ hs_y66)) (by decide)).trans ((hg287 b39 13 0 12 (qS91 _ _ (qb87 _ _ hs_y66)) (by decide)).trans el149)) ((hg293 b35 10 0 1 (qS91 _ _ (qb87 _ _ hk75)) (by decide)).trans ((hg287 b35 10 0 1 (qS91 _ _ (qb87 _ _ hk75)) (by decide)).trans exk9)) ((hg293 b39 13 0 2 (qS91 _ _ (qb87 _ _ hs_y66)) (by decide)).trans ((hg287 b39 13 0 2 (qS91 _ _ (qb87 _ _ hs_y66)) (by decide)).trans emk9)) ((hg293 b1 12 0 12 (qS91 _ _ (qb87 _ _ hk68)) (by decide)).trans ((hg287 b1 12 0 12 (qS91 _ _ (qb87 _ _ hk68)) (by decide)).trans ext9)) ((hg293 b39 13 0 3 (qS91 _ _ (qb87 _ _ hs_y66)) (by decide)).trans ((hg287 b39 13 0 3 (qS91 _ _ (qb87 _ _ hs_y66)) (by decide)).trans emt9)) ((hg293 b36 5 0 3 (qS91 _ _ (qb87 _ _ hk76)) (by decide)).trans ((hg287 b36 5 0 3 (qS91 _ _ (qb87 _ _ hk76)) (by decide)).trans exc9)) ((hg293 b39 13 0 69 (qS91 _ _ (qb87 _ _ hs_y66)) (by decide)).trans ((hg287 b39 13 0 69 (qS91 _ _ (qb87 _ _ hs_y66)) (by decide)).trans emc9)) ((hg293 b38 0 0 2 (qS91 _ _ (qb87 _ _ hk78)) (by decide)).trans ((hg287 b38 0 0 2 (qS91 _ _ (qb87 _ _ hk78)) (by decide)).trans exb9)) ((hg293 b39 13 0 16 (qS91 _ _ (qb87 _ _ hs_y66)) (by decide)).trans ((hg287 b39 13 0 16 (qS91 _ _ (qb87 _ _ hs_y66)) (by decide)).trans emb9)) ((hg293 b1 12 0 16 (qS91 _ _ (qb87 _ _ hk68)) (by decide)).trans ((hg287 b1 12 0 16 (qS91 _ _ (qb87 _ _ hk68)) (by decide)).trans exsh9)) ((hg293 b39 13 0 89 (qS91 _ _ (qb87 _ _ hs_y66)) (by decide)).trans ((hg287 b39 13 0 89 (qS91 _ _ (qb87 _ _ hs_y66)) (by decide)).trans emsh9)) ((hg293 b1 12 0 17 (qS91 _ _ (qb87 _ _ hk68)) (by decide)).trans ((hg287 b1 12 0 17 (qS91 _ _ (qb87 _ _ hk68)) (by decide)).trans exsp9)) ((hg293 b39 13 0 90 (qS91 _ _ (qb87 _ _ hs_y66)) (by decide)).trans ((hg287 b39 13 0 90 (qS91 _ _ (qb87 _ _ hs_y66)) (by decide)).trans emsp9)) ((hg293 b39 13 0 17 (qS91 _ _ (qb87 _ _ hs_y66)) (by decide)).trans ((hg287 b39 13 0 17 (qS91 _ _ (qb87 _ _ hs_y66)) (by decide)).trans emsm9)) (xWn.m (xWn.m wn9 (qS91 _ _ (qb87 _ _ hk74)) (qS91 _ _ (qb87 _ _ hk81)) hg287 xLe.rf (by decide)) (qS91 _ _ (qb87 _ _ hk74)) (qS91 _ _ (qb87 _ _ hk81)) hg293 xLe.rf (by decide)) (by rw [(Eq.trans (xv_m hg293 (qS91 _ _ (qb87 _ _ hk72)) (by decide) (by decide)) (xv_m hg287 (qS91 _ _ (qb87 _ _ hk72)) (by decide) (by decide))), (Eq.trans (xv_m hg293 (qS91 _ _ (qb87 _ _ hk79)) (by decide) (by decide)) (xv_m hg287 (qS91 _ _ (qb87 _ _ hk79)) (by decide) (by decide)))]; exact wt9) (by rw [(Eq.trans (xv_m hg293 (qS91 _ _ (qb87 _ _ hk73)) (by decide) (by decide)) (xv_m hg287 (qS91 _ _ (qb87 _ _ hk73)) (by decide) (by decide))), (Eq.trans (xv_m hg293 (qS91 _ _ (qb87 _ _ hk80)) (by decide) (by decide)) (xv_m hg287 (qS91 _ _ (qb87 _ _ hk80)) (by decide) (by decide)))]; exact ld9) (by rw [(Eq.trans (xv_m hg293 (qS91 _ _ (qb87 _ _ hk71)) (by decide) (by decide)) (xv_m hg287 (qS91 _ _ (qb87 _ _ hk71)) (by decide) (by decide))), (Eq.trans (xv_m hg293 (qS91 _ _ (qb87 _ _ hs_b86)) (by decide) (by decide)) (xv_m hg287 (qS91 _ _ (qb87 _ _ hs_b86)) (by decide) (by decide)))]; exact sk9) (by rw [(Eq.trans (xv_m hg293 (qS91 _ _ (qb87 _ _ hs_b84)) (by decide) (by decide)) (xv_m hg287 (qS91 _ _ (qb87 _ _ hs_b84)) (by decide) (by decide))), (Eq.trans (xv_m hg293 (qS91 _ _ (qb87 _ _ hs_b85)) (by decide) (by decide)) (xv_m hg287 (qS91 _ _ (qb87 _ _ hs_b85)) (by decide) (by decide)))]; exact xTc.mono tc9 (by omega)) dc9 ds9 (by omega) (by omega) (by omega)
        · refine X_tableIn hK 740 12 (by decide) c96 (by decide) (by decide) dL_law_40 rfl (by decide) ?_
          refine X_aloadn hK (i := 1) 3 dL_law_740 rfl rfl ?_
          refine X_aloadn hK (i := 0) 4 dL_law_741 rfl rfl ?_
          refine X_iload hK (i := 4) 0 dL_law_742 rfl ?_
          refine X_iconst hK dL_law_744 ?_
          refine X_iadd hK dL_law_745 ?_
          refine X_scr hK hX hbl hbA hL (by omega) (by omega) dL_law_746 (fun z299 ez299 lz299 uz299 => ?_)
          refine X_callVU hK [.int (iI z299)] [] lk_L_78 (c_X11_terms _ _ _ _ _ S91 g92 b1 z299 b35 k9 (qS91 _ _ (qb87 _ _ hk68)) (by omega) el09 (qS91 _ _ (qb87 _ _ hk75)) (by omega) exk9 al9 si9) (qS91 _ _ (qb87 _ _ hk68)) ⟨by decide, rfl⟩ dL_law_747 rfl rfl (by simp [Value.category]) (by decide) (by omega) (by omega) (by decide) (fun r300 S302 g301 dcr300 dsr300 pr300 qr300 hg301 => ?_)
          obtain ⟨wr300, z303, rfl, lz303, uz303, k304, k305, k306, k307⟩ := pr300
          refine X_st [.int (iI z303)] rfl ?_
          refine X_pop hK dL_law_750 rfl ?_
          refine X_aloadn hK (i := 2) 2 dL_law_751 rfl rfl ?_
          refine X_aloadn hK (i := 0) 4 dL_law_752 rfl rfl ?_
          refine X_iload hK (i := 4) 0 dL_law_753 rfl ?_
          refine X_iconst hK dL_law_755 ?_
          refine X_iadd hK dL_law_756 ?_
          refine X_scrK hK hX hbl hbA hL (by omega) (by omega) ez299 dL_law_757 ?_
          refine X_callV hK [.int (iI z299)] [] lk_L_81 (c_X12_terms _ _ _ _ _ S302 g301 b39 z299 k9 (qr300 _ _ (qS91 _ _ (qb87 _ _ hs_y66))) (by omega) (by omega) ((hg301 b39 13 0 2 (qS91 _ _ (qb87 _ _ hs_y66)) (by decide)).trans emk9) (xTw_m tw9 hg301 qr300 (by decide))) (qr300 _ _ (qS91 _ _ (qb87 _ _ hs_y66))) ⟨by decide, rfl⟩ dL_law_758 rfl rfl (by simp [Value.category]) (by decide) (by omega) (by omega) (by decide) (fun r308 S310 g309 pr308 qr308 hg309 => ?_)
          obtain ⟨rfl, z311, rfl, lz311, uz311, k312, k313⟩ := pr308
          refine X_st [.int (iI z311)] rfl ?_
          refine X_pop hK dL_law_761 rfl ?_
          refine X_goto hK 1465 dL_law_762 (by decide) ?_
          refine X_iinc hK (i := 4) (z := i9) (n := 6) 0 [(4, .int (iI (i9 + 6))), (3, .ref b87), (2, .ref b39), (1, .ref b1), (0, .ref b)] dL_law_1465 rfl (by decide) rfl ?_
          refine X_goto hK 23 dL_law_1468 (by decide) ?_
          exact ih9 S302 (xLe.tr qS91 qr300) g309 (i9 + 6) (0) t9 c9 b9 sh9 sp9 sm9 (by omega) (by omega) (by omega) (by omega) (by omega) (by omega) (by omega) (by omega) (xLs_mod k304 hg309 (by decide)) k305 (xPi_m (xPi_m pi9 hg301 qr300 (by decide)) hg309 xLe.rf (by decide)) (xMp_m (xMp_m mp9 hg301 qr300 (by decide)) hg309 xLe.rf (by decide)) k313 (xTW_m (xTW_m tkw9 hg301 qr300 (by decide)) hg309 xLe.rf (by decide)) ((hg309 b1 12 0 0 (qr300 _ _ (qS91 _ _ (qb87 _ _ hk68))) (by decide)).trans ((hg301 b1 12 0 0 (qS91 _ _ (qb87 _ _ hk68)) (by decide)).trans el09)) ((hg309 b1 12 0 3 (qr300 _ _ (qS91 _ _ (qb87 _ _ hk68))) (by decide)).trans ((hg301 b1 12 0 3 (qS91 _ _ (qb87 _ _ hk68)) (by decide)).trans el19)) ((hg309 b1 12 0 1 (qr300 _ _ (qS91 _ _ (qb87 _ _ hk68))) (by decide)).trans ((hg301 b1 12 0 1 (qS91 _ _ (qb87 _ _ hk68)) (by decide)).trans el29)) ((hg309 b37 6 0 1 (qr300 _ _ (qS91 _ _ (qb87 _ _ hk77))) (by decide)).trans ((hg301 b37 6 0 1 (qS91 _ _ (qb87 _ _ hk77)) (by decide)).trans el39)) ((hg309 b1 12 0 2 (qr300 _ _ (qS91 _ _ (qb87 _ _ hk68))) (by decide)).trans ((hg301 b1 12 0 2 (qS91 _ _ (qb87 _ _ hk68)) (by decide)).trans el49)) ((hg309 b19 4 0 0 (qr300 _ _ (qS91 _ _ (qb87 _ _ hk69))) (by decide)).trans ((hg301 b19 4 0 0 (qS91 _ _ (qb87 _ _ hk69)) (by decide)).trans el59)) ((hg309 b19 4 0 2 (qr300 _ _ (qS91 _ _ (qb87 _ _ hk69))) (by decide)).trans ((hg301 b19 4 0 2 (qS91 _ _ (qb87 _ _ hk69)) (by decide)).trans el69)) ((hg309 b19 4 0 3 (qr300 _ _ (qS91 _ _ (qb87 _ _ hk69))) (by decide)).trans ((hg301 b19 4 0 3 (qS91 _ _ (qb87 _ _ hk69)) (by decide)).trans el79)) ((hg309 b19 4 0 4 (qr300 _ _ (qS91 _ _ (qb87 _ _ hk69))) (by decide)).trans ((hg301 b19 4 0 4 (qS91 _ _ (qb87 _ _ hk69)) (by decide)).trans el89)) ((hg309 b35 10 0 0 (qr300 _ _ (qS91 _ _ (qb87 _ _ hk75))) (by decide)).trans ((hg301 b35 10 0 0 (qS91 _ _ (qb87 _ _ hk75)) (by decide)).trans el99)) ((hg309 b39 13 0 1 (qr300 _ _ (qS91 _ _ (qb87 _ _ hs_y66))) (by decide)).trans ((hg301 b39 13 0 1 (qS91 _ _ (qb87 _ _ hs_y66)) (by decide)).trans el109)) ((hg309 b39 13 0 10 (qr300 _ _ (qS91 _ _ (qb87 _ _ hs_y66))) (by decide)).trans ((hg301 b39 13 0 10 (qS91 _ _ (qb87 _ _ hs_y66)) (by decide)).trans el119)) ((hg309 b39 13 0 13 (qr300 _ _ (qS91 _ _ (qb87 _ _ hs_y66))) (by decide)).trans ((hg301 b39 13 0 13 (qS91 _ _ (qb87 _ _ hs_y66)) (by decide)).trans el129)) ((hg309 b39 13 0 14 (qr300 _ _ (qS91 _ _ (qb87 _ _ hs_y66))) (by decide)).trans ((hg301 b39 13 0 14 (qS91 _ _ (qb87 _ _ hs_y66)) (by decide)).trans el139)) ((hg309 b39 13 0 12 (qr300 _ _ (qS91 _ _ (qb87 _ _ hs_y66))) (by decide)).trans ((hg301 b39 13 0 12 (qS91 _ _ (qb87 _ _ hs_y66)) (by decide)).trans el149)) ((hg309 b35 10 0 1 (qr300 _ _ (qS91 _ _ (qb87 _ _ hk75))) (by decide)).trans k307) k312 ((hg309 b1 12 0 12 (qr300 _ _ (qS91 _ _ (qb87 _ _ hk68))) (by decide)).trans ((hg301 b1 12 0 12 (qS91 _ _ (qb87 _ _ hk68)) (by decide)).trans ext9)) ((hg309 b39 13 0 3 (qr300 _ _ (qS91 _ _ (qb87 _ _ hs_y66))) (by decide)).trans ((hg301 b39 13 0 3 (qS91 _ _ (qb87 _ _ hs_y66)) (by decide)).trans emt9)) ((hg309 b36 5 0 3 (qr300 _ _ (qS91 _ _ (qb87 _ _ hk76))) (by decide)).trans ((hg301 b36 5 0 3 (qS91 _ _ (qb87 _ _ hk76)) (by decide)).trans exc9)) ((hg309 b39 13 0 69 (qr300 _ _ (qS91 _ _ (qb87 _ _ hs_y66))) (by decide)).trans ((hg301 b39 13 0 69 (qS91 _ _ (qb87 _ _ hs_y66)) (by decide)).trans emc9)) ((hg309 b38 0 0 2 (qr300 _ _ (qS91 _ _ (qb87 _ _ hk78))) (by decide)).trans ((hg301 b38 0 0 2 (qS91 _ _ (qb87 _ _ hk78)) (by decide)).trans exb9)) ((hg309 b39 13 0 16 (qr300 _ _ (qS91 _ _ (qb87 _ _ hs_y66))) (by decide)).trans ((hg301 b39 13 0 16 (qS91 _ _ (qb87 _ _ hs_y66)) (by decide)).trans emb9)) ((hg309 b1 12 0 16 (qr300 _ _ (qS91 _ _ (qb87 _ _ hk68))) (by decide)).trans ((hg301 b1 12 0 16 (qS91 _ _ (qb87 _ _ hk68)) (by decide)).trans exsh9)) ((hg309 b39 13 0 89 (qr300 _ _ (qS91 _ _ (qb87 _ _ hs_y66))) (by decide)).trans ((hg301 b39 13 0 89 (qS91 _ _ (qb87 _ _ hs_y66)) (by decide)).trans emsh9)) ((hg309 b1 12 0 17 (qr300 _ _ (qS91 _ _ (qb87 _ _ hk68))) (by decide)).trans ((hg301 b1 12 0 17 (qS91 _ _ (qb87 _ _ hk68)) (by decide)).trans exsp9)) ((hg309 b39 13 0 90 (qr300 _ _ (qS91 _ _ (qb87 _ _ hs_y66))) (by decide)).trans ((hg301 b39 13 0 90 (qS91 _ _ (qb87 _ _ hs_y66)) (by decide)).trans emsp9)) ((hg309 b39 13 0 17 (qr300 _ _ (qS91 _ _ (qb87 _ _ hs_y66))) (by decide)).trans ((hg301 b39 13 0 17 (qS91 _ _ (qb87 _ _ hs_y66)) (by decide)).trans emsm9)) (xWn.m (xWn.m wn9 (qS91 _ _ (qb87 _ _ hk74)) (qS91 _ _ (qb87 _ _ hk81)) hg301 qr300 (by decide)) (qr300 _ _ (qS91 _ _ (qb87 _ _ hk74))) (qr300 _ _ (qS91 _ _ (qb87 _ _ hk81))) hg309 xLe.rf (by decide)) (by rw [(Eq.trans (xv_m hg309 (qr300 _ _ (qS91 _ _ (qb87 _ _ hk72))) (by decide) (by decide)) (xv_m hg301 (qS91 _ _ (qb87 _ _ hk72)) (by decide) (by decide))), (Eq.trans (xv_m hg309 (qr300 _ _ (qS91 _ _ (qb87 _ _ hk79))) (by decide) (by decide)) (xv_m hg301 (qS91 _ _ (qb87 _ _ hk79)) (by decide) (by decide)))]; exact wt9) (by rw [(Eq.trans (xv_m hg309 (qr300 _ _ (qS91 _ _ (qb87 _ _ hk73))) (by decide) (by decide)) (xv_m hg301 (qS91 _ _ (qb87 _ _ hk73)) (by decide) (by decide))), (Eq.trans (xv_m hg309 (qr300 _ _ (qS91 _ _ (qb87 _ _ hk80))) (by decide) (by decide)) (xv_m hg301 (qS91 _ _ (qb87 _ _ hk80)) (by decide) (by decide)))]; exact ld9) (by rw [(Eq.trans (xv_m hg309 (qr300 _ _ (qS91 _ _ (qb87 _ _ hk71))) (by decide) (by decide)) (xv_m hg301 (qS91 _ _ (qb87 _ _ hk71)) (by decide) (by decide))), (Eq.trans (xv_m hg309 (qr300 _ _ (qS91 _ _ (qb87 _ _ hs_b86))) (by decide) (by decide)) (xv_m hg301 (qS91 _ _ (qb87 _ _ hs_b86)) (by decide) (by decide)))]; exact sk9) (by rw [(Eq.trans (xv_m hg309 (qr300 _ _ (qS91 _ _ (qb87 _ _ hs_b84))) (by decide) (by decide)) (xv_m hg301 (qS91 _ _ (qb87 _ _ hs_b84)) (by decide) (by decide))), (Eq.trans (xv_m hg309 (qr300 _ _ (qS91 _ _ (qb87 _ _ hs_b85))) (by decide) (by decide)) (xv_m hg301 (qS91 _ _ (qb87 _ _ hs_b85)) (by decide) (by decide)))]; exact xTc.mono tc9 (by omega)) (dc9 + dcr300) (ds9 + dsr300) (by omega) (by omega) (by omega)
        · refine X_tableIn hK 765 13 (by decide) c96 (by decide) (by decide) dL_law_40 rfl (by decide) ?_
          refine X_aloadn hK (i := 1) 3 dL_law_765 rfl rfl ?_
          refine X_callV hK [] [] lk_L_82 (c_X11_fault _ _ _ _ _ S91 g92 b1 (qS91 _ _ (qb87 _ _ hk68))) (qS91 _ _ (qb87 _ _ hk68)) ⟨by decide, rfl⟩ dL_law_766 rfl rfl (by simp [Value.category]) (by decide) (by omega) (by omega) (by decide) (fun r314 S316 g315 pr314 qr314 hg315 => ?_)
          obtain ⟨rfl, rfl, z317, rfl, lz317, uz317⟩ := pr314
          refine X_st [.int (iI z317)] rfl ?_
          refine X_pop hK dL_law_769 rfl ?_
          refine X_aloadn hK (i := 2) 2 dL_law_770 rfl rfl ?_
          refine X_callV hK [] [] lk_L_86 (c_X12_fault _ _ _ _ _ S91 g92 b39 (qS91 _ _ (qb87 _ _ hs_y66))) (qS91 _ _ (qb87 _ _ hs_y66)) ⟨by decide, rfl⟩ dL_law_771 rfl rfl (by simp [Value.category]) (by decide) (by omega) (by omega) (by decide) (fun r318 S320 g319 pr318 qr318 hg319 => ?_)
          obtain ⟨rfl, z321, rfl, lz321, uz321⟩ := pr318
          refine X_st [.int (iI z321)] rfl ?_
          refine X_pop hK dL_law_774 rfl ?_
          refine X_goto hK 1465 dL_law_775 (by decide) ?_
          refine X_iinc hK (i := 4) (z := i9) (n := 6) 0 [(4, .int (iI (i9 + 6))), (3, .ref b87), (2, .ref b39), (1, .ref b1), (0, .ref b)] dL_law_1465 rfl (by decide) rfl ?_
          refine X_goto hK 23 dL_law_1468 (by decide) ?_
          exact ih9 S91 qS91 g319 (i9 + 6) k9 t9 c9 b9 sh9 sp9 sm9 (by omega) (by omega) (by omega) (by omega) (by omega) (by omega) (by omega) (by omega) (xLs_mod al9 hg319 (by decide)) si9 (xPi_m pi9 hg319 xLe.rf (by decide)) (xMp_m mp9 hg319 xLe.rf (by decide)) (xTw_m tw9 hg319 xLe.rf (by decide)) (xTW_m tkw9 hg319 xLe.rf (by decide)) ((hg319 b1 12 0 0 (qS91 _ _ (qb87 _ _ hk68)) (by decide)).trans el09) ((hg319 b1 12 0 3 (qS91 _ _ (qb87 _ _ hk68)) (by decide)).trans el19) ((hg319 b1 12 0 1 (qS91 _ _ (qb87 _ _ hk68)) (by decide)).trans el29) ((hg319 b37 6 0 1 (qS91 _ _ (qb87 _ _ hk77)) (by decide)).trans el39) ((hg319 b1 12 0 2 (qS91 _ _ (qb87 _ _ hk68)) (by decide)).trans el49) ((hg319 b19 4 0 0 (qS91 _ _ (qb87 _ _ hk69)) (by decide)).trans el59) ((hg319 b19 4 0 2 (qS91 _ _ (qb87 _ _ hk69)) (by decide)).trans el69) ((hg319 b19 4 0 3 (qS91 _ _ (qb87 _ _ hk69)) (by decide)).trans el79) ((hg319 b19 4 0 4 (qS91 _ _ (qb87 _ _ hk69)) (by decide)).trans el89) ((hg319 b35 10 0 0 (qS91 _ _ (qb87 _ _ hk75)) (by decide)).trans el99) ((hg319 b39 13 0 1 (qS91 _ _ (qb87 _ _ hs_y66)) (by decide)).trans el109) ((hg319 b39 13 0 10 (qS91 _ _ (qb87 _ _ hs_y66)) (by decide)).trans el119) ((hg319 b39 13 0 13 (qS91 _ _ (qb87 _ _ hs_y66)) (by decide)).trans el129) ((hg319 b39 13 0 14 (qS91 _ _ (qb87 _ _ hs_y66)) (by decide)).trans el139) ((hg319 b39 13 0 12 (qS91 _ _ (qb87 _ _ hs_y66)) (by decide)).trans el149) ((hg319 b35 10 0 1 (qS91 _ _ (qb87 _ _ hk75)) (by decide)).trans exk9) ((hg319 b39 13 0 2 (qS91 _ _ (qb87 _ _ hs_y66)) (by decide)).trans emk9) ((hg319 b1 12 0 12 (qS91 _ _ (qb87 _ _ hk68)) (by decide)).trans ext9) ((hg319 b39 13 0 3 (qS91 _ _ (qb87 _ _ hs_y66)) (by decide)).trans emt9) ((hg319 b36 5 0 3 (qS91 _ _ (qb87 _ _ hk76)) (by decide)).trans exc9) ((hg319 b39 13 0 69 (qS91 _ _ (qb87 _ _ hs_y66)) (by decide)).trans emc9) ((hg319 b38 0 0 2 (qS91 _ _ (qb87 _ _ hk78)) (by decide)).trans exb9) ((hg319 b39 13 0 16 (qS91 _ _ (qb87 _ _ hs_y66)) (by decide)).trans emb9) ((hg319 b1 12 0 16 (qS91 _ _ (qb87 _ _ hk68)) (by decide)).trans exsh9) ((hg319 b39 13 0 89 (qS91 _ _ (qb87 _ _ hs_y66)) (by decide)).trans emsh9) ((hg319 b1 12 0 17 (qS91 _ _ (qb87 _ _ hk68)) (by decide)).trans exsp9) ((hg319 b39 13 0 90 (qS91 _ _ (qb87 _ _ hs_y66)) (by decide)).trans emsp9) ((hg319 b39 13 0 17 (qS91 _ _ (qb87 _ _ hs_y66)) (by decide)).trans emsm9) (xWn.m wn9 (qS91 _ _ (qb87 _ _ hk74)) (qS91 _ _ (qb87 _ _ hk81)) hg319 xLe.rf (by decide)) (by rw [(xv_m hg319 (qS91 _ _ (qb87 _ _ hk72)) (by decide) (by decide)), (xv_m hg319 (qS91 _ _ (qb87 _ _ hk79)) (by decide) (by decide))]; exact wt9) (by rw [(xv_m hg319 (qS91 _ _ (qb87 _ _ hk73)) (by decide) (by decide)), (xv_m hg319 (qS91 _ _ (qb87 _ _ hk80)) (by decide) (by decide))]; exact ld9) (by rw [(xv_m hg319 (qS91 _ _ (qb87 _ _ hk71)) (by decide) (by decide)), (xv_m hg319 (qS91 _ _ (qb87 _ _ hs_b86)) (by decide) (by decide))]; exact sk9) (by rw [(xv_m hg319 (qS91 _ _ (qb87 _ _ hs_b84)) (by decide) (by decide)), (xv_m hg319 (qS91 _ _ (qb87 _ _ hs_b85)) (by decide) (by decide))]; exact xTc.mono tc9 (by omega)) dc9 ds9 (by omega) (by omega) (by omega)
        · refine X_tableIn hK 778 14 (by decide) c96 (by decide) (by decide) dL_law_40 rfl (by decide) ?_
          refine X_aloadn hK (i := 1) 3 dL_law_778 rfl rfl ?_
          refine X_aloadn hK (i := 0) 4 dL_law_779 rfl rfl ?_
          refine X_iload hK (i := 4) 0 dL_law_780 rfl ?_
          refine X_iconst hK dL_law_782 ?_
          refine X_iadd hK dL_law_783 ?_
          refine X_scr hK hX hbl hbA hL (by omega) (by omega) dL_law_784 (fun z322 ez322 lz322 uz322 => ?_)
          refine X_aloadn hK (i := 0) 4 dL_law_785 rfl rfl ?_
          refine X_iload hK (i := 4) 0 dL_law_786 rfl ?_
          refine X_iconst hK dL_law_788 ?_
          refine X_iadd hK dL_law_789 ?_
          refine X_scr hK hX hbl hbA hL (by omega) (by omega) dL_law_790 (fun z323 ez323 lz323 uz323 => ?_)
          refine X_aloadn hK (i := 0) 4 dL_law_791 rfl rfl ?_
          refine X_iload hK (i := 4) 0 dL_law_792 rfl ?_
          refine X_iconst hK dL_law_794 ?_
          refine X_iadd hK dL_law_795 ?_
          refine X_scr hK hX hbl hbA hL (by omega) (by omega) dL_law_796 (fun z324 ez324 lz324 uz324 => ?_)
          refine X_aloadn hK (i := 0) 4 dL_law_797 rfl rfl ?_
          refine X_iload hK (i := 4) 0 dL_law_798 rfl ?_
          refine X_iconst hK dL_law_800 ?_
          refine X_iadd hK dL_law_801 ?_
          refine X_scr hK hX hbl hbA hL (by omega) (by omega) dL_law_802 (fun z325 ez325 lz325 uz325 => ?_)
          refine X_aloadn hK (i := 0) 4 dL_law_803 rfl rfl ?_
          refine X_iload hK (i := 4) 0 dL_law_804 rfl ?_
          refine X_iconst hK dL_law_806 ?_
          refine X_iadd hK dL_law_807 ?_
          refine X_scr hK hX hbl hbA hL (by omega) (by omega) dL_law_808 (fun z326 ez326 lz326 uz326 => ?_)
          refine X_callVU hK [.int (iI z322), .int (iI z323), .int (iI z324), .int (iI z325), .int (iI z326)] [] lk_L_87 (c_X11_bundle _ _ _ _ _ S91 g92 b1 z322 z323 z324 z325 z326 (qS91 _ _ (qb87 _ _ hk68)) (by omega) (by omega) (by omega) (by omega) (by omega) al9 si9) (qS91 _ _ (qb87 _ _ hk68)) ⟨by decide, rfl⟩ dL_law_809 rfl rfl (by simp [Value.category]) (by decide) (by omega) (by omega) (by decide) (fun r327 S329 g328 dcr327 dsr327 pr327 qr327 hg328 => ?_)
          obtain ⟨wr327, z330, rfl, lz330, uz330, k331, k332, k333⟩ := pr327
          refine X_st [.int (iI z330)] rfl ?_
          refine X_pop hK dL_law_812 rfl ?_
          refine X_aloadn hK (i := 2) 2 dL_law_813 rfl rfl ?_
          refine X_aloadn hK (i := 0) 4 dL_law_814 rfl rfl ?_
          refine X_iload hK (i := 4) 0 dL_law_815 rfl ?_
          refine X_iconst hK dL_law_817 ?_
          refine X_iadd hK dL_law_818 ?_
          refine X_scrK hK hX hbl hbA hL (by omega) (by omega) ez322 dL_law_819 ?_
          refine X_aloadn hK (i := 0) 4 dL_law_820 rfl rfl ?_
          refine X_iload hK (i := 4) 0 dL_law_821 rfl ?_
          refine X_iconst hK dL_law_823 ?_
          refine X_iadd hK dL_law_824 ?_
          refine X_scrK hK hX hbl hbA hL (by omega) (by omega) ez323 dL_law_825 ?_
          refine X_aloadn hK (i := 0) 4 dL_law_826 rfl rfl ?_
          refine X_iload hK (i := 4) 0 dL_law_827 rfl ?_
          refine X_iconst hK dL_law_829 ?_
          refine X_iadd hK dL_law_830 ?_
          refine X_scrK hK hX hbl hbA hL (by omega) (by omega) ez324 dL_law_831 ?_
          refine X_aloadn hK (i := 0) 4 dL_law_832 rfl rfl ?_
          refine X_iload hK (i := 4) 0 dL_law_833 rfl ?_
          refine X_iconst hK dL_law_835 ?_
          refine X_iadd hK dL_law_836 ?_
          refine X_scrK hK hX hbl hbA hL (by omega) (by omega) ez325 dL_law_837 ?_
          refine X_aloadn hK (i := 0) 4 dL_law_838 rfl rfl ?_
          refine X_iload hK (i := 4) 0 dL_law_839 rfl ?_
          refine X_iconst hK dL_law_841 ?_
          refine X_iadd hK dL_law_842 ?_
          refine X_scrK hK hX hbl hbA hL (by omega) (by omega) ez326 dL_law_843 ?_
          refine X_callV hK [.int (iI z322), .int (iI z323), .int (iI z324), .int (iI z325), .int (iI z326)] [] lk_L_90 (c_X12_bundle _ _ _ _ _ S329 g328 b39 z322 z323 z324 z325 z326 (qr327 _ _ (qS91 _ _ (qb87 _ _ hs_y66))) (by omega) (by omega) (by omega) (by omega) (by omega) (xTw_m tw9 hg328 qr327 (by decide))) (qr327 _ _ (qS91 _ _ (qb87 _ _ hs_y66))) ⟨by decide, rfl⟩ dL_law_844 rfl rfl (by simp [Value.category]) (by decide) (by omega) (by omega) (by decide) (fun r334 S336 g335 pr334 qr334 hg335 => ?_)
          obtain ⟨rfl, z337, rfl, lz337, uz337⟩ := pr334
          refine X_st [.int (iI z337)] rfl ?_
          refine X_pop hK dL_law_847 rfl ?_
          refine X_goto hK 1465 dL_law_848 (by decide) ?_
          refine X_iinc hK (i := 4) (z := i9) (n := 6) 0 [(4, .int (iI (i9 + 6))), (3, .ref b87), (2, .ref b39), (1, .ref b1), (0, .ref b)] dL_law_1465 rfl (by decide) rfl ?_
          refine X_goto hK 23 dL_law_1468 (by decide) ?_
          exact ih9 S329 (xLe.tr qS91 qr327) g335 (i9 + 6) k9 t9 c9 b9 sh9 sp9 sm9 (by omega) (by omega) (by omega) (by omega) (by omega) (by omega) (by omega) (by omega) (xLs_mod k331 hg335 (by decide)) k332 (xPi_m (xPi_m pi9 hg328 qr327 (by decide)) hg335 xLe.rf (by decide)) (xMp_m (xMp_m mp9 hg328 qr327 (by decide)) hg335 xLe.rf (by decide)) (xTw_m (xTw_m tw9 hg328 qr327 (by decide)) hg335 xLe.rf (by decide)) (xTW_m (xTW_m tkw9 hg328 qr327 (by decide)) hg335 xLe.rf (by decide)) ((hg335 b1 12 0 0 (qr327 _ _ (qS91 _ _ (qb87 _ _ hk68))) (by decide)).trans ((hg328 b1 12 0 0 (qS91 _ _ (qb87 _ _ hk68)) (by decide)).trans el09)) ((hg335 b1 12 0 3 (qr327 _ _ (qS91 _ _ (qb87 _ _ hk68))) (by decide)).trans ((hg328 b1 12 0 3 (qS91 _ _ (qb87 _ _ hk68)) (by decide)).trans el19)) ((hg335 b1 12 0 1 (qr327 _ _ (qS91 _ _ (qb87 _ _ hk68))) (by decide)).trans ((hg328 b1 12 0 1 (qS91 _ _ (qb87 _ _ hk68)) (by decide)).trans el29)) ((hg335 b37 6 0 1 (qr327 _ _ (qS91 _ _ (qb87 _ _ hk77))) (by decide)).trans ((hg328 b37 6 0 1 (qS91 _ _ (qb87 _ _ hk77)) (by decide)).trans el39)) ((hg335 b1 12 0 2 (qr327 _ _ (qS91 _ _ (qb87 _ _ hk68))) (by decide)).trans ((hg328 b1 12 0 2 (qS91 _ _ (qb87 _ _ hk68)) (by decide)).trans el49)) ((hg335 b19 4 0 0 (qr327 _ _ (qS91 _ _ (qb87 _ _ hk69))) (by decide)).trans ((hg328 b19 4 0 0 (qS91 _ _ (qb87 _ _ hk69)) (by decide)).trans el59)) ((hg335 b19 4 0 2 (qr327 _ _ (qS91 _ _ (qb87 _ _ hk69))) (by decide)).trans ((hg328 b19 4 0 2 (qS91 _ _ (qb87 _ _ hk69)) (by decide)).trans el69)) ((hg335 b19 4 0 3 (qr327 _ _ (qS91 _ _ (qb87 _ _ hk69))) (by decide)).trans ((hg328 b19 4 0 3 (qS91 _ _ (qb87 _ _ hk69)) (by decide)).trans el79)) ((hg335 b19 4 0 4 (qr327 _ _ (qS91 _ _ (qb87 _ _ hk69))) (by decide)).trans ((hg328 b19 4 0 4 (qS91 _ _ (qb87 _ _ hk69)) (by decide)).trans el89)) ((hg335 b35 10 0 0 (qr327 _ _ (qS91 _ _ (qb87 _ _ hk75))) (by decide)).trans ((hg328 b35 10 0 0 (qS91 _ _ (qb87 _ _ hk75)) (by decide)).trans el99)) ((hg335 b39 13 0 1 (qr327 _ _ (qS91 _ _ (qb87 _ _ hs_y66))) (by decide)).trans ((hg328 b39 13 0 1 (qS91 _ _ (qb87 _ _ hs_y66)) (by decide)).trans el109)) ((hg335 b39 13 0 10 (qr327 _ _ (qS91 _ _ (qb87 _ _ hs_y66))) (by decide)).trans ((hg328 b39 13 0 10 (qS91 _ _ (qb87 _ _ hs_y66)) (by decide)).trans el119)) ((hg335 b39 13 0 13 (qr327 _ _ (qS91 _ _ (qb87 _ _ hs_y66))) (by decide)).trans ((hg328 b39 13 0 13 (qS91 _ _ (qb87 _ _ hs_y66)) (by decide)).trans el129)) ((hg335 b39 13 0 14 (qr327 _ _ (qS91 _ _ (qb87 _ _ hs_y66))) (by decide)).trans ((hg328 b39 13 0 14 (qS91 _ _ (qb87 _ _ hs_y66)) (by decide)).trans el139)) ((hg335 b39 13 0 12 (qr327 _ _ (qS91 _ _ (qb87 _ _ hs_y66))) (by decide)).trans ((hg328 b39 13 0 12 (qS91 _ _ (qb87 _ _ hs_y66)) (by decide)).trans el149)) ((hg335 b35 10 0 1 (qr327 _ _ (qS91 _ _ (qb87 _ _ hk75))) (by decide)).trans ((hg328 b35 10 0 1 (qS91 _ _ (qb87 _ _ hk75)) (by decide)).trans exk9)) ((hg335 b39 13 0 2 (qr327 _ _ (qS91 _ _ (qb87 _ _ hs_y66))) (by decide)).trans ((hg328 b39 13 0 2 (qS91 _ _ (qb87 _ _ hs_y66)) (by decide)).trans emk9)) ((hg335 b1 12 0 12 (qr327 _ _ (qS91 _ _ (qb87 _ _ hk68))) (by decide)).trans ((hg328 b1 12 0 12 (qS91 _ _ (qb87 _ _ hk68)) (by decide)).trans ext9)) ((hg335 b39 13 0 3 (qr327 _ _ (qS91 _ _ (qb87 _ _ hs_y66))) (by decide)).trans ((hg328 b39 13 0 3 (qS91 _ _ (qb87 _ _ hs_y66)) (by decide)).trans emt9)) ((hg335 b36 5 0 3 (qr327 _ _ (qS91 _ _ (qb87 _ _ hk76))) (by decide)).trans ((hg328 b36 5 0 3 (qS91 _ _ (qb87 _ _ hk76)) (by decide)).trans exc9)) ((hg335 b39 13 0 69 (qr327 _ _ (qS91 _ _ (qb87 _ _ hs_y66))) (by decide)).trans ((hg328 b39 13 0 69 (qS91 _ _ (qb87 _ _ hs_y66)) (by decide)).trans emc9)) ((hg335 b38 0 0 2 (qr327 _ _ (qS91 _ _ (qb87 _ _ hk78))) (by decide)).trans ((hg328 b38 0 0 2 (qS91 _ _ (qb87 _ _ hk78)) (by decide)).trans exb9)) ((hg335 b39 13 0 16 (qr327 _ _ (qS91 _ _ (qb87 _ _ hs_y66))) (by decide)).trans ((hg328 b39 13 0 16 (qS91 _ _ (qb87 _ _ hs_y66)) (by decide)).trans emb9)) ((hg335 b1 12 0 16 (qr327 _ _ (qS91 _ _ (qb87 _ _ hk68))) (by decide)).trans ((hg328 b1 12 0 16 (qS91 _ _ (qb87 _ _ hk68)) (by decide)).trans exsh9)) ((hg335 b39 13 0 89 (qr327 _ _ (qS91 _ _ (qb87 _ _ hs_y66))) (by decide)).trans ((hg328 b39 13 0 89 (qS91 _ _ (qb87 _ _ hs_y66)) (by decide)).trans emsh9)) ((hg335 b1 12 0 17 (qr327 _ _ (qS91 _ _ (qb87 _ _ hk68))) (by decide)).trans ((hg328 b1 12 0 17 (qS91 _ _ (qb87 _ _ hk68)) (by decide)).trans exsp9)) ((hg335 b39 13 0 90 (qr327 _ _ (qS91 _ _ (qb87 _ _ hs_y66))) (by decide)).trans ((hg328 b39 13 0 90 (qS91 _ _ (qb87 _ _ hs_y66)) (by decide)).trans emsp9)) ((hg335 b39 13 0 17 (qr327 _ _ (qS91 _ _ (qb87 _ _ hs_y66))) (by decide)).trans ((hg328 b39 13 0 17 (qS91 _ _ (qb87 _ _ hs_y66)) (by decide)).trans emsm9)) (xWn.m (xWn.m wn9 (qS91 _ _ (qb87 _ _ hk74)) (qS91 _ _ (qb87 _ _ hk81)) hg328 qr327 (by decide)) (qr327 _ _ (qS91 _ _ (qb87 _ _ hk74))) (qr327 _ _ (qS91 _ _ (qb87 _ _ hk81))) hg335 xLe.rf (by decide)) (by rw [(Eq.trans (xv_m hg335 (qr327 _ _ (qS91 _ _ (qb87 _ _ hk72))) (by decide) (by decide)) (xv_m hg328 (qS91 _ _ (qb87 _ _ hk72)) (by decide) (by decide))), (Eq.trans (xv_m hg335 (qr327 _ _ (qS91 _ _ (qb87 _ _ hk79))) (by decide) (by decide)) (xv_m hg328 (qS91 _ _ (qb87 _ _ hk79)) (by decide) (by decide)))]; exact wt9) (by rw [(Eq.trans (xv_m hg335 (qr327 _ _ (qS91 _ _ (qb87 _ _ hk73))) (by decide) (by decide)) (xv_m hg328 (qS91 _ _ (qb87 _ _ hk73)) (by decide) (by decide))), (Eq.trans (xv_m hg335 (qr327 _ _ (qS91 _ _ (qb87 _ _ hk80))) (by decide) (by decide)) (xv_m hg328 (qS91 _ _ (qb87 _ _ hk80)) (by decide) (by decide)))]; exact ld9) (by rw [(Eq.trans (xv_m hg335 (qr327 _ _ (qS91 _ _ (qb87 _ _ hk71))) (by decide) (by decide)) (xv_m hg328 (qS91 _ _ (qb87 _ _ hk71)) (by decide) (by decide))), (Eq.trans (xv_m hg335 (qr327 _ _ (qS91 _ _ (qb87 _ _ hs_b86))) (by decide) (by decide)) (xv_m hg328 (qS91 _ _ (qb87 _ _ hs_b86)) (by decide) (by decide)))]; exact sk9) (by rw [(Eq.trans (xv_m hg335 (qr327 _ _ (qS91 _ _ (qb87 _ _ hs_b84))) (by decide) (by decide)) (xv_m hg328 (qS91 _ _ (qb87 _ _ hs_b84)) (by decide) (by decide))), (Eq.trans (xv_m hg335 (qr327 _ _ (qS91 _ _ (qb87 _ _ hs_b85))) (by decide) (by decide)) (xv_m hg328 (qS91 _ _ (qb87 _ _ hs_b85)) (by decide) (by decide)))]; exact xTc.mono tc9 (by omega)) (dc9 + dcr327) (ds9 + dsr327) (by omega) (by omega) (by omega)
        · refine X_tableIn hK 851 15 (by decide) c96 (by decide) (by decide) dL_law_40 rfl (by decide) ?_
          refine X_aloadn hK (i := 1) 3 dL_law_851 rfl rfl ?_
          refine X_aloadn hK (i := 0) 4 dL_law_852 rfl rfl ?_
          refine X_iload hK (i := 4) 0 dL_law_853 rfl ?_
          refine X_iconst hK dL_law_855 ?_
          refine X_iadd hK dL_law_856 ?_
          refine X_scr hK hX hbl hbA hL (by omega) (by omega) dL_law_857 (fun z338 ez338 lz338 uz338 => ?_)
          refine X_aloadn hK (i := 0) 4 dL_law_858 rfl rfl ?_
          refine X_iload hK (i := 4) 0 dL_law_859 rfl ?_
          refine X_iconst hK dL_law_861 ?_
          refine X_iadd hK dL_law_862 ?_
          refine X_scr hK hX hbl hbA hL (by omega) (by omega) dL_law_863 (fun z339 ez339 lz339 uz339 => ?_)
          refine X_callV hK [.int (iI z338), .int (iI z339)] [] lk_L_91 (c_X11_told _ _ _ _ _ S91 g92 b1 z338 z339 (qS91 _ _ (qb87 _ _ hk68)) (by omega) (by omega) al9) (qS91 _ _ (qb87 _ _ hk68)) ⟨by decide, rfl⟩ dL_law_864 rfl rfl (by simp [Value.category]) (by decide) (by omega) (by omega) (by decide) (fun r340 S342 g341 pr340 qr340 hg341 => ?_)
          obtain ⟨rfl, z343, rfl, lz343, uz343⟩ := pr340
          refine X_st [.int (iI z343)] rfl ?_
          refine X_pop hK dL_law_867 rfl ?_
          refine X_aloadn hK (i := 2) 2 dL_law_868 rfl rfl ?_
          refine X_aloadn hK (i := 0) 4 dL_law_869 rfl rfl ?_
          refine X_iload hK (i := 4) 0 dL_law_870 rfl ?_
          refine X_iconst hK dL_law_872 ?_
          refine X_iadd hK dL_law_873 ?_
          refine X_scrK hK hX hbl hbA hL (by omega) (by omega) ez338 dL_law_874 ?_
          refine X_aloadn hK (i := 0) 4 dL_law_875 rfl rfl ?_
          refine X_iload hK (i := 4) 0 dL_law_876 rfl ?_
          refine X_iconst hK dL_law_878 ?_
          refine X_iadd hK dL_law_879 ?_
          refine X_scrK hK hX hbl hbA hL (by omega) (by omega) ez339 dL_law_880 ?_
          refine X_callV hK [.int (iI z338), .int (iI z339)] [] lk_L_94 (c_X12_told _ _ _ _ _ S91 g341 b39 z338 z339 (qS91 _ _ (qb87 _ _ hs_y66)) (by omega) (by omega) (xTw_m tw9 hg341 xLe.rf (by decide))) (qS91 _ _ (qb87 _ _ hs_y66)) ⟨by decide, rfl⟩ dL_law_881 rfl rfl (by simp [Value.category]) (by decide) (by omega) (by omega) (by decide) (fun r344 S346 g345 pr344 qr344 hg345 => ?_)
          obtain ⟨rfl, z347, rfl, lz347, uz347⟩ := pr344
          refine X_st [.int (iI z347)] rfl ?_
          refine X_pop hK dL_law_884 rfl ?_
          refine X_goto hK 1465 dL_law_885 (by decide) ?_
          refine X_iinc hK (i := 4) (z := i9) (n := 6) 0 [(4, .int (iI (i9 + 6))), (3, .ref b87), (2, .ref b39), (1, .ref b1), (0, .ref b)] dL_law_1465 rfl (by decide) rfl ?_
          refine X_goto hK 23 dL_law_1468 (by decide) ?_
          exact ih9 S91 qS91 g345 (i9 + 6) k9 t9 c9 b9 sh9 sp9 sm9 (by omega) (by omega) (by omega) (by omega) (by omega) (by omega) (by omega) (by omega) (xLs_mod (xLs_mod al9 hg341 (by decide)) hg345 (by decide)) si9 (xPi_m (xPi_m pi9 hg341 xLe.rf (by decide)) hg345 xLe.rf (by decide)) (xMp_m (xMp_m mp9 hg341 xLe.rf (by decide)) hg345 xLe.rf (by decide)) (xTw_m (xTw_m tw9 hg341 xLe.rf (by decide)) hg345 xLe.rf (by decide)) (xTW_m (xTW_m tkw9 hg341 xLe.rf (by decide)) hg345 xLe.rf (by decide)) ((hg345 b1 12 0 0 (qS91 _ _ (qb87 _ _ hk68)) (by decide)).trans ((hg341 b1 12 0 0 (qS91 _ _ (qb87 _ _ hk68)) (by decide)).trans el09)) ((hg345 b1 12 0 3 (qS91 _ _ (qb87 _ _ hk68)) (by decide)).trans ((hg341 b1 12 0 3 (qS91 _ _ (qb87 _ _ hk68)) (by decide)).trans el19)) ((hg345 b1 12 0 1 (qS91 _ _ (qb87 _ _ hk68)) (by decide)).trans ((hg341 b1 12 0 1 (qS91 _ _ (qb87 _ _ hk68)) (by decide)).trans el29)) ((hg345 b37 6 0 1 (qS91 _ _ (qb87 _ _ hk77)) (by decide)).trans ((hg341 b37 6 0 1 (qS91 _ _ (qb87 _ _ hk77)) (by decide)).trans el39)) ((hg345 b1 12 0 2 (qS91 _ _ (qb87 _ _ hk68)) (by decide)).trans ((hg341 b1 12 0 2 (qS91 _ _ (qb87 _ _ hk68)) (by decide)).trans el49)) ((hg345 b19 4 0 0 (qS91 _ _ (qb87 _ _ hk69)) (by decide)).trans ((hg341 b19 4 0 0 (qS91 _ _ (qb87 _ _ hk69)) (by decide)).trans el59)) ((hg345 b19 4 0 2 (qS91 _ _ (qb87 _ _ hk69)) (by decide)).trans ((hg341 b19 4 0 2 (qS91 _ _ (qb87 _ _ hk69)) (by decide)).trans el69)) ((hg345 b19 4 0 3 (qS91 _ _ (qb87 _ _ hk69)) (by decide)).trans ((hg341 b19 4 0 3 (qS91 _ _ (qb87 _ _ hk69)) (by decide)).trans el79)) ((hg345 b19 4 0 4 (qS91 _ _ (qb87 _ _ hk69)) (by decide)).trans ((hg341 b19 4 0 4 (qS91 _ _ (qb87 _ _ hk69)) (by decide)).trans el89)) ((hg345 b35 10 0 0 (qS91 _ _ (qb87 _ _ hk75)) (by decide)).trans ((hg341 b35 10 0 0 (qS91 _ _ (qb87 _ _ hk75)) (by decide)).trans el99)) ((hg345 b39 13 0 1 (qS91 _ _ (qb87 _ _ hs_y66)) (by decide)).trans ((hg341 b39 13 0 1 (qS91 _ _ (qb87 _ _ hs_y66)) (by decide)).trans el109)) ((hg345 b39 13 0 10 (qS91 _ _ (qb87 _ _ hs_y66)) (by decide)).trans ((hg341 b39 13 0 10 (qS91 _ _ (qb87 _ _ hs_y66)) (by decide)).trans el119)) ((hg345 b39 13 0 13 (qS91 _ _ (qb87 _ _ hs_y66)) (by decide)).trans ((hg341 b39 13 0 13 (qS91 _ _ (qb87 _ _ hs_y66)) (by decide)).trans el129)) ((hg345 b39 13 0 14 (qS91 _ _ (qb87 _ _ hs_y66)) (by decide)).trans ((hg341 b39 13 0 14 (qS91 _ _ (qb87 _ _ hs_y66)) (by decide)).trans el139)) ((hg345 b39 13 0 12 (qS91 _ _ (qb87 _ _ hs_y66)) (by decide)).trans ((hg341 b39 13 0 12 (qS91 _ _ (qb87 _ _ hs_y66)) (by decide)).trans el149)) ((hg345 b35 10 0 1 (qS91 _ _ (qb87 _ _ hk75)) (by decide)).trans ((hg341 b35 10 0 1 (qS91 _ _ (qb87 _ _ hk75)) (by decide)).trans exk9)) ((hg345 b39 13 0 2 (qS91 _ _ (qb87 _ _ hs_y66)) (by decide)).trans ((hg341 b39 13 0 2 (qS91 _ _ (qb87 _ _ hs_y66)) (by decide)).trans emk9)) ((hg345 b1 12 0 12 (qS91 _ _ (qb87 _ _ hk68)) (by decide)).trans ((hg341 b1 12 0 12 (qS91 _ _ (qb87 _ _ hk68)) (by decide)).trans ext9)) ((hg345 b39 13 0 3 (qS91 _ _ (qb87 _ _ hs_y66)) (by decide)).trans ((hg341 b39 13 0 3 (qS91 _ _ (qb87 _ _ hs_y66)) (by decide)).trans emt9)) ((hg345 b36 5 0 3 (qS91 _ _ (qb87 _ _ hk76)) (by decide)).trans ((hg341 b36 5 0 3 (qS91 _ _ (qb87 _ _ hk76)) (by decide)).trans exc9)) ((hg345 b39 13 0 69 (qS91 _ _ (qb87 _ _ hs_y66)) (by decide)).trans ((hg341 b39 13 0 69 (qS91 _ _ (qb87 _ _ hs_y66)) (by decide)).trans emc9)) ((hg345 b38 0 0 2 (qS91 _ _ (qb87 _ _ hk78)) (by decide)).trans ((hg341 b38 0 0 2 (qS91 _ _ (qb87 _ _ hk78)) (by decide)).trans exb9)) ((hg345 b39 13 0 16 (qS91 _ _ (qb87 _ _ hs_y66)) (by decide)).trans ((hg341 b39 13 0 16 (qS91 _ _ (qb87 _ _ hs_y66)) (by decide)).trans emb9)) ((hg345 b1 12 0 16 (qS91 _ _ (qb87 _ _ hk68)) (by decide)).trans ((hg341 b1 12 0 16 (qS91 _ _ (qb87 _ _ hk68)) (by decide)).trans exsh9)) ((hg345 b39 13 0 89 (qS91 _ _ (qb87 _ _ hs_y66)) (by decide)).trans ((hg341 b39 13 0 89 (qS91 _ _ (qb87 _ _ hs_y66)) (by decide)).trans emsh9)) ((hg345 b1 12 0 17 (qS91 _ _ (qb87 _ _ hk68)) (by decide)).trans ((hg341 b1 12 0 17 (qS91 _ _ (qb87 _ _ hk68)) (by decide)).trans exsp9)) ((hg345 b39 13 0 90 (qS91 _ _ (qb87 _ _ hs_y66)) (by decide)).trans ((hg341 b39 13 0 90 (qS91 _ _ (qb87 _ _ hs_y66)) (by decide)).trans emsp9)) ((hg345 b39 13 0 17 (qS91 _ _ (qb87 _ _ hs_y66)) (by decide)).trans ((hg341 b39 13 0 17 (qS91 _ _ (qb87 _ _ hs_y66)) (by decide)).trans emsm9)) (xWn.m (xWn.m wn9 (qS91 _ _ (qb87 _ _ hk74)) (qS91 _ _ (qb87 _ _ hk81)) hg341 xLe.rf (by decide)) (qS91 _ _ (qb87 _ _ hk74)) (qS91 _ _ (qb87 _ _ hk81)) hg345 xLe.rf (by decide)) (by rw [(Eq.trans (xv_m hg345 (qS91 _ _ (qb87 _ _ hk72)) (by decide) (by decide)) (xv_m hg341 (qS91 _ _ (qb87 _ _ hk72)) (by decide) (by decide))), (Eq.trans (xv_m hg345 (qS91 _ _ (qb87 _ _ hk79)) (by decide) (by decide)) (xv_m hg341 (qS91 _ _ (qb87 _ _ hk79)) (by decide) (by decide)))]; exact wt9) (by rw [(Eq.trans (xv_m hg345 (qS91 _ _ (qb87 _ _ hk73)) (by decide) (by decide)) (xv_m hg341 (qS91 _ _ (qb87 _ _ hk73)) (by decide) (by decide))), (Eq.trans (xv_m hg345 (qS91 _ _ (qb87 _ _ hk80)) (by decide) (by decide)) (xv_m hg341 (qS91 _ _ (qb87 _ _ hk80)) (by decide) (by decide)))]; exact ld9) (by rw [(Eq.trans (xv_m hg345 (qS91 _ _ (qb87 _ _ hk71)) (by decide) (by decide)) (xv_m hg341 (qS91 _ _ (qb87 _ _ hk71)) (by decide) (by decide))), (Eq.trans (xv_m hg345 (qS91 _ _ (qb87 _ _ hs_b86)) (by decide) (by decide)) (xv_m hg341 (qS91 _ _ (qb87 _ _ hs_b86)) (by decide) (by decide)))]; exact sk9) (by rw [(Eq.trans (xv_m hg345 (qS91 _ _ (qb87 _ _ hs_b84)) (by decide) (by decide)) (xv_m hg341 (qS91 _ _ (qb87 _ _ hs_b84)) (by decide) (by decide))), (Eq.trans (xv_m hg345 (qS91 _ _ (qb87 _ _ hs_b85)) (by decide) (by decide)) (xv_m hg341 (qS91 _ _ (qb87 _ _ hs_b85)) (by decide) (by decide)))]; exact xTc.mono tc9 (by omega)) dc9 ds9 (by omega) (by omega) (by omega)
        · refine X_tableIn hK 888 16 (by decide) c96 (by decide) (by decide) dL_law_40 rfl (by decide) ?_
          refine X_aloadn hK (i := 1) 3 dL_law_888 rfl rfl ?_
          refine X_callV hK [] [] lk_L_95 (c_X11_why _ _ _ _ _ S91 g92 b1 (qS91 _ _ (qb87 _ _ hk68))) (qS91 _ _ (qb87 _ _ hk68)) ⟨by decide, rfl⟩ dL_law_889 rfl rfl (by simp [Value.category]) (by decide) (by omega) (by omega) (by decide) (fun r348 S350 g349 pr348 qr348 hg349 => ?_)
          obtain ⟨rfl, rfl, z351, rfl, lz351, uz351⟩ := pr348
          refine X_st [.int (iI z351)] rfl ?_
          refine X_pop hK dL_law_892 rfl ?_
          refine X_aloadn hK (i := 2) 2 dL_law_893 rfl rfl ?_
          refine X_callV hK [] [] lk_L_98 (c_X12_why _ _ _ _ _ S91 g92 b39 (qS91 _ _ (qb87 _ _ hs_y66))) (qS91 _ _ (qb87 _ _ hs_y66)) ⟨by decide, rfl⟩ dL_law_894 rfl rfl (by simp [Value.category]) (by decide) (by omega) (by omega) (by decide) (fun r352 S354 g353 pr352 qr352 hg353 => ?_)
          obtain ⟨rfl, z355, rfl, lz355, uz355⟩ := pr352
          refine X_st [.int (iI z355)] rfl ?_
          refine X_pop hK dL_law_897 rfl ?_
          refine X_goto hK 1465 dL_law_898 (by decide) ?_
          refine X_iinc hK (i := 4) (z := i9) (n := 6) 0 [(4, .int (iI (i9 + 6))), (3, .ref b87), (2, .ref b39), (1, .ref b1), (0, .ref b)] dL_law_1465 rfl (by decide) rfl ?_
          refine X_goto hK 23 dL_law_1468 (by decide) ?_
          exact ih9 S91 qS91 g353 (i9 + 6) k9 t9 c9 b9 sh9 sp9 sm9 (by omega) (by omega) (by omega) (by omega) (by omega) (by omega) (by omega) (by omega) (xLs_mod al9 hg353 (by decide)) si9 (xPi_m pi9 hg353 xLe.rf (by decide)) (xMp_m mp9 hg353 xLe.rf (by decide)) (xTw_m tw9 hg353 xLe.rf (by decide)) (xTW_m tkw9 hg353 xLe.rf (by decide)) ((hg353 b1 12 0 0 (qS91 _ _ (qb87 _ _ hk68)) (by decide)).trans el09) ((hg353 b1 12 0 3 (qS91 _ _ (qb87 _ _ hk68)) (by decide)).trans el19) ((hg353 b1 12 0 1 (qS91 _ _ (qb87 _ _ hk68)) (by decide)).trans el29) ((hg353 b37 6 0 1 (qS91 _ _ (qb87 _ _ hk77)) (by decide)).trans el39) ((hg353 b1 12 0 2 (qS91 _ _ (qb87 _ _ hk68)) (by decide)).trans el49) ((hg353 b19 4 0 0 (qS91 _ _ (qb87 _ _ hk69)) (by decide)).trans el59) ((hg353 b19 4 0 2 (qS91 _ _ (qb87 _ _ hk69)) (by decide)).trans el69) ((hg353 b19 4 0 3 (qS91 _ _ (qb87 _ _ hk69)) (by decide)).trans el79) ((hg353 b19 4 0 4 (qS91 _ _ (qb87 _ _ hk69)) (by decide)).trans el89) ((hg353 b35 10 0 0 (qS91 _ _ (qb87 _ _ hk75)) (by decide)).trans el99) ((hg353 b39 13 0 1 (qS91 _ _ (qb87 _ _ hs_y66)) (by decide)).trans el109) ((hg353 b39 13 0 10 (qS91 _ _ (qb87 _ _ hs_y66)) (by decide)).trans el119) ((hg353 b39 13 0 13 (qS91 _ _ (qb87 _ _ hs_y66)) (by decide)).trans el129) ((hg353 b39 13 0 14 (qS91 _ _ (qb87 _ _ hs_y66)) (by decide)).trans el139) ((hg353 b39 13 0 12 (qS91 _ _ (qb87 _ _ hs_y66)) (by decide)).trans el149) ((hg353 b35 10 0 1 (qS91 _ _ (qb87 _ _ hk75)) (by decide)).trans exk9) ((hg353 b39 13 0 2 (qS91 _ _ (qb87 _ _ hs_y66)) (by decide)).trans emk9) ((hg353 b1 12 0 12 (qS91 _ _ (qb87 _ _ hk68)) (by decide)).trans ext9) ((hg353 b39 13 0 3 (qS91 _ _ (qb87 _ _ hs_y66)) (by decide)).trans emt9) ((hg353 b36 5 0 3 (qS91 _ _ (qb87 _ _ hk76)) (by decide)).trans exc9) ((hg353 b39 13 0 69 (qS91 _ _ (qb87 _ _ hs_y66)) (by decide)).trans emc9) ((hg353 b38 0 0 2 (qS91 _ _ (qb87 _ _ hk78)) (by decide)).trans exb9) ((hg353 b39 13 0 16 (qS91 _ _ (qb87 _ _ hs_y66)) (by decide)).trans emb9) ((hg353 b1 12 0 16 (qS91 _ _ (qb87 _ _ hk68)) (by decide)).trans exsh9) ((hg353 b39 13 0 89 (qS91 _ _ (qb87 _ _ hs_y66)) (by decide)).trans emsh9) ((hg353 b1 12 0 17 (qS91 _ _ (qb87 _ _ hk68)) (by decide)).trans exsp9) ((hg353 b39 13 0 90 (qS91 _ _ (qb87 _ _ hs_y66)) (by decide)).trans emsp9) ((hg353 b39 13 0 17 (qS91 _ _ (qb87 _ _ hs_y66)) (by decide)).trans emsm9) (xWn.m wn9 (qS91 _ _ (qb87 _ _ hk74)) (qS91 _ _ (qb87 _ _ hk81)) hg353 xLe.rf (by decide)) (by rw [(xv_m hg353 (qS91 _ _ (qb87 _ _ hk72)) (by decide) (by decide)), (xv_m hg353 (qS91 _ _ (qb87 _ _ hk79)) (by decide) (by decide))]; exact wt9) (by rw [(xv_m hg353 (qS91 _ _ (qb87 _ _ hk73)) (by decide) (by decide)), (xv_m hg353 (qS91 _ _ (qb87 _ _ hk80)) (by decide) (by decide))]; exact ld9) (by rw [(xv_m hg353 (qS91 _ _ (qb87 _ _ hk71)) (by decide) (by decide)), (xv_m hg353 (qS91 _ _ (qb87 _ _ hs_b86)) (by decide) (by decide))]; exact sk9) (by rw [(xv_m hg353 (qS91 _ _ (qb87 _ _ hs_b84)) (by decide) (by decide)), (xv_m hg353 (qS91 _ _ (qb87 _ _ hs_b85)) (by decide) (by decide))]; exact xTc.mono tc9 (by omega)) dc9 ds9 (by omega) (by omega) (by omega)
        · refine X_tableIn hK 901 17 (by decide) c96 (by decide) (by decide) dL_law_40 rfl (by decide) ?_
          refine X_aloadn hK (i := 1) 3 dL_law_901 rfl rfl ?_
          refine X_callVU hK [] [] lk_L_99 (c_X11_close _ _ _ _ _ S91 g92 b1 t9 (qS91 _ _ (qb87 _ _ hk68)) (by omega) ext9 al9 si9) (qS91 _ _ (qb87 _ _ hk68)) ⟨by decide, rfl⟩ dL_law_902 rfl rfl (by simp [Value.category]) (by decide) (by omega) (by omega) (by decide) (fun r356 S358 g357 dcr356 dsr356 pr356 qr356 hg357 => ?_)
          obtain ⟨wr356, z359, rfl, lz359, uz359, k360, k361, k362, k363⟩ := pr356
          refine X_st [.int (iI z359)] rfl ?_
          refine X_pop hK dL_law_905 rfl ?_
          refine X_aloadn hK (i := 2) 2 dL_law_906 rfl rfl ?_
          refine X_callV hK [] [] lk_L_102 (c_X12_close _ _ _ _ _ S358 g357 b39 t9 (qr356 _ _ (qS91 _ _ (qb87 _ _ hs_y66))) (by omega) ((hg357 b39 13 0 3 (qS91 _ _ (qb87 _ _ hs_y66)) (by decide)).trans emt9) (xTw_m tw9 hg357 qr356 (by decide))) (qr356 _ _ (qS91 _ _ (qb87 _ _ hs_y66))) ⟨by decide, rfl⟩ dL_law_907 rfl rfl (by simp [Value.category]) (by decide) (by omega) (by omega) (by decide) (fun r364 S366 g365 pr364 qr364 hg365 => ?_)
          obtain ⟨rfl, z367, rfl, lz367, uz367, k368⟩ := pr364
          refine X_st [.int (iI z367)] rfl ?_
          refine X_pop hK dL_law_910 rfl ?_
          refine X_goto hK 1465 dL_law_911 (by decide) ?_
          refine X_iinc hK (i := 4) (z := i9) (n := 6) 0 [(4, .int (iI (i9 + 6))), (3, .ref b87), (2, .ref b39), (1, .ref b1), (0, .ref b)] dL_law_1465 rfl (by decide) rfl ?_
          refine X_goto hK 23 dL_law_1468 (by decide) ?_
          exact ih9 S358 (xLe.tr qS91 qr356) g365 (i9 + 6) k9 (if t9 < 400 then t9 + 1 else t9) c9 b9 sh9 sp9 sm9 (by omega) (by omega) (by first | omega | (split <;> omega)) (by omega) (by omega) (by omega) (by omega) (by omega) (xLs_mod k360 hg365 (by decide)) k361 (xPi_m (xPi_m pi9 hg357 qr356 (by decide)) hg365 xLe.rf (by decide)) (xMp_m (xMp_m mp9 hg357 qr356 (by decide)) hg365 xLe.rf (by decide)) (xTw_m (xTw_m tw9 hg357 qr356 (by decide)) hg365 xLe.rf (by decide)) (xTW_m (xTW_m tkw9 hg357 qr356 (by decide)) hg365 xLe.rf (by decide)) ((hg365 b1 12 0 0 (qr356 _ _ (qS91 _ _ (qb87 _ _ hk68))) (by decide)).trans ((hg357 b1 12 0 0 (qS91 _ _ (qb87 _ _ hk68)) (by decide)).trans el09)) ((hg365 b1 12 0 3 (qr356 _ _ (qS91 _ _ (qb87 _ _ hk68))) (by decide)).trans ((hg357 b1 12 0 3 (qS91 _ _ (qb87 _ _ hk68)) (by decide)).trans el19)) ((hg365 b1 12 0 1 (qr356 _ _ (qS91 _ _ (qb87 _ _ hk68))) (by decide)).trans ((hg357 b1 12 0 1 (qS91 _ _ (qb87 _ _ hk68)) (by decide)).trans el29)) ((hg365 b37 6 0 1 (qr356 _ _ (qS91 _ _ (qb87 _ _ hk77))) (by decide)).trans ((hg357 b37 6 0 1 (qS91 _ _ (qb87 _ _ hk77)) (by decide)).trans el39)) ((hg365 b1 12 0 2 (qr356 _ _ (qS91 _ _ (qb87 _ _ hk68))) (by decide)).trans ((hg357 b1 12 0 2 (qS91 _ _ (qb87 _ _ hk68)) (by decide)).trans el49)) ((hg365 b19 4 0 0 (qr356 _ _ (qS91 _ _ (qb87 _ _ hk69))) (by decide)).trans ((hg357 b19 4 0 0 (qS91 _ _ (qb87 _ _ hk69)) (by decide)).trans el59)) ((hg365 b19 4 0 2 (qr356 _ _ (qS91 _ _ (qb87 _ _ hk69))) (by decide)).trans ((hg357 b19 4 0 2 (qS91 _ _ (qb87 _ _ hk69)) (by decide)).trans el69)) ((hg365 b19 4 0 3 (qr356 _ _ (qS91 _ _ (qb87 _ _ hk69))) (by decide)).trans ((hg357 b19 4 0 3 (qS91 _ _ (qb87 _ _ hk69)) (by decide)).trans el79)) ((hg365 b19 4 0 4 (qr356 _ _ (qS91 _ _ (qb87 _ _ hk69))) (by decide)).trans ((hg357 b19 4 0 4 (qS91 _ _ (qb87 _ _ hk69)) (by decide)).trans el89)) ((hg365 b35 10 0 0 (qr356 _ _ (qS91 _ _ (qb87 _ _ hk75))) (by decide)).trans ((hg357 b35 10 0 0 (qS91 _ _ (qb87 _ _ hk75)) (by decide)).trans el99)) ((hg365 b39 13 0 1 (qr356 _ _ (qS91 _ _ (qb87 _ _ hs_y66))) (by decide)).trans ((hg357 b39 13 0 1 (qS91 _ _ (qb87 _ _ hs_y66)) (by decide)).trans el109)) ((hg365 b39 13 0 10 (qr356 _ _ (qS91 _ _ (qb87 _ _ hs_y66))) (by decide)).trans ((hg357 b39 13 0 10 (qS91 _ _ (qb87 _ _ hs_y66)) (by decide)).trans el119)) ((hg365 b39 13 0 13 (qr356 _ _ (qS91 _ _ (qb87 _ _ hs_y66))) (by decide)).trans ((hg357 b39 13 0 13 (qS91 _ _ (qb87 _ _ hs_y66)) (by decide)).trans el129)) ((hg365 b39 13 0 14 (qr356 _ _ (qS91 _ _ (qb87 _ _ hs_y66))) (by decide)).trans ((hg357 b39 13 0 14 (qS91 _ _ (qb87 _ _ hs_y66)) (by decide)).trans el139)) ((hg365 b39 13 0 12 (qr356 _ _ (qS91 _ _ (qb87 _ _ hs_y66))) (by decide)).trans ((hg357 b39 13 0 12 (qS91 _ _ (qb87 _ _ hs_y66)) (by decide)).trans el149)) ((hg365 b35 10 0 1 (qr356 _ _ (qS91 _ _ (qb87 _ _ hk75))) (by decide)).trans ((hg357 b35 10 0 1 (qS91 _ _ (qb87 _ _ hk75)) (by decide)).trans exk9)) ((hg365 b39 13 0 2 (qr356 _ _ (qS91 _ _ (qb87 _ _ hs_y66))) (by decide)).trans ((hg357 b39 13 0 2 (qS91 _ _ (qb87 _ _ hs_y66)) (by decide)).trans emk9)) ((hg365 b1 12 0 12 (qr356 _ _ (qS91 _ _ (qb87 _ _ hk68))) (by decide)).trans k363) k368 ((hg365 b36 5 0 3 (qr356 _ _ (qS91 _ _ (qb87 _ _ hk76))) (by decide)).trans ((hg357 b36 5 0 3 (qS91 _ _ (qb87 _ _ hk76)) (by decide)).trans exc9)) ((hg365 b39 13 0 69 (qr356 _ _ (qS91 _ _ (qb87 _ _ hs_y66))) (by decide)).trans ((hg357 b39 13 0 69 (qS91 _ _ (qb87 _ _ hs_y66)) (by decide)).trans emc9)) ((hg365 b38 0 0 2 (qr356 _ _ (qS91 _ _ (qb87 _ _ hk78))) (by decide)).trans ((hg357 b38 0 0 2 (qS91 _ _ (qb87 _ _ hk78)) (by decide)).trans exb9)) ((hg365 b39 13 0 16 (qr356 _ _ (qS91 _ _ (qb87 _ _ hs_y66))) (by decide)).trans ((hg357 b39 13 0 16 (qS91 _ _ (qb87 _ _ hs_y66)) (by decide)).trans emb9)) ((hg365 b1 12 0 16 (qr356 _ _ (qS91 _ _ (qb87 _ _ hk68))) (by decide)).trans ((hg357 b1 12 0 16 (qS91 _ _ (qb87 _ _ hk68)) (by decide)).trans exsh9)) ((hg365 b39 13 0 89 (qr356 _ _ (qS91 _ _ (qb87 _ _ hs_y66))) (by decide)).trans ((hg357 b39 13 0 89 (qS91 _ _ (qb87 _ _ hs_y66)) (by decide)).trans emsh9)) ((hg365 b1 12 0 17 (qr356 _ _ (qS91 _ _ (qb87 _ _ hk68))) (by decide)).trans ((hg357 b1 12 0 17 (qS91 _ _ (qb87 _ _ hk68)) (by decide)).trans exsp9)) ((hg365 b39 13 0 90 (qr356 _ _ (qS91 _ _ (qb87 _ _ hs_y66))) (by decide)).trans ((hg357 b39 13 0 90 (qS91 _ _ (qb87 _ _ hs_y66)) (by decide)).trans emsp9)) ((hg365 b39 13 0 17 (qr356 _ _ (qS91 _ _ (qb87 _ _ hs_y66))) (by decide)).trans ((hg357 b39 13 0 17 (qS91 _ _ (qb87 _ _ hs_y66)) (by decide)).trans emsm9)) (xWn.m (xWn.m wn9 (qS91 _ _ (qb87 _ _ hk74)) (qS91 _ _ (qb87 _ _ hk81)) hg357 qr356 (by decide)) (qr356 _ _ (qS91 _ _ (qb87 _ _ hk74))) (qr356 _ _ (qS91 _ _ (qb87 _ _ hk81))) hg365 xLe.rf (by decide)) (by rw [(Eq.trans (xv_m hg365 (qr356 _ _ (qS91 _ _ (qb87 _ _ hk72))) (by decide) (by decide)) (xv_m hg357 (qS91 _ _ (qb87 _ _ hk72)) (by decide) (by decide))), (Eq.trans (xv_m hg365 (qr356 _ _ (qS91 _ _ (qb87 _ _ hk79))) (by decide) (by decide)) (xv_m hg357 (qS91 _ _ (qb87 _ _ hk79)) (by decide) (by decide)))]; exact wt9) (by rw [(Eq.trans (xv_m hg365 (qr356 _ _ (qS91 _ _ (qb87 _ _ hk73))) (by decide) (by decide)) (xv_m hg357 (qS91 _ _ (qb87 _ _ hk73)) (by decide) (by decide))), (Eq.trans (xv_m hg365 (qr356 _ _ (qS91 _ _ (qb87 _ _ hk80))) (by decide) (by decide)) (xv_m hg357 (qS91 _ _ (qb87 _ _ hk80)) (by decide) (by decide)))]; exact ld9) (by rw [(Eq.trans (xv_m hg365 (qr356 _ _ (qS91 _ _ (qb87 _ _ hk71))) (by decide) (by decide)) (xv_m hg357 (qS91 _ _ (qb87 _ _ hk71)) (by decide) (by decide))), (Eq.trans (xv_m hg365 (qr356 _ _ (qS91 _ _ (qb87 _ _ hs_b86))) (by decide) (by decide)) (xv_m hg357 (qS91 _ _ (qb87 _ _ hs_b86)) (by decide) (by decide)))]; exact sk9) (by rw [(Eq.trans (xv_m hg365 (qr356 _ _ (qS91 _ _ (qb87 _ _ hs_b84))) (by decide) (by decide)) (xv_m hg357 (qS91 _ _ (qb87 _ _ hs_b84)) (by decide) (by decide))), (Eq.trans (xv_m hg365 (qr356 _ _ (qS91 _ _ (qb87 _ _ hs_b85))) (by decide) (by decide)) (xv_m hg357 (qS91 _ _ (qb87 _ _ hs_b85)) (by decide) (by decide)))]; exact xTc.mono tc9 (by omega)) (dc9 + dcr356) (ds9 + dsr356) (by omega) (by omega) (by omega)
        · refine X_tableIn hK 914 18 (by decide) c96 (by decide) (by decide) dL_law_40 rfl (by decide) ?_
          refine X_aloadn hK (i := 1) 3 dL_law_914 rfl rfl ?_
          refine X_aloadn hK (i := 0) 4 dL_law_915 rfl rfl ?_
          refine X_iload hK (i := 4) 0 dL_law_916 rfl ?_
          refine X_iconst hK dL_law_918 ?_
          refine X_iadd hK dL_law_919 ?_
          refine X_scr hK hX hbl hbA hL (by omega) (by omega) dL_law_920 (fun z369 ez369 lz369 uz369 => ?_)
          refine X_aloadn hK (i := 0) 4 dL_law_921 rfl rfl ?_
          refine X_iload hK (i := 4) 0 dL_law_922 rfl ?_
          refine X_iconst hK dL_law_924 ?_
          refine X_iadd hK dL_law_925 ?_
          refine X_scr hK hX hbl hbA hL (by omega) (by omega) dL_law_926 (fun z370 ez370 lz370 uz370 => ?_)
          refine X_aloadn hK (i := 3) 1 dL_law_927 rfl rfl ?_
          refine X_callSW hK hts hT hp3 (n := 4) [.ref b1, .int (iI z369), .int (iI z370), .ref b87] [] gl_L_of (by decide +kernel) (cw_L_of _ hst _ _ _ _ S91 g92 b1 b87 z369 z370 (qS91 _ _ (qb87 _ _ hk68)) (qS91 _ _ hs_b87) (by omega) (by omega) al9) dL_law_928 rfl rfl (by simp [Value.category]) (by decide) (by omega) (by omega) (by decide) (fun r372 S373 g374 pr372 qr372 hg374 => ?_)
          obtain ⟨rfl, z371, rfl⟩ := pr372
          refine X_st [.int (iI z371)] rfl ?_
          refine X_istore hK (i := 5) [(5, .int (iI z371)), (4, .int (iI i9)), (3, .ref b87), (2, .ref b39), (1, .ref b1), (0, .ref b)] dL_law_931 (by decide) rfl ?_
          refine X_aloadn hK (i := 2) 3 dL_law_933 rfl rfl ?_
          refine X_aloadn hK (i := 0) 5 dL_law_934 rfl rfl ?_
          refine X_iload hK (i := 4) 1 dL_law_935 rfl ?_
          refine X_iconst hK dL_law_937 ?_
          refine X_iadd hK dL_law_938 ?_
          refine X_scrK hK hX hbl hbA hL (by omega) (by omega) ez369 dL_law_939 ?_
          refine X_aloadn hK (i := 0) 5 dL_law_940 rfl rfl ?_
          refine X_iload hK (i := 4) 1 dL_law_941 rfl ?_
          refine X_iconst hK dL_law_943 ?_
          refine X_iadd hK dL_law_944 ?_
          refine X_scrK hK hX hbl hbA hL (by omega) (by omega) ez370 dL_law_945 ?_
          refine X_callV hK [.int (iI z369), .int (iI z370)] [] lk_L_108 (c_X12_of _ _ _ _ _ S91 g374 b39 z369 z370 (qS91 _ _ (qb87 _ _ hs_y66)) (by omega) (by omega)) (qS91 _ _ (qb87 _ _ hs_y66)) ⟨by decide, rfl⟩ dL_law_946 rfl rfl (by simp [Value.category]) (by decide) (by omega) (by omega) (by decide) (fun r375 S377 g376 pr375 qr375 hg376 => ?_)
          obtain ⟨rfl, z378, rfl, lz378, uz378⟩ := pr375
          refine X_st [.int (iI z378)] rfl ?_
          refine X_istore hK (i := 6) [(6, .int (iI z378)), (5, .int (iI z371)), (4, .int (iI i9)), (3, .ref b87), (2, .ref b39), (1, .ref b1), (0, .ref b)] dL_law_949 (by decide) rfl ?_
          refine X_goto hK 1465 dL_law_951 (by decide) ?_
          refine X_iinc hK (i := 4) (z := i9) (n := 6) 2 [(4, .int (iI (i9 + 6))), (6, .int (iI z378)), (5, .int (iI z371)), (3, .ref b87), (2, .ref b39), (1, .ref b1), (0, .ref b)] dL_law_1465 rfl (by decide) rfl ?_
          refine X_goto hK 23 dL_law_1468 (by decide) ?_
          refine X_lv [(4, .int (iI (i9 + 6))), (3, .ref b87), (2, .ref b39), (1, .ref b1), (0, .ref b)] [0, 3, 4, 5, 6] rfl ?_
          exact ih9 S91 qS91 g376 (i9 + 6) k9 t9 c9 b9 sh9 sp9 sm9 (by omega) (by omega) (by omega) (by omega) (by omega) (by omega) (by omega) (by omega) (xLs_mod (xLs_mod al9 hg374 (by decide)) hg376 (by decide)) si9 (xPi_m (xPi_m pi9 hg374 xLe.rf (by decide)) hg376 xLe.rf (by decide)) (xMp_m (xMp_m mp9 hg374 xLe.rf (by decide)) hg376 xLe.rf (by decide)) (xTw_m (xTw_m tw9 hg374 xLe.rf (by decide)) hg376 xLe.rf (by decide)) (xTW_m (xTW_m tkw9 hg374 xLe.rf (by decide)) hg376 xLe.rf (by decide)) ((hg376 b1 12 0 0 (qS91 _ _ (qb87 _ _ hk68)) (by decide)).trans ((hg374 b1 12 0 0 (qS91 _ _ (qb87 _ _ hk68)) (by decide)).trans el09)) ((hg376 b1 12 0 3 (qS91 _ _ (qb87 _ _ hk68)) (by decide)).trans ((hg374 b1 12 0 3 (qS91 _ _ (qb87 _ _ hk68)) (by decide)).trans el19)) ((hg376 b1 12 0 1 (qS91 _ _ (qb87 _ _ hk68)) (by decide)).trans ((hg374 b1 12 0 1 (qS91 _ _ (qb87 _ _ hk68)) (by decide)).trans el29)) ((hg376 b37 6 0 1 (qS91 _ _ (qb87 _ _ hk77)) (by decide)).trans ((hg374 b37 6 0 1 (qS91 _ _ (qb87 _ _ hk77)) (by decide)).trans el39)) ((hg376 b1 12 0 2 (qS91 _ _ (qb87 _ _ hk68)) (by decide)).trans ((hg374 b1 12 0 2 (qS91 _ _ (qb87 _ _ hk68)) (by decide)).trans el49)) ((hg376 b19 4 0 0 (qS91 _ _ (qb87 _ _ hk69)) (by decide)).trans ((hg374 b19 4 0 0 (qS91 _ _ (qb87 _ _ hk69)) (by decide)).trans el59)) ((hg376 b19 4 0 2 (qS91 _ _ (qb87 _ _ hk69)) (by decide)).trans ((hg374 b19 4 0 2 (qS91 _ _ (qb87 _ _ hk69)) (by decide)).trans el69)) ((hg376 b19 4 0 3 (qS91 _ _ (qb87 _ _ hk69)) (by decide)).trans ((hg374 b19 4 0 3 (qS91 _ _ (qb87 _ _ hk69)) (by decide)).trans el79)) ((hg376 b19 4 0 4 (qS91 _ _ (qb87 _ _ hk69)) (by decide)).trans ((hg374 b19 4 0 4 (qS91 _ _ (qb87 _ _ hk69)) (by decide)).trans el89)) ((hg376 b35 10 0 0 (qS91 _ _ (qb87 _ _ hk75)) (by decide)).trans ((hg374 b35 10 0 0 (qS91 _ _ (qb87 _ _ hk75)) (by decide)).trans el99)) ((hg376 b39 13 0 1 (qS91 _ _ (qb87 _ _ hs_y66)) (by decide)).trans ((hg374 b39 13 0 1 (qS91 _ _ (qb87 _ _ hs_y66)) (by decide)).trans el109)) ((hg376 b39 13 0 10 (qS91 _ _ (qb87 _ _ hs_y66)) (by decide)).trans ((hg374 b39 13 0 10 (qS91 _ _ (qb87 _ _ hs_y66)) (by decide)).trans el119)) ((hg376 b39 13 0 13 (qS91 _ _ (qb87 _ _ hs_y66)) (by decide)).trans ((hg374 b39 13 0 13 (qS91 _ _ (qb87 _ _ hs_y66)) (by decide)).trans el129)) ((hg376 b39 13 0 14 (qS91 _ _ (qb87 _ _ hs_y66)) (by decide)).trans ((hg374 b39 13 0 14 (qS91 _ _ (qb87 _ _ hs_y66)) (by decide)).trans el139)) ((hg376 b39 13 0 12 (qS91 _ _ (qb87 _ _ hs_y66)) (by decide)).trans ((hg374 b39 13 0 12 (qS91 _ _ (qb87 _ _ hs_y66)) (by decide)).trans el149)) ((hg376 b35 10 0 1 (qS91 _ _ (qb87 _ _ hk75)) (by decide)).trans ((hg374 b35 10 0 1 (qS91 _ _ (qb87 _ _ hk75)) (by decide)).trans exk9)) ((hg376 b39 13 0 2 (qS91 _ _ (qb87 _ _ hs_y66)) (by decide)).trans ((hg374 b39 13 0 2 (qS91 _ _ (qb87 _ _ hs_y66)) (by decide)).trans emk9)) ((hg376 b1 12 0 12 (qS91 _ _ (qb87 _ _ hk68)) (by decide)).trans ((hg374 b1 12 0 12 (qS91 _ _ (qb87 _ _ hk68)) (by decide)).trans ext9)) ((hg376 b39 13 0 3 (qS91 _ _ (qb87 _ _ hs_y66)) (by decide)).trans ((hg374 b39 13 0 3 (qS91 _ _ (qb87 _ _ hs_y66)) (by decide)).trans emt9)) ((hg376 b36 5 0 3 (qS91 _ _ (qb87 _ _ hk76)) (by decide)).trans ((hg374 b36 5 0 3 (qS91 _ _ (qb87 _ _ hk76)) (by decide)).trans exc9)) ((hg376 b39 13 0 69 (qS91 _ _ (qb87 _ _ hs_y66)) (by decide)).trans ((hg374 b39 13 0 69 (qS91 _ _ (qb87 _ _ hs_y66)) (by decide)).trans emc9)) ((hg376 b38 0 0 2 (qS91 _ _ (qb87 _ _ hk78)) (by decide)).trans ((hg374 b38 0 0 2 (qS91 _ _ (qb87 _ _ hk78)) (by decide)).trans exb9)) ((hg376 b39 13 0 16 (qS91 _ _ (qb87 _ _ hs_y66)) (by decide)).trans ((hg374 b39 13 0 16 (qS91 _ _ (qb87 _ _ hs_y66)) (by decide)).trans emb9)) ((hg376 b1 12 0 16 (qS91 _ _ (qb87 _ _ hk68)) (by decide)).trans ((hg374 b1 12 0 16 (qS91 _ _ (qb87 _ _ hk68)) (by decide)).trans exsh9)) ((hg376 b39 13 0 89 (qS91 _ _ (qb87 _ _ hs_y66)) (by decide)).trans ((hg374 b39 13 0 89 (qS91 _ _ (qb87 _ _ hs_y66)) (by decide)).trans emsh9)) ((hg376 b1 12 0 17 (qS91 _ _ (qb87 _ _ hk68)) (by decide)).trans ((hg374 b1 12 0 17 (qS91 _ _ (qb87 _ _ hk68)) (by decide)).trans exsp9)) ((hg376 b39 13 0 90 (qS91 _ _ (qb87 _ _ hs_y66)) (by decide)).trans ((hg374 b39 13 0 90 (qS91 _ _ (qb87 _ _ hs_y66)) (by decide)).trans emsp9)) ((hg376 b39 13 0 17 (qS91 _ _ (qb87 _ _ hs_y66)) (by decide)).trans ((hg374 b39 13 0 17 (qS91 _ _ (qb87 _ _ hs_y66)) (by decide)).trans emsm9)) (xWn.m (xWn.m wn9 (qS91 _ _ (qb87 _ _ hk74)) (qS91 _ _ (qb87 _ _ hk81)) hg374 xLe.rf (by decide)) (qS91 _ _ (qb87 _ _ hk74)) (qS91 _ _ (qb87 _ _ hk81)) hg376 xLe.rf (by decide)) (by rw [(Eq.trans (xv_m hg376 (qS91 _ _ (qb87 _ _ hk72)) (by decide) (by decide)) (xv_m hg374 (qS91 _ _ (qb87 _ _ hk72)) (by decide) (by decide))), (Eq.trans (xv_m hg376 (qS91 _ _ (qb87 _ _ hk79)) (by decide) (by decide)) (xv_m hg374 (qS91 _ _ (qb87 _ _ hk79)) (by decide) (by decide)))]; exact wt9) (by rw [(Eq.trans (xv_m hg376 (qS91 _ _ (qb87 _ _ hk73)) (by decide) (by decide)) (xv_m hg374 (qS91 _ _ (qb87 _ _ hk73)) (by decide) (by decide))), (Eq.trans (xv_m hg376 (qS91 _ _ (qb87 _ _ hk80)) (by decide) (by decide)) (xv_m hg374 (qS91 _ _ (qb87 _ _ hk80)) (by decide) (by decide)))]; exact ld9) (by rw [(Eq.trans (xv_m hg376 (qS91 _ _ (qb87 _ _ hk71)) (by decide) (by decide)) (xv_m hg374 (qS91 _ _ (qb87 _ _ hk71)) (by decide) (by decide))), (Eq.trans (xv_m hg376 (qS91 _ _ (qb87 _ _ hs_b86)) (by decide) (by decide)) (xv_m hg374 (qS91 _ _ (qb87 _ _ hs_b86)) (by decide) (by decide)))]; exact sk9) (by rw [(Eq.trans (xv_m hg376 (qS91 _ _ (qb87 _ _ hs_b84)) (by decide) (by decide)) (xv_m hg374 (qS91 _ _ (qb87 _ _ hs_b84)) (by decide) (by decide))), (Eq.trans (xv_m hg376 (qS91 _ _ (qb87 _ _ hs_b85)) (by decide) (by decide)) (xv_m hg374 (qS91 _ _ (qb87 _ _ hs_b85)) (by decide) (by decide)))]; exact xTc.mono tc9 (by omega)) (dc9 + 1) (ds9 + 6) (by omega) (by omega) (by omega)
        · refine X_tableIn hK 954 19 (by decide) c96 (by decide) (by decide) dL_law_40 rfl (by decide) ?_
          refine X_aloadn hK (i := 1) 3 dL_law_954 rfl rfl ?_
          refine X_aloadn hK (i := 0) 4 dL_law_955 rfl rfl ?_
          refine X_iload hK (i := 4) 0 dL_law_956 rfl ?_
          refine X_iconst hK dL_law_958 ?_
          refine X_iadd hK dL_law_959 ?_
          refine X_scr hK hX hbl hbA hL (by omega) (by omega) dL_law_960 (fun z379 ez379 lz379 uz379 => ?_)
          refine X_aloadn hK (i := 3) 1 dL_law_961 rfl rfl ?_
          refine X_callSW hK hts hT hp3 (n := 3) [.ref b1, .int (iI z379), .ref b87] [] gl_L_coin (by decide +kernel) (cw_L_coin _ hst _ _ _ _ S91 g92 b1 b87 z379 (qS91 _ _ (qb87 _ _ hk68)) (qS91 _ _ hs_b87) (by omega) al9) dL_law_962 rfl rfl (by simp [Value.category]) (by decide) (by omega) (by omega) (by decide) (fun r381 S382 g383 pr381 qr381 hg383 => ?_)
          obtain ⟨rfl, z380, rfl⟩ := pr381
          refine X_st [.int (iI z380)] rfl ?_
          refine X_istore hK (i := 5) [(5, .int (iI z380)), (4, .int (iI i9)), (3, .ref b87), (2, .ref b39), (1, .ref b1), (0, .ref b)] dL_law_965 (by decide) rfl ?_
          refine X_aloadn hK (i := 2) 3 dL_law_967 rfl rfl ?_
          refine X_aloadn hK (i := 0) 5 dL_law_968 rfl rfl ?_
          refine X_iload hK (i := 4) 1 dL_law_969 rfl ?_
          refine X_iconst hK dL_law_971 ?_
          refine X_iadd hK dL_law_972 ?_
          refine X_scrK hK hX hbl hbA hL (by omega) (by omega) ez379 dL_law_973 ?_
          refine X_callV hK [.int (iI z379)] [] lk_L_112 (c_X12_coin _ _ _ _ _ S91 g383 b39 z379 (qS91 _ _ (qb87 _ _ hs_y66)) (by omega)) (qS91 _ _ (qb87 _ _ hs_y66)) ⟨by decide, rfl⟩ dL_law_974 rfl rfl (by simp [Value.category]) (by decide) (by omega) (by omega) (by decide) (fun r384 S386 g385 pr384 qr384 hg385 => ?_)
          obtain ⟨rfl, z387, rfl, lz387, uz387⟩ := pr384
          refine X_st [.int (iI z387)] rfl ?_
          refine X_istore hK (i := 6) [(6, .int (iI z387)), (5, .int (iI z380)), (4, .int (iI i9)), (3, .ref b87), (2, .ref b39), (1, .ref b1), (0, .ref b)] dL_law_977 (by decide) rfl ?_
          refine X_goto hK 1465 dL_law_979 (by decide) ?_
          refine X_iinc hK (i := 4) (z := i9) (n := 6) 2 [(4, .int (iI (i9 + 6))), (6, .int (iI z387)), (5, .int (iI z380)), (3, .ref b87), (2, .ref b39), (1, .ref b1), (0, .ref b)] dL_law_1465 rfl (by decide) rfl ?_
          refine X_goto hK 23 dL_law_1468 (by decide) ?_
          refine X_lv [(4, .int (iI (i9 + 6))), (3, .ref b87), (2, .ref b39), (1, .ref b1), (0, .ref b)] [0, 3, 4, 5, 6] rfl ?_
          exact ih9 S91 qS91 g385 (i9 + 6) k9 t9 c9 b9 sh9 sp9 sm9 (by omega) (by omega) (by omega) (by omega) (by omega) (by omega) (by omega) (by omega) (xLs_mod (xLs_mod al9 hg383 (by decide)) hg385 (by decide)) si9 (xPi_m (xPi_m pi9 hg383 xLe.rf (by decide)) hg385 xLe.rf (by decide)) (xMp_m (xMp_m mp9 hg383 xLe.rf (by decide)) hg385 xLe.rf (by decide)) (xTw_m (xTw_m tw9 hg383 xLe.rf (by decide)) hg385 xLe.rf (by decide)) (xTW_m (xTW_m tkw9 hg383 xLe.rf (by decide)) hg385 xLe.rf (by decide)) ((hg385 b1 12 0 0 (qS91 _ _ (qb87 _ _ hk68)) (by decide)).trans ((hg383 b1 12 0 0 (qS91 _ _ (qb87 _ _ hk68)) (by decide)).trans el09)) ((hg385 b1 12 0 3 (qS91 _ _ (qb87 _ _ hk68)) (by decide)).trans ((hg383 b1 12 0 3 (qS91 _ _ (qb87 _ _ hk68)) (by decide)).trans el19)) ((hg385 b1 12 0 1 (qS91 _ _ (qb87 _ _ hk68)) (by decide)).trans ((hg383 b1 12 0 1 (qS91 _ _ (qb87 _ _ hk68)) (by decide)).trans el29)) ((hg385 b37 6 0 1 (qS91 _ _ (qb87 _ _ hk77)) (by decide)).trans ((hg383 b37 6 0 1 (qS91 _ _ (qb87 _ _ hk77)) (by decide)).trans el39)) ((hg385 b1 12 0 2 (qS91 _ _ (qb87 _ _ hk68)) (by decide)).trans ((hg383 b1 12 0 2 (qS91 _ _ (qb87 _ _ hk68)) (by decide)).trans el49)) ((hg385 b19 4 0 0 (qS91 _ _ (qb87 _ _ hk69)) (by decide)).trans ((hg383 b19 4 0 0 (qS91 _ _ (qb87 _ _ hk69)) (by decide)).trans el59)) ((hg385 b19 4 0 2 (qS91 _ _ (qb87 _ _ hk69)) (by decide)).trans ((hg383 b19 4 0 2 (qS91 _ _ (qb87 _ _ hk69)) (by decide)).trans el69)) ((hg385 b19 4 0 3 (qS91 _ _ (qb87 _ _ hk69)) (by decide)).trans ((hg383 b19 4 0 3 (qS91 _ _ (qb87 _ _ hk69)) (by decide)).trans el79)) ((hg385 b19 4 0 4 (qS91 _ _ (qb87 _ _ hk69)) (by decide)).trans ((hg383 b19 4 0 4 (qS91 _ _ (qb87 _ _ hk69)) (by decide)).trans el89)) ((hg385 b35 10 0 0 (qS91 _ _ (qb87 _ _ hk75)) (by decide)).trans ((hg383 b35 10 0 0 (qS91 _ _ (qb87 _ _ hk75)) (by decide)).trans el99)) ((hg385 b39 13 0 1 (qS91 _ _ (qb87 _ _ hs_y66)) (by decide)).trans ((hg383 b39 13 0 1 (qS91 _ _ (qb87 _ _ hs_y66)) (by decide)).trans el109)) ((hg385 b39 13 0 10 (qS91 _ _ (qb87 _ _ hs_y66)) (by decide)).trans ((hg383 b39 13 0 10 (qS91 _ _ (qb87 _ _ hs_y66)) (by decide)).trans el119)) ((hg385 b39 13 0 13 (qS91 _ _ (qb87 _ _ hs_y66)) (by decide)).trans ((hg383 b39 13 0 13 (qS91 _ _ (qb87 _ _ hs_y66)) (by decide)).trans el129)) ((hg385 b39 13 0 14 (qS91 _ _ (qb87 _ _ hs_y66)) (by decide)).trans ((hg383 b39 13 0 14 (qS91 _ _ (qb87 _ _ hs_y66)) (by decide)).trans el139)) ((hg385 b39 13 0 12 (qS91 _ _ (qb87 _ _ hs_y66)) (by decide)).trans ((hg383 b39 13 0 12 (qS91 _ _ (qb87 _ _ hs_y66)) (by decide)).trans el149)) ((hg385 b35 10 0 1 (qS91 _ _ (qb87 _ _ hk75)) (by decide)).trans ((hg383 b35 10 0 1 (qS91 _ _ (qb87 _ _ hk75)) (by decide)).trans exk9)) ((hg385 b39 13 0 2 (qS91 _ _ (qb87 _ _ hs_y66)) (by decide)).trans ((hg383 b39 13 0 2 (qS91 _ _ (qb87 _ _ hs_y66)) (by decide)).trans emk9)) ((hg385 b1 12 0 12 (qS91 _ _ (qb87 _ _ hk68)) (by decide)).trans ((hg383 b1 12 0 12 (qS91 _ _ (qb87 _ _ hk68)) (by decide)).trans ext9)) ((hg385 b39 13 0 3 (qS91 _ _ (qb87 _ _ hs_y66)) (by decide)).trans ((hg383 b39 13 0 3 (qS91 _ _ (qb87 _ _ hs_y66)) (by decide)).trans emt9)) ((hg385 b36 5 0 3 (qS91 _ _ (qb87 _ _ hk76)) (by decide)).trans ((hg383 b36 5 0 3 (qS91 _ _ (qb87 _ _ hk76)) (by decide)).trans exc9)) ((hg385 b39 13 0 69 (qS91 _ _ (qb87 _ _ hs_y66)) (by decide)).trans ((hg383 b39 13 0 69 (qS91 _ _ (qb87 _ _ hs_y66)) (by decide)).trans emc9)) ((hg385 b38 0 0 2 (qS91 _ _ (qb87 _ _ hk78)) (by decide)).trans ((hg383 b38 0 0 2 (qS91 _ _ (qb87 _ _ hk78)) (by decide)).trans exb9)) ((hg385 b39 13 0 16 (qS91 _ _ (qb87 _ _ hs_y66)) (by decide)).trans ((hg383 b39 13 0 16 (qS91 _ _ (qb87 _ _ hs_y66)) (by decide)).trans emb9)) ((hg385 b1 12 0 16 (qS91 _ _ (qb87 _ _ hk68)) (by decide)).trans ((hg383 b1 12 0 16 (qS91 _ _ (qb87 _ _ hk68)) (by decide)).trans exsh9)) ((hg385 b39 13 0 89 (qS91 _ _ (qb87 _ _ hs_y66)) (by decide)).trans ((hg383 b39 13 0 89 (qS91 _ _ (qb87 _ _ hs_y66)) (by decide)).trans emsh9)) ((hg385 b1 12 0 17 (qS91 _ _ (qb87 _ _ hk68)) (by decide)).trans ((hg383 b1 12 0 17 (qS91 _ _ (qb87 _ _ hk68)) (by decide)).trans exsp9)) ((hg385 b39 13 0 90 (qS91 _ _ (qb87 _ _ hs_y66)) (by decide)).trans ((hg383 b39 13 0 90 (qS91 _ _ (qb87 _ _ hs_y66)) (by decide)).trans emsp9)) ((hg385 b39 13 0 17 (qS91 _ _ (qb87 _ _ hs_y66)) (by decide)).trans ((hg383 b39 13 0 17 (qS91 _ _ (qb87 _ _ hs_y66)) (by decide)).trans emsm9)) (xWn.m (xWn.m wn9 (qS91 _ _ (qb87 _ _ hk74)) (qS91 _ _ (qb87 _ _ hk81)) hg383 xLe.rf (by decide)) (qS91 _ _ (qb87 _ _ hk74)) (qS91 _ _ (qb87 _ _ hk81)) hg385 xLe.rf (by decide)) (by rw [(Eq.trans (xv_m hg385 (qS91 _ _ (qb87 _ _ hk72)) (by decide) (by decide)) (xv_m hg383 (qS91 _ _ (qb87 _ _ hk72)) (by decide) (by decide))), (Eq.trans (xv_m hg385 (qS91 _ _ (qb87 _ _ hk79)) (by decide) (by decide)) (xv_m hg383 (qS91 _ _ (qb87 _ _ hk79)) (by decide) (by decide)))]; exact wt9) (by rw [(Eq.trans (xv_m hg385 (qS91 _ _ (qb87 _ _ hk73)) (by decide) (by decide)) (xv_m hg383 (qS91 _ _ (qb87 _ _ hk73)) (by decide) (by decide))), (Eq.trans (xv_m hg385 (qS91 _ _ (qb87 _ _ hk80)) (by decide) (by decide)) (xv_m hg383 (qS91 _ _ (qb87 _ _ hk80)) (by decide) (by decide)))]; exact ld9) (by rw [(Eq.trans (xv_m hg385 (qS91 _ _ (qb87 _ _ hk71)) (by decide) (by decide)) (xv_m hg383 (qS91 _ _ (qb87 _ _ hk71)) (by decide) (by decide))), (Eq.trans (xv_m hg385 (qS91 _ _ (qb87 _ _ hs_b86)) (by decide) (by decide)) (xv_m hg383 (qS91 _ _ (qb87 _ _ hs_b86)) (by decide) (by decide)))]; exact sk9) (by rw [(Eq.trans (xv_m hg385 (qS91 _ _ (qb87 _ _ hs_b84)) (by decide) (by decide)) (xv_m hg383 (qS91 _ _ (qb87 _ _ hs_b84)) (by decide) (by decide))), (Eq.trans (xv_m hg385 (qS91 _ _ (qb87 _ _ hs_b85)) (by decide) (by decide)) (xv_m hg383 (qS91 _ _ (qb87 _ _ hs_b85)) (by decide) (by decide)))]; exact xTc.mono tc9 (by omega)) (dc9 + 1) (ds9 + 6) (by omega) (by omega) (by omega)
        · refine X_tableIn hK 982 20 (by decide) c96 (by decide) (by decide) dL_law_40 rfl (by decide) ?_
          refine X_aloadn hK (i := 1) 3 dL_law_982 rfl rfl ?_
          refine X_aloadn hK (i := 0) 4 dL_law_983 rfl rfl ?_
          refine X_iload hK (i := 4) 0 dL_law_984 rfl ?_
          refine X_iconst hK dL_law_986 ?_
          refine X_iadd hK dL_law_987 ?_
          refine X_scr hK hX hbl hbA hL (by omega) (by omega) dL_law_988 (fun z388 ez388 lz388 uz388 => ?_)
          refine X_aloadn hK (i := 0) 4 dL_law_989 rfl rfl ?_
          refine X_iload hK (i := 4) 0 dL_law_990 rfl ?_
          refine X_iconst hK dL_law_992 ?_
          refine X_iadd hK dL_law_993 ?_
          refine X_scr hK hX hbl hbA hL (by omega) (by omega) dL_law_994 (fun z389 ez389 lz389 uz389 => ?_)
          refine X_aloadn hK (i := 0) 4 dL_law_995 rfl rfl ?_
          refine X_iload hK (i := 4) 0 dL_law_996 rfl ?_
          refine X_iconst hK dL_law_998 ?_
          refine X_iadd hK dL_law_999 ?_
          refine X_scr hK hX hbl hbA hL (by omega) (by omega) dL_law_1000 (fun z390 ez390 lz390 uz390 => ?_)
          refine X_aloadn hK (i := 0) 4 dL_law_1001 rfl rfl ?_
          refine X_iload hK (i := 4) 0 dL_law_1002 rfl ?_
          refine X_iconst hK dL_law_1004 ?_
          refine X_iadd hK dL_law_1005 ?_
          refine X_scr hK hX hbl hbA hL (by omega) (by omega) dL_law_1006 (fun z391 ez391 lz391 uz391 => ?_)
          refine X_callV hK [.int (iI z388), .int (iI z389), .int (iI z390), .int (iI z391)] [] lk_L_113 (c_X11_counted _ _ _ _ _ S91 g92 b1 z388 z389 z390 z391 b36 c9 t9 (qS91 _ _ (qb87 _ _ hk68)) (by omega) (by omega) (by omega) (by omega) el19 (qS91 _ _ (qb87 _ _ hk76)) (by omega) exc9 (by omega) ext9) (qS91 _ _ (qb87 _ _ hk68)) ⟨by decide, rfl⟩ dL_law_1007 rfl rfl (by simp [Value.category]) (by decide) (by omega) (by omega) (by decide) (fun r392 S394 g393 pr392 qr392 hg393 => ?_)
          obtain ⟨rfl, z395, rfl, lz395, uz395, k396, k397⟩ := pr392
          refine X_st [.int (iI z395)] rfl ?_
          refine X_pop hK dL_law_1010 rfl ?_
          refine X_aloadn hK (i := 2) 2 dL_law_1011 rfl rfl ?_
          refine X_aloadn hK (i := 0) 4 dL_law_1012 rfl rfl ?_
          refine X_iload hK (i := 4) 0 dL_law_1013 rfl ?_
          refine X_iconst hK dL_law_1015 ?_
          refine X_iadd hK dL_law_1016 ?_
          refine X_scrK hK hX hbl hbA hL (by omega) (by omega) ez388 dL_law_1017 ?_
          refine X_aloadn hK (i := 0) 4 dL_law_1018 rfl rfl ?_
          refine X_iload hK (i := 4) 0 dL_law_1019 rfl ?_
          refine X_iconst hK dL_law_1021 ?_
          refine X_iadd hK dL_law_1022 ?_
          refine X_scrK hK hX hbl hbA hL (by omega) (by omega) ez389 dL_law_1023 ?_
          refine X_aloadn hK (i := 0) 4 dL_law_1024 rfl rfl ?_
          refine X_iload hK (i := 4) 0 dL_law_1025 rfl ?_
          refine X_iconst hK dL_law_1027 ?_
          refine X_iadd hK dL_law_1028 ?_
          refine X_scrK hK hX hbl hbA hL (by omega) (by omega) ez390 dL_law_1029 ?_
          refine X_aloadn hK (i := 0) 4 dL_law_1030 rfl rfl ?_
          refine X_iload hK (i := 4) 0 dL_law_1031 rfl ?_
          refine X_iconst hK dL_law_1033 ?_
          refine X_iadd hK dL_law_1034 ?_
          refine X_scrK hK hX hbl hbA hL (by omega) (by omega) ez391 dL_law_1035 ?_
          refine X_callV hK [.int (iI z388), .int (iI z389), .int (iI z390), .int (iI z391)] [] lk_L_116 (c_X12_counted _ _ _ _ _ S91 g393 b39 z388 z389 z390 z391 c9 t9 (qS91 _ _ (qb87 _ _ hs_y66)) (by omega) (by omega) (by omega) (by omega) (by omega) ((hg393 b39 13 0 69 (qS91 _ _ (qb87 _ _ hs_y66)) (by decide)).trans emc9) (by omega) ((hg393 b39 13 0 3 (qS91 _ _ (qb87 _ _ hs_y66)) (by decide)).trans emt9)) (qS91 _ _ (qb87 _ _ hs_y66)) ⟨by decide, rfl⟩ dL_law_1036 rfl rfl (by simp [Value.category]) (by decide) (by omega) (by omega) (by decide) (fun r398 S400 g399 pr398 qr398 hg399 => ?_)
          obtain ⟨rfl, z401, rfl, lz401, uz401, k402, k403⟩ := pr398
          refine X_st [.int (iI z401)] rfl ?_
          refine X_pop hK dL_law_1039 rfl ?_
          refine X_goto hK 1465 dL_law_1040 (by decide) ?_
          refine X_iinc hK (i := 4) (z := i9) (n := 6) 0 [(4, .int (iI (i9 + 6))), (3, .ref b87), (2, .ref b39), (1, .ref b1), (0, .ref b)] dL_law_1465 rfl (by decide) rfl ?_
          refine X_goto hK 23 dL_law_1468 (by decide) ?_
          exact ih9 S91 qS91 g399 (i9 + 6) k9 t9 (if c9 < 60 ∧ 0 ≤ z388 ∧ z388 ≤ 3 ∧ 0 ≤ z389 ∧ z389 ≤ 9 ∧ 0 ≤ z390 ∧ z390 < t9 ∧ 0 ≤ z391 ∧ z391 ≤ 10000 then c9 + 1 else c9) b9 sh9 sp9 sm9 (by omega) (by omega) (by omega) (by first | omega | (split <;> omega)) (by omega) (by omega) (by omega) (by omega) (xLs_mod (xLs_mod al9 hg393 (by decide)) hg399 (by decide)) si9 (xPi_m (xPi_m pi9 hg393 xLe.rf (by decide)) hg399 xLe.rf (by decide)) (xMp_m (xMp_m mp9 hg393 xLe.rf (by decide)) hg399 xLe.rf (by decide)) (xTw_m (xTw_m tw9 hg393 xLe.rf (by decide)) hg399 xLe.rf (by decide)) (xTW_m (xTW_m tkw9 hg393 xLe.rf (by decide)) hg399 xLe.rf (by decide)) ((hg399 b1 12 0 0 (qS91 _ _ (qb87 _ _ hk68)) (by decide)).trans ((hg393 b1 12 0 0 (qS91 _ _ (qb87 _ _ hk68)) (by decide)).trans el09)) ((hg399 b1 12 0 3 (qS91 _ _ (qb87 _ _ hk68)) (by decide)).trans ((hg393 b1 12 0 3 (qS91 _ _ (qb87 _ _ hk68)) (by decide)).trans el19)) ((hg399 b1 12 0 1 (qS91 _ _ (qb87 _ _ hk68)) (by decide)).trans ((hg393 b1 12 0 1 (qS91 _ _ (qb87 _ _ hk68)) (by decide)).trans el29)) ((hg399 b37 6 0 1 (qS91 _ _ (qb87 _ _ hk77)) (by decide)).trans ((hg393 b37 6 0 1 (qS91 _ _ (qb87 _ _ hk77)) (by decide)).trans el39)) ((hg399 b1 12 0 2 (qS91 _ _ (qb87 _ _ hk68)) (by decide)).trans ((hg393 b1 12 0 2 (qS91 _ _ (qb87 _ _ hk68)) (by decide)).trans el49)) ((hg399 b19 4 0 0 (qS91 _ _ (qb87 _ _ hk69)) (by decide)).trans ((hg393 b19 4 0 0 (qS91 _ _ (qb87 _ _ hk69)) (by decide)).trans el59)) ((hg399 b19 4 0 2 (qS91 _ _ (qb87 _ _ hk69)) (by decide)).trans ((hg393 b19 4 0 2 (qS91 _ _ (qb87 _ _ hk69)) (by decide)).trans el69)) ((hg399 b19 4 0 3 (qS91 _ _ (qb87 _ _ hk69)) (by decide)).trans ((hg393 b19 4 0 3 (qS91 _ _ (qb87 _ _ hk69)) (by decide)).trans el79)) ((hg399 b19 4 0 4 (qS91 _ _ (qb87 _ _ hk69)) (by decide)).trans ((hg393 b19 4 0 4 (qS91 _ _ (qb87 _ _ hk69)) (by decide)).trans el89)) ((hg399 b35 10 0 0 (qS91 _ _ (qb87 _ _ hk75)) (by decide)).trans ((hg393 b35 10 0 0 (qS91 _ _ (qb87 _ _ hk75)) (by decide)).trans el99)) ((hg399 b39 13 0 1 (qS91 _ _ (qb87 _ _ hs_y66)) (by decide)).trans ((hg393 b39 13 0 1 (qS91 _ _ (qb87 _ _ hs_y66)) (by decide)).trans el109)) ((hg399 b39 13 0 10 (qS91 _ _ (qb87 _ _ hs_y66)) (by decide)).trans ((hg393 b39 13 0 10 (qS91 _ _ (qb87 _ _ hs_y66)) (by decide)).trans el119)) ((hg399 b39 13 0 13 (qS91 _ _ (qb87 _ _ hs_y66)) (by decide)).trans ((hg393 b39 13 0 13 (qS91 _ _ (qb87 _ _ hs_y66)) (by decide)).trans el129)) ((hg399 b39 13 0 14 (qS91 _ _ (qb87 _ _ hs_y66)) (by decide)).trans ((hg393 b39 13 0 14 (qS91 _ _ (qb87 _ _ hs_y66)) (by decide)).trans el139)) ((hg399 b39 13 0 12 (qS91 _ _ (qb87 _ _ hs_y66)) (by decide)).trans ((hg393 b39 13 0 12 (qS91 _ _ (qb87 _ _ hs_y66)) (by decide)).trans el149)) ((hg399 b35 10 0 1 (qS91 _ _ (qb87 _ _ hk75)) (by decide)).trans ((hg393 b35 10 0 1 (qS91 _ _ (qb87 _ _ hk75)) (by decide)).trans exk9)) ((hg399 b39 13 0 2 (qS91 _ _ (qb87 _ _ hs_y66)) (by decide)).trans ((hg393 b39 13 0 2 (qS91 _ _ (qb87 _ _ hs_y66)) (by decide)).trans emk9)) ((hg399 b1 12 0 12 (qS91 _ _ (qb87 _ _ hk68)) (by decide)).trans ((hg393 b1 12 0 12 (qS91 _ _ (qb87 _ _ hk68)) (by decide)).trans ext9)) ((hg399 b39 13 0 3 (qS91 _ _ (qb87 _ _ hs_y66)) (by decide)).trans ((hg393 b39 13 0 3 (qS91 _ _ (qb87 _ _ hs_y66)) (by decide)).trans emt9)) ((hg399 b36 5 0 3 (qS91 _ _ (qb87 _ _ hk76)) (by decide)).trans k397) k403 ((hg399 b38 0 0 2 (qS91 _ _ (qb87 _ _ hk78)) (by decide)).trans ((hg393 b38 0 0 2 (qS91 _ _ (qb87 _ _ hk78)) (by decide)).trans exb9)) ((hg399 b39 13 0 16 (qS91 _ _ (qb87 _ _ hs_y66)) (by decide)).trans ((hg393 b39 13 0 16 (qS91 _ _ (qb87 _ _ hs_y66)) (by decide)).trans emb9)) ((hg399 b1 12 0 16 (qS91 _ _ (qb87 _ _ hk68)) (by decide)).trans ((hg393 b1 12 0 16 (qS91 _ _ (qb87 _ _ hk68)) (by decide)).trans exsh9)) ((hg399 b39 13 0 89 (qS91 _ _ (qb87 _ _ hs_y66)) (by decide)).trans ((hg393 b39 13 0 89 (qS91 _ _ (qb87 _ _ hs_y66)) (by decide)).trans emsh9)) ((hg399 b1 12 0 17 (qS91 _ _ (qb87 _ _ hk68)) (by decide)).trans ((hg393 b1 12 0 17 (qS91 _ _ (qb87 _ _ hk68)) (by decide)).trans exsp9)) ((hg399 b39 13 0 90 (qS91 _ _ (qb87 _ _ hs_y66)) (by decide)).trans ((hg393 b39 13 0 90 (qS91 _ _ (qb87 _ _ hs_y66)) (by decide)).trans emsp9)) ((hg399 b39 13 0 17 (qS91 _ _ (qb87 _ _ hs_y66)) (by decide)).trans ((hg393 b39 13 0 17 (qS91 _ _ (qb87 _ _ hs_y66)) (by decide)).trans emsm9)) (xWn.m (xWn.m wn9 (qS91 _ _ (qb87 _ _ hk74)) (qS91 _ _ (qb87 _ _ hk81)) hg393 xLe.rf (by decide)) (qS91 _ _ (qb87 _ _ hk74)) (qS91 _ _ (qb87 _ _ hk81)) hg399 xLe.rf (by decide)) (by rw [(Eq.trans (xv_m hg399 (qS91 _ _ (qb87 _ _ hk72)) (by decide) (by decide)) (xv_m hg393 (qS91 _ _ (qb87 _ _ hk72)) (by decide) (by decide))), (Eq.trans (xv_m hg399 (qS91 _ _ (qb87 _ _ hk79)) (by decide) (by decide)) (xv_m hg393 (qS91 _ _ (qb87 _ _ hk79)) (by decide) (by decide)))]; exact wt9) (by rw [(Eq.trans (xv_m hg399 (qS91 _ _ (qb87 _ _ hk73)) (by decide) (by decide)) (xv_m hg393 (qS91 _ _ (qb87 _ _ hk73)) (by decide) (by decide))), (Eq.trans (xv_m hg399 (qS91 _ _ (qb87 _ _ hk80)) (by decide) (by decide)) (xv_m hg393 (qS91 _ _ (qb87 _ _ hk80)) (by decide) (by decide)))]; exact ld9) (by rw [(Eq.trans (xv_m hg399 (qS91 _ _ (qb87 _ _ hk71)) (by decide) (by decide)) (xv_m hg393 (qS91 _ _ (qb87 _ _ hk71)) (by decide) (by decide))), (Eq.trans (xv_m hg399 (qS91 _ _ (qb87 _ _ hs_b86)) (by decide) (by decide)) (xv_m hg393 (qS91 _ _ (qb87 _ _ hs_b86)) (by decide) (by decide)))]; exact sk9) (by rw [(Eq.trans (xv_m hg399 (qS91 _ _ (qb87 _ _ hs_b84)) (by decide) (by decide)) (xv_m hg393 (qS91 _ _ (qb87 _ _ hs_b84)) (by decide) (by decide))), (Eq.trans (xv_m hg399 (qS91 _ _ (qb87 _ _ hs_b85)) (by decide) (by decide)) (xv_m hg393 (qS91 _ _ (qb87 _ _ hs_b85)) (by decide) (by decide)))]; exact xTc.mono tc9 (by omega)) dc9 ds9 (by omega) (by omega) (by omega)
        · refine X_tableIn hK 1043 21 (by decide) c96 (by decide) (by decide) dL_law_40 rfl (by decide) ?_
          refine X_aloadn hK (i := 1) 3 dL_law_1043 rfl rfl ?_
          refine X_aloadn hK (i := 0) 4 dL_law_1044 rfl rfl ?_
          refine X_iload hK (i := 4) 0 dL_law_1045 rfl ?_
          refine X_iconst hK dL_law_1047 ?_
          refine X_iadd hK dL_law_1048 ?_
          refine X_scr hK hX hbl hbA hL (by omega) (by omega) dL_law_1049 (fun z404 ez404 lz404 uz404 => ?_)
          refine X_callV hK [.int (iI z404)] [] lk_L_117 (c_X11_falseCounts _ _ _ _ _ S91 g92 b1 z404 (qS91 _ _ (qb87 _ _ hk68)) (by omega) al9) (qS91 _ _ (qb87 _ _ hk68)) ⟨by decide, rfl⟩ dL_law_1050 rfl rfl (by simp [Value.category]) (by decide) (by omega) (by omega) (by decide) (fun r405 S407 g406 pr405 qr405 hg406 => ?_)
          obtain ⟨rfl, rfl, z408, rfl, lz408, uz408⟩ := pr405
          refine X_st [.int (iI z408)] rfl ?_
          refine X_pop hK dL_law_1053 rfl ?_
          refine X_aloadn hK (i := 2) 2 dL_law_1054 rfl rfl ?_
          refine X_aloadn hK (i := 0) 4 dL_law_1055 rfl rfl ?_
          refine X_iload hK (i := 4) 0 dL_law_1056 rfl ?_
          refine X_iconst hK dL_law_1058 ?_
          refine X_iadd hK dL_law_1059 ?_
          refine X_scrK hK hX hbl hbA hL (by omega) (by omega) ez404 dL_law_1060 ?_
          refine X_callV hK [.int (iI z404)] [] lk_L_120 (c_X12_falseCounts _ _ _ _ _ S91 g92 b39 z404 (qS91 _ _ (qb87 _ _ hs_y66)) (by omega)) (qS91 _ _ (qb87 _ _ hs_y66)) ⟨by decide, rfl⟩ dL_law_1061 rfl rfl (by simp [Value.category]) (by decide) (by omega) (by omega) (by decide) (fun r409 S411 g410 pr409 qr409 hg410 => ?_)
          obtain ⟨rfl, z412, rfl, lz412, uz412⟩ := pr409
          refine X_st [.int (iI z412)] rfl ?_
          refine X_pop hK dL_law_1064 rfl ?_
          refine X_goto hK 1465 dL_law_1065 (by decide) ?_
          refine X_iinc hK (i := 4) (z := i9) (n := 6) 0 [(4, .int (iI (i9 + 6))), (3, .ref b87), (2, .ref b39), (1, .ref b1), (0, .ref b)] dL_law_1465 rfl (by decide) rfl ?_
          refine X_goto hK 23 dL_law_1468 (by decide) ?_
          exact ih9 S91 qS91 g410 (i9 + 6) k9 t9 c9 b9 sh9 sp9 sm9 (by omega) (by omega) (by omega) (by omega) (by omega) (by omega) (by omega) (by omega) (xLs_mod al9 hg410 (by decide)) si9 (xPi_m pi9 hg410 xLe.rf (by decide)) (xMp_m mp9 hg410 xLe.rf (by decide)) (xTw_m tw9 hg410 xLe.rf (by decide)) (xTW_m tkw9 hg410 xLe.rf (by decide)) ((hg410 b1 12 0 0 (qS91 _ _ (qb87 _ _ hk68)) (by decide)).trans el09) ((hg410 b1 12 0 3 (qS91 _ _ (qb87 _ _ hk68)) (by decide)).trans el19) ((hg410 b1 12 0 1 (qS91 _ _ (qb87 _ _ hk68)) (by decide)).trans el29) ((hg410 b37 6 0 1 (qS91 _ _ (qb87 _ _ hk77)) (by decide)).trans el39) ((hg410 b1 12 0 2 (qS91 _ _ (qb87 _ _ hk68)) (by decide)).trans el49) ((hg410 b19 4 0 0 (qS91 _ _ (qb87 _ _ hk69)) (by decide)).trans el59) ((hg410 b19 4 0 2 (qS91 _ _ (qb87 _ _ hk69)) (by decide)).trans el69) ((hg410 b19 4 0 3 (qS91 _ _ (qb87 _ _ hk69)) (by decide)).trans el79) ((hg410 b19 4 0 4 (qS91 _ _ (qb87 _ _ hk69)) (by decide)).trans el89) ((hg410 b35 10 0 0 (qS91 _ _ (qb87 _ _ hk75)) (by decide)).trans el99) ((hg410 b39 13 0 1 (qS91 _ _ (qb87 _ _ hs_y66)) (by decide)).trans el109) ((hg410 b39 13 0 10 (qS91 _ _ (qb87 _ _ hs_y66)) (by decide)).trans el119) ((hg410 b39 13 0 13 (qS91 _ _ (qb87 _ _ hs_y66)) (by decide)).trans el129) ((hg410 b39 13 0 14 (qS91 _ _ (qb87 _ _ hs_y66)) (by decide)).trans el139) ((hg410 b39 13 0 12 (qS91 _ _ (qb87 _ _ hs_y66)) (by decide)).trans el149) ((hg410 b35 10 0 1 (qS91 _ _ (qb87 _ _ hk75)) (by decide)).trans exk9) ((hg410 b39 13 0 2 (qS91 _ _ (qb87 _ _ hs_y66)) (by decide)).trans emk9) ((hg410 b1 12 0 12 (qS91 _ _ (qb87 _ _ hk68)) (by decide)).trans ext9) ((hg410 b39 13 0 3 (qS91 _ _ (qb87 _ _ hs_y66)) (by decide)).trans emt9) ((hg410 b36 5 0 3 (qS91 _ _ (qb87 _ _ hk76)) (by decide)).trans exc9) ((hg410 b39 13 0 69 (qS91 _ _ (qb87 _ _ hs_y66)) (by decide)).trans emc9) ((hg410 b38 0 0 2 (qS91 _ _ (qb87 _ _ hk78)) (by decide)).trans exb9) ((hg410 b39 13 0 16 (qS91 _ _ (qb87 _ _ hs_y66)) (by decide)).trans emb9) ((hg410 b1 12 0 16 (qS91 _ _ (qb87 _ _ hk68)) (by decide)).trans exsh9) ((hg410 b39 13 0 89 (qS91 _ _ (qb87 _ _ hs_y66)) (by decide)).trans emsh9) ((hg410 b1 12 0 17 (qS91 _ _ (qb87 _ _ hk68)) (by decide)).trans exsp9) ((hg410 b39 13 0 90 (qS91 _ _ (qb87 _ _ hs_y66)) (by decide)).trans emsp9) ((hg410 b39 13 0 17 (qS91 _ _ (qb87 _ _ hs_y66)) (by decide)).trans emsm9) (xWn.m wn9 (qS91 _ _ (qb87 _ _ hk74)) (qS91 _ _ (qb87 _ _ hk81)) hg410 xLe.rf (by decide)) (by rw [(xv_m hg410 (qS91 _ _ (qb87 _ _ hk72)) (by decide) (by decide)), (xv_m hg410 (qS91 _ _ (qb87 _ _ hk79)) (by decide) (by decide))]; exact wt9) (by rw [(xv_m hg410 (qS91 _ _ (qb87 _ _ hk73)) (by decide) (by decide)), (xv_m hg410 (qS91 _ _ (qb87 _ _ hk80)) (by decide) (by decide))]; exact ld9) (by rw [(xv_m hg410 (qS91 _ _ (qb87 _ _ hk71)) (by decide) (by decide)), (xv_m hg410 (qS91 _ _ (qb87 _ _ hs_b86)) (by decide) (by decide))]; exact sk9) (by rw [(xv_m hg410 (qS91 _ _ (qb87 _ _ hs_b84)) (by decide) (by decide)), (xv_m hg410 (qS91 _ _ (qb87 _ _ hs_b85)) (by decide) (by decide))]; exact xTc.mono tc9 (by omega)) dc9 ds9 (by omega) (by omega) (by omega)
        · refine X_tableIn hK 1068 22 (by decide) c96 (by decide) (by decide) dL_law_40 rfl (by decide) ?_
          refine X_aloadn hK (i := 1) 3 dL_law_1068 rfl rfl ?_
          refine X_aloadn hK (i := 0) 4 dL_law_1069 rfl rfl ?_
          refine X_iload hK (i := 4) 0 dL_law_1070 rfl ?_
          refine X_iconst hK dL_law_1072 ?_
          refine X_iadd hK dL_law_1073 ?_
          refine X_scr hK hX hbl hbA hL (by omega) (by omega) dL_law_1074 (fun z413 ez413 lz413 uz413 => ?_)
          refine X_callV hK [.int (iI z413)] [] lk_L_121 (c_X11_shortOf _ _ _ _ _ S91 g92 b1 z413 (qS91 _ _ (qb87 _ _ hk68)) (by omega) al9) (qS91 _ _ (qb87 _ _ hk68)) ⟨by decide, rfl⟩ dL_law_1075 rfl rfl (by simp [Value.category]) (by decide) (by omega) (by omega) (by decide) (fun r414 S416 g415 pr414 qr414 hg415 => ?_)
          obtain ⟨rfl, rfl, z417, rfl, lz417, uz417⟩ := pr414
          refine X_st [.int (iI z417)] rfl ?_
          refine X_pop hK dL_law_1078 rfl ?_
          refine X_aloadn hK (i := 2) 2 dL_law_1079 rfl rfl ?_
          refine X_aloadn hK (i := 0) 4 dL_law_1080 rfl rfl ?_
          refine X_iload hK (i := 4) 0 dL_law_1081 rfl ?_
          refine X_iconst hK dL_law_1083 ?_
          refine X_iadd hK dL_law_1084 ?_
          refine X_scrK hK hX hbl hbA hL (by omega) (by omega) ez413 dL_law_1085 ?_
          refine X_callV hK [.int (iI z413)] [] lk_L_124 (c_X12_shortOf _ _ _ _ _ S91 g92 b39 z413 (qS91 _ _ (qb87 _ _ hs_y66)) (by omega)) (qS91 _ _ (qb87 _ _ hs_y66)) ⟨by decide, rfl⟩ dL_law_1086 rfl rfl (by simp [Value.category]) (by decide) (by omega) (by omega) (by decide) (fun r418 S420 g419 pr418 qr418 hg419 => ?_)
          obtain ⟨rfl, z421, rfl, lz421, uz421⟩ := pr418
          refine X_st [.int (iI z421)] rfl ?_
          refine X_pop hK dL_law_1089 rfl ?_
          refine X_goto hK 1465 dL_law_1090 (by decide) ?_
          refine X_iinc hK (i := 4) (z := i9) (n := 6) 0 [(4, .int (iI (i9 + 6))), (3, .ref b87), (2, .ref b39), (1, .ref b1), (0, .ref b)] dL_law_1465 rfl (by decide) rfl ?_
          refine X_goto hK 23 dL_law_1468 (by decide) ?_
          exact ih9 S91 qS91 g419 (i9 + 6) k9 t9 c9 b9 sh9 sp9 sm9 (by omega) (by omega) (by omega) (by omega) (by omega) (by omega) (by omega) (by omega) (xLs_mod al9 hg419 (by decide)) si9 (xPi_m pi9 hg419 xLe.rf (by decide)) (xMp_m mp9 hg419 xLe.rf (by decide)) (xTw_m tw9 hg419 xLe.rf (by decide)) (xTW_m tkw9 hg419 xLe.rf (by decide)) ((hg419 b1 12 0 0 (qS91 _ _ (qb87 _ _ hk68)) (by decide)).trans el09) ((hg419 b1 12 0 3 (qS91 _ _ (qb87 _ _ hk68)) (by decide)).trans el19) ((hg419 b1 12 0 1 (qS91 _ _ (qb87 _ _ hk68)) (by decide)).trans el29) ((hg419 b37 6 0 1 (qS91 _ _ (qb87 _ _ hk77)) (by decide)).trans el39) ((hg419 b1 12 0 2 (qS91 _ _ (qb87 _ _ hk68)) (by decide)).trans el49) ((hg419 b19 4 0 0 (qS91 _ _ (qb87 _ _ hk69)) (by decide)).trans el59) ((hg419 b19 4 0 2 (qS91 _ _ (qb87 _ _ hk69)) (by decide)).trans el69) ((hg419 b19 4 0 3 (qS91 _ _ (qb87 _ _ hk69)) (by decide)).trans el79) ((hg419 b19 4 0 4 (qS91 _ _ (qb87 _ _ hk69)) (by decide)).trans el89) ((hg419 b35 10 0 0 (qS91 _ _ (qb87 _ _ hk75)) (by decide)).trans el99) ((hg419 b39 13 0 1 (qS91 _ _ (qb87 _ _ hs_y66)) (by decide)).trans el109) ((hg419 b39 13 0 10 (qS91 _ _ (qb87 _ _ hs_y66)) (by decide)).trans el119) ((hg419 b39 13 0 13 (qS91 _ _ (qb87 _ _ hs_y66)) (by decide)).trans el129) ((hg419 b39 13 0 14 (qS91 _ _ (qb87 _ _ hs_y66)) (by decide)).trans el139) ((hg419 b39 13 0 12 (qS91 _ _ (qb87 _ _ hs_y66)) (by decide)).trans el149) ((hg419 b35 10 0 1 (qS91 _ _ (qb87 _ _ hk75)) (by decide)).trans exk9) ((hg419 b39 13 0 2 (qS91 _ _ (qb87 _ _ hs_y66)) (by decide)).trans emk9) ((hg419 b1 12 0 12 (qS91 _ _ (qb87 _ _ hk68)) (by decide)).trans ext9) ((hg419 b39 13 0 3 (qS91 _ _ (qb87 _ _ hs_y66)) (by decide)).trans emt9) ((hg419 b36 5 0 3 (qS91 _ _ (qb87 _ _ hk76)) (by decide)).trans exc9) ((hg419 b39 13 0 69 (qS91 _ _ (qb87 _ _ hs_y66)) (by decide)).trans emc9) ((hg419 b38 0 0 2 (qS91 _ _ (qb87 _ _ hk78)) (by decide)).trans exb9) ((hg419 b39 13 0 16 (qS91 _ _ (qb87 _ _ hs_y66)) (by decide)).trans emb9) ((hg419 b1 12 0 16 (qS91 _ _ (qb87 _ _ hk68)) (by decide)).trans exsh9) ((hg419 b39 13 0 89 (qS91 _ _ (qb87 _ _ hs_y66)) (by decide)).trans emsh9) ((hg419 b1 12 0 17 (qS91 _ _ (qb87 _ _ hk68)) (by decide)).trans exsp9) ((hg419 b39 13 0 90 (qS91 _ _ (qb87 _ _ hs_y66)) (by decide)).trans emsp9) ((hg419 b39 13 0 17 (qS91 _ _ (qb87 _ _ hs_y66)) (by decide)).trans emsm9) (xWn.m wn9 (qS91 _ _ (qb87 _ _ hk74)) (qS91 _ _ (qb87 _ _ hk81)) hg419 xLe.rf (by decide)) (by rw [(xv_m hg419 (qS91 _ _ (qb87 _ _ hk72)) (by decide) (by decide)), (xv_m hg419 (qS91 _ _ (qb87 _ _ hk79)) (by decide) (by decide))]; exact wt9) (by rw [(xv_m hg419 (qS91 _ _ (qb87 _ _ hk73)) (by decide) (by decide)), (xv_m hg419 (qS91 _ _ (qb87 _ _ hk80)) (by decide) (by decide))]; exact ld9) (by rw [(xv_m hg419 (qS91 _ _ (qb87 _ _ hk71)) (by decide) (by decide)), (xv_m hg419 (qS91 _ _ (qb87 _ _ hs_b86)) (by decide) (by decide))]; exact sk9) (by rw [(xv_m hg419 (qS91 _ _ (qb87 _ _ hs_b84)) (by decide) (by decide)), (xv_m hg419 (qS91 _ _ (qb87 _ _ hs_b85)) (by decide) (by decide))]; exact xTc.mono tc9 (by omega)) dc9 ds9 (by omega) (by omega) (by omega)
        · refine X_tableIn hK 1093 23 (by decide) c96 (by decide) (by decide) dL_law_40 rfl (by decide) ?_
          refine X_aloadn hK (i := 1) 3 dL_law_1093 rfl rfl ?_
          refine X_aloadn hK (i := 0) 4 dL_law_1094 rfl rfl ?_
          refine X_iload hK (i := 4) 0 dL_law_1095 rfl ?_
          refine X_iconst hK dL_law_1097 ?_
          refine X_iadd hK dL_law_1098 ?_
          refine X_scr hK hX hbl hbA hL (by omega) (by omega) dL_law_1099 (fun z422 ez422 lz422 uz422 => ?_)
          refine X_aloadn hK (i := 0) 4 dL_law_1100 rfl rfl ?_
          refine X_iload hK (i := 4) 0 dL_law_1101 rfl ?_
          refine X_iconst hK dL_law_1103 ?_
          refine X_iadd hK dL_law_1104 ?_
          refine X_scr hK hX hbl hbA hL (by omega) (by omega) dL_law_1105 (fun z423 ez423 lz423 uz423 => ?_)
          refine X_aloadn hK (i := 0) 4 dL_law_1106 rfl rfl ?_
          refine X_iload hK (i := 4) 0 dL_law_1107 rfl ?_
          refine X_iconst hK dL_law_1109 ?_
          refine X_iadd hK dL_law_1110 ?_
          refine X_scr hK hX hbl hbA hL (by omega) (by omega) dL_law_1111 (fun z424 ez424 lz424 uz424 => ?_)
          refine X_aloadn hK (i := 0) 4 dL_law_1112 rfl rfl ?_
          refine X_iload hK (i := 4) 0 dL_law_1113 rfl ?_
          refine X_iconst hK dL_law_1115 ?_
          refine X_iadd hK dL_law_1116 ?_
          refine X_scr hK hX hbl hbA hL (by omega) (by omega) dL_law_1117 (fun z425 ez425 lz425 uz425 => ?_)
          refine X_aloadn hK (i := 0) 4 dL_law_1118 rfl rfl ?_
          refine X_iload hK (i := 4) 0 dL_law_1119 rfl ?_
          refine X_iconst hK dL_law_1121 ?_
          refine X_iadd hK dL_law_1122 ?_
          refine X_scr hK hX hbl hbA hL (by omega) (by omega) dL_law_1123 (fun z426 ez426 lz426 uz426 => ?_)
          refine X_callV hK [.int (iI z422), .int (iI z423), .int (iI z424), .int (iI z425), .int (iI z426)] [] lk_L_125 (c_X11_best _ _ _ _ _ S91 g92 b1 z422 z423 z424 z425 z426 b35 k9 (qS91 _ _ (qb87 _ _ hk68)) (by omega) (by omega) (by omega) (by omega) (by omega) el09 (qS91 _ _ (qb87 _ _ hk75)) (by omega) exk9) (qS91 _ _ (qb87 _ _ hk68)) ⟨by decide, rfl⟩ dL_law_1124 rfl rfl (by simp [Value.category]) (by decide) (by omega) (by omega) (by decide) (fun r427 S429 g428 pr427 qr427 hg428 => ?_)
          obtain ⟨rfl, z430, rfl, lz430, uz430, k431⟩ := pr427
          refine X_st [.int (iI z430)] rfl ?_
          refine X_pop hK dL_law_1127 rfl ?_
          refine X_aloadn hK (i := 2) 2 dL_law_1128 rfl rfl ?_
          refine X_aloadn hK (i := 0) 4 dL_law_1129 rfl rfl ?_
          refine X_iload hK (i := 4) 0 dL_law_1130 rfl ?_
          refine X_iconst hK dL_law_1132 ?_
          refine X_iadd hK dL_law_1133 ?_
          refine X_scrK hK hX hbl hbA hL (by omega) (by omega) ez422 dL_law_1134 ?_
          refine X_aloadn hK (i := 0) 4 dL_law_1135 rfl rfl ?_
          refine X_iload hK (i := 4) 0 dL_law_1136 rfl ?_
          refine X_iconst hK dL_law_1138 ?_
          refine X_iadd hK dL_law_1139 ?_
          refine X_scrK hK hX hbl hbA hL (by omega) (by omega) ez423 dL_law_1140 ?_
          refine X_aloadn hK (i := 0) 4 dL_law_1141 rfl rfl ?_
          refine X_iload hK (i := 4) 0 dL_law_1142 rfl ?_
          refine X_iconst hK dL_law_1144 ?_
          refine X_iadd hK dL_law_1145 ?_
          refine X_scrK hK hX hbl hbA hL (by omega) (by omega) ez424 dL_law_1146 ?_
          refine X_aloadn hK (i := 0) 4 dL_law_1147 rfl rfl ?_
          refine X_iload hK (i := 4) 0 dL_law_1148 rfl ?_
          refine X_iconst hK dL_law_1150 ?_
          refine X_iadd hK dL_law_1151 ?_
          refine X_scrK hK hX hbl hbA hL (by omega) (by omega) ez425 dL_law_1152 ?_
          refine X_aloadn hK (i := 0) 4 dL_law_1153 rfl rfl ?_
          refine X_iload hK (i := 4) 0 dL_law_1154 rfl ?_
          refine X_iconst hK dL_law_1156 ?_
          refine X_iadd hK dL_law_1157 ?_
          refine X_scrK hK hX hbl hbA hL (by omega) (by omega) ez426 dL_law_1158 ?_
          refine X_callV hK [.int (iI z422), .int (iI z423), .int (iI z424), .int (iI z425), .int (iI z426)] [] lk_L_128 (c3_best _ _ _ _ _ S91 g428 b39 z422 z423 z424 z425 z426 k9 (qS91 _ _ (qb87 _ _ hs_y66)) (by omega) (by omega) (by omega) (by omega) (by omega) (by omega) ((hg428 b39 13 0 2 (qS91 _ _ (qb87 _ _ hs_y66)) (by decide)).trans emk9)) (qS91 _ _ (qb87 _ _ hs_y66)) ⟨by decide, rfl⟩ dL_law_1159 rfl rfl (by simp [Value.category]) (by decide) (by omega) (by omega) (by decide) (fun r432 S434 g433 pr432 qr432 hg433 => ?_)
          obtain ⟨rfl, z435, rfl, lz435, uz435, k436⟩ := pr432
          refine X_st [.int (iI z435)] rfl ?_
          refine X_pop hK dL_law_1162 rfl ?_
          refine X_goto hK 1465 dL_law_1163 (by decide) ?_
          refine X_iinc hK (i := 4) (z := i9) (n := 6) 0 [(4, .int (iI (i9 + 6))), (3, .ref b87), (2, .ref b39), (1, .ref b1), (0, .ref b)] dL_law_1465 rfl (by decide) rfl ?_
          refine X_goto hK 23 dL_law_1468 (by decide) ?_
          exact ih9 S91 qS91 g433 (i9 + 6) (0) t9 c9 b9 sh9 sp9 sm9 (by omega) (by omega) (by omega) (by omega) (by omega) (by omega) (by omega) (by omega) (xLs_mod (xLs_mod al9 hg428 (by decide)) hg433 (by decide)) si9 (xPi_m (xPi_m pi9 hg428 xLe.rf (by decide)) hg433 xLe.rf (by decide)) (xMp_m (xMp_m mp9 hg428 xLe.rf (by decide)) hg433 xLe.rf (by decide)) (xTw_m (xTw_m tw9 hg428 xLe.rf (by decide)) hg433 xLe.rf (by decide)) (xTW_m (xTW_m tkw9 hg428 xLe.rf (by decide)) hg433 xLe.rf (by decide)) ((hg433 b1 12 0 0 (qS91 _ _ (qb87 _ _ hk68)) (by decide)).trans ((hg428 b1 12 0 0 (qS91 _ _ (qb87 _ _ hk68)) (by decide)).trans el09)) ((hg433 b1 12 0 3 (qS91 _ _ (qb87 _ _ hk68)) (by decide)).trans ((hg428 b1 12 0 3 (qS91 _ _ (qb87 _ _ hk68)) (by decide)).trans el19)) ((hg433 b1 12 0 1 (qS91 _ _ (qb87 _ _ hk68)) (by decide)).trans ((hg428 b1 12 0 1 (qS91 _ _ (qb87 _ _ hk68)) (by decide)).trans el29)) ((hg433 b37 6 0 1 (qS91 _ _ (qb87 _ _ hk77)) (by decide)).trans ((hg428 b37 6 0 1 (qS91 _ _ (qb87 _ _ hk77)) (by decide)).trans el39)) ((hg433 b1 12 0 2 (qS91 _ _ (qb87 _ _ hk68)) (by decide)).trans ((hg428 b1 12 0 2 (qS91 _ _ (qb87 _ _ hk68)) (by decide)).trans el49)) ((hg433 b19 4 0 0 (qS91 _ _ (qb87 _ _ hk69)) (by decide)).trans ((hg428 b19 4 0 0 (qS91 _ _ (qb87 _ _ hk69)) (by decide)).trans el59)) ((hg433 b19 4 0 2 (qS91 _ _ (qb87 _ _ hk69)) (by decide)).trans ((hg428 b19 4 0 2 (qS91 _ _ (qb87 _ _ hk69)) (by decide)).trans el69)) ((hg433 b19 4 0 3 (qS91 _ _ (qb87 _ _ hk69)) (by decide)).trans ((hg428 b19 4 0 3 (qS91 _ _ (qb87 _ _ hk69)) (by decide)).trans el79)) ((hg433 b19 4 0 4 (qS91 _ _ (qb87 _ _ hk69)) (by decide)).trans ((hg428 b19 4 0 4 (qS91 _ _ (qb87 _ _ hk69)) (by decide)).trans el89)) ((hg433 b35 10 0 0 (qS91 _ _ (qb87 _ _ hk75)) (by decide)).trans ((hg428 b35 10 0 0 (qS91 _ _ (qb87 _ _ hk75)) (by decide)).trans el99)) ((hg433 b39 13 0 1 (qS91 _ _ (qb87 _ _ hs_y66)) (by decide)).trans ((hg428 b39 13 0 1 (qS91 _ _ (qb87 _ _ hs_y66)) (by decide)).trans el109)) ((hg433 b39 13 0 10 (qS91 _ _ (qb87 _ _ hs_y66)) (by decide)).trans ((hg428 b39 13 0 10 (qS91 _ _ (qb87 _ _ hs_y66)) (by decide)).trans el119)) ((hg433 b39 13 0 13 (qS91 _ _ (qb87 _ _ hs_y66)) (by decide)).trans ((hg428 b39 13 0 13 (qS91 _ _ (qb87 _ _ hs_y66)) (by decide)).trans el129)) ((hg433 b39 13 0 14 (qS91 _ _ (qb87 _ _ hs_y66)) (by decide)).trans ((hg428 b39 13 0 14 (qS91 _ _ (qb87 _ _ hs_y66)) (by decide)).trans el139)) ((hg433 b39 13 0 12 (qS91 _ _ (qb87 _ _ hs_y66)) (by decide)).trans ((hg428 b39 13 0 12 (qS91 _ _ (qb87 _ _ hs_y66)) (by decide)).trans el149)) ((hg433 b35 10 0 1 (qS91 _ _ (qb87 _ _ hk75)) (by decide)).trans k431) k436 ((hg433 b1 12 0 12 (qS91 _ _ (qb87 _ _ hk68)) (by decide)).trans ((hg428 b1 12 0 12 (qS91 _ _ (qb87 _ _ hk68)) (by decide)).trans ext9)) ((hg433 b39 13 0 3 (qS91 _ _ (qb87 _ _ hs_y66)) (by decide)).trans ((hg428 b39 13 0 3 (qS91 _ _ (qb87 _ _ hs_y66)) (by decide)).trans emt9)) ((hg433 b36 5 0 3 (qS91 _ _ (qb87 _ _ hk76)) (by decide)).trans ((hg428 b36 5 0 3 (qS91 _ _ (qb87 _ _ hk76)) (by decide)).trans exc9)) ((hg433 b39 13 0 69 (qS91 _ _ (qb87 _ _ hs_y66)) (by decide)).trans ((hg428 b39 13 0 69 (qS91 _ _ (qb87 _ _ hs_y66)) (by decide)).trans emc9)) ((hg433 b38 0 0 2 (qS91 _ _ (qb87 _ _ hk78)) (by decide)).trans ((hg428 b38 0 0 2 (qS91 _ _ (qb87 _ _ hk78)) (by decide)).trans exb9)) ((hg433 b39 13 0 16 (qS91 _ _ (qb87 _ _ hs_y66)) (by decide)).trans ((hg428 b39 13 0 16 (qS91 _ _ (qb87 _ _ hs_y66)) (by decide)).trans emb9)) ((hg433 b1 12 0 16 (qS91 _ _ (qb87 _ _ hk68)) (by decide)).trans ((hg428 b1 12 0 16 (qS91 _ _ (qb87 _ _ hk68)) (by decide)).trans exsh9)) ((hg433 b39 13 0 89 (qS91 _ _ (qb87 _ _ hs_y66)) (by decide)).trans ((hg428 b39 13 0 89 (qS91 _ _ (qb87 _ _ hs_y66)) (by decide)).trans emsh9)) ((hg433 b1 12 0 17 (qS91 _ _ (qb87 _ _ hk68)) (by decide)).trans ((hg428 b1 12 0 17 (qS91 _ _ (qb87 _ _ hk68)) (by decide)).trans exsp9)) ((hg433 b39 13 0 90 (qS91 _ _ (qb87 _ _ hs_y66)) (by decide)).trans ((hg428 b39 13 0 90 (qS91 _ _ (qb87 _ _ hs_y66)) (by decide)).trans emsp9)) ((hg433 b39 13 0 17 (qS91 _ _ (qb87 _ _ hs_y66)) (by decide)).trans ((hg428 b39 13 0 17 (qS91 _ _ (qb87 _ _ hs_y66)) (by decide)).trans emsm9)) (xWn.m (xWn.m wn9 (qS91 _ _ (qb87 _ _ hk74)) (qS91 _ _ (qb87 _ _ hk81)) hg428 xLe.rf (by decide)) (qS91 _ _ (qb87 _ _ hk74)) (qS91 _ _ (qb87 _ _ hk81)) hg433 xLe.rf (by decide)) (by rw [(Eq.trans (xv_m hg433 (qS91 _ _ (qb87 _ _ hk72)) (by decide) (by decide)) (xv_m hg428 (qS91 _ _ (qb87 _ _ hk72)) (by decide) (by decide))), (Eq.trans (xv_m hg433 (qS91 _ _ (qb87 _ _ hk79)) (by decide) (by decide)) (xv_m hg428 (qS91 _ _ (qb87 _ _ hk79)) (by decide) (by decide)))]; exact wt9) (by rw [(Eq.trans (xv_m hg433 (qS91 _ _ (qb87 _ _ hk73)) (by decide) (by decide)) (xv_m hg428 (qS91 _ _ (qb87 _ _ hk73)) (by decide) (by decide))), (Eq.trans (xv_m hg433 (qS91 _ _ (qb87 _ _ hk80)) (by decide) (by decide)) (xv_m hg428 (qS91 _ _ (qb87 _ _ hk80)) (by decide) (by decide)))]; exact ld9) (by rw [(Eq.trans (xv_m hg433 (qS91 _ _ (qb87 _ _ hk71)) (by decide) (by decide)) (xv_m hg428 (qS91 _ _ (qb87 _ _ hk71)) (by decide) (by decide))), (Eq.trans (xv_m hg433 (qS91 _ _ (qb87 _ _ hs_b86)) (by decide) (by decide)) (xv_m hg428 (qS91 _ _ (qb87 _ _ hs_b86)) (by decide) (by decide)))]; exact sk9) (by rw [(Eq.trans (xv_m hg433 (qS91 _ _ (qb87 _ _ hs_b84)) (by decide) (by decide)) (xv_m hg428 (qS91 _ _ (qb87 _ _ hs_b84)) (by decide) (by decide))), (Eq.trans (xv_m hg433 (qS91 _ _ (qb87 _ _ hs_b85)) (by decide) (by decide)) (xv_m hg428 (qS91 _ _ (qb87 _ _ hs_b85)) (by decide) (by decide)))]; exact xTc.mono tc9 (by omega)) dc9 ds9 (by omega) (by omega) (by omega)
        · refine X_tableIn hK 1166 24 (by decide) c96 (by decide) (by decide) dL_law_40 rfl (by decide) ?_
          refine X_aloadn hK (i := 1) 3 dL_law_1166 rfl rfl ?_
          refine X_callV hK [] [] lk_L_129 (c_X11_expected _ _ _ _ _ S91 g92 b1 (qS91 _ _ (qb87 _ _ hk68))) (qS91 _ _ (qb87 _ _ hk68)) ⟨by decide, rfl⟩ dL_law_1167 rfl rfl (by simp [Value.category]) (by decide) (by omega) (by omega) (by decide) (fun r437 S439 g438 pr437 qr437 hg438 => ?_)
          obtain ⟨rfl, rfl, y440, rfl⟩ := pr437
          refine X_st [.long y440] rfl ?_
          refine X_pop2 hK dL_law_1170 rfl ?_
          refine X_aloadn hK (i := 2) 2 dL_law_1171 rfl rfl ?_
          refine X_callV hK [] [] lk_L_133 (c_X12_expected _ _ _ _ _ S91 g92 b39 (qS91 _ _ (qb87 _ _ hs_y66))) (qS91 _ _ (qb87 _ _ hs_y66)) ⟨by decide, rfl⟩ dL_law_1172 rfl rfl (by simp [Value.category]) (by decide) (by omega) (by omega) (by decide) (fun r441 S443 g442 pr441 qr441 hg442 => ?_)
          obtain ⟨rfl, y444, rfl⟩ := pr441
          refine X_st [.long y444] rfl ?_
          refine X_pop2 hK dL_law_1175 rfl ?_
          refine X_goto hK 1465 dL_law_1176 (by decide) ?_
          refine X_iinc hK (i := 4) (z := i9) (n := 6) 0 [(4, .int (iI (i9 + 6))), (3, .ref b87), (2, .ref b39), (1, .ref b1), (0, .ref b)] dL_law_1465 rfl (by decide) rfl ?_
          refine X_goto hK 23 dL_law_1468 (by decide) ?_
          exact ih9 S91 qS91 g442 (i9 + 6) k9 t9 c9 b9 sh9 sp9 sm9 (by omega) (by omega) (by omega) (by omega) (by omega) (by omega) (by omega) (by omega) (xLs_mod al9 hg442 (by decide)) si9 (xPi_m pi9 hg442 xLe.rf (by decide)) (xMp_m mp9 hg442 xLe.rf (by decide)) (xTw_m tw9 hg442 xLe.rf (by decide)) (xTW_m tkw9 hg442 xLe.rf (by decide)) ((hg442 b1 12 0 0 (qS91 _ _ (qb87 _ _ hk68)) (by decide)).trans el09) ((hg442 b1 12 0 3 (qS91 _ _ (qb87 _ _ hk68)) (by decide)).trans el19) ((hg442 b1 12 0 1 (qS91 _ _ (qb87 _ _ hk68)) (by decide)).trans el29) ((hg442 b37 6 0 1 (qS91 _ _ (qb87 _ _ hk77)) (by decide)).trans el39) ((hg442 b1 12 0 2 (qS91 _ _ (qb87 _ _ hk68)) (by decide)).trans el49) ((hg442 b19 4 0 0 (qS91 _ _ (qb87 _ _ hk69)) (by decide)).trans el59) ((hg442 b19 4 0 2 (qS91 _ _ (qb87 _ _ hk69)) (by decide)).trans el69) ((hg442 b19 4 0 3 (qS91 _ _ (qb87 _ _ hk69)) (by decide)).trans el79) ((hg442 b19 4 0 4 (qS91 _ _ (qb87 _ _ hk69)) (by decide)).trans el89) ((hg442 b35 10 0 0 (qS91 _ _ (qb87 _ _ hk75)) (by decide)).trans el99) ((hg442 b39 13 0 1 (qS91 _ _ (qb87 _ _ hs_y66)) (by decide)).trans el109) ((hg442 b39 13 0 10 (qS91 _ _ (qb87 _ _ hs_y66)) (by decide)).trans el119) ((hg442 b39 13 0 13 (qS91 _ _ (qb87 _ _ hs_y66)) (by decide)).trans el129) ((hg442 b39 13 0 14 (qS91 _ _ (qb87 _ _ hs_y66)) (by decide)).trans el139) ((hg442 b39 13 0 12 (qS91 _ _ (qb87 _ _ hs_y66)) (by decide)).trans el149) ((hg442 b35 10 0 1 (qS91 _ _ (qb87 _ _ hk75)) (by decide)).trans exk9) ((hg442 b39 13 0 2 (qS91 _ _ (qb87 _ _ hs_y66)) (by decide)).trans emk9) ((hg442 b1 12 0 12 (qS91 _ _ (qb87 _ _ hk68)) (by decide)).trans ext9) ((hg442 b39 13 0 3 (qS91 _ _ (qb87 _ _ hs_y66)) (by decide)).trans emt9) ((hg442 b36 5 0 3 (qS91 _ _ (qb87 _ _ hk76)) (by decide)).trans exc9) ((hg442 b39 13 0 69 (qS91 _ _ (qb87 _ _ hs_y66)) (by decide)).trans emc9) ((hg442 b38 0 0 2 (qS91 _ _ (qb87 _ _ hk78)) (by decide)).trans exb9) ((hg442 b39 13 0 16 (qS91 _ _ (qb87 _ _ hs_y66)) (by decide)).trans emb9) ((hg442 b1 12 0 16 (qS91 _ _ (qb87 _ _ hk68)) (by decide)).trans exsh9) ((hg442 b39 13 0 89 (qS91 _ _ (qb87 _ _ hs_y66)) (by decide)).trans emsh9) ((hg442 b1 12 0 17 (qS91 _ _ (qb87 _ _ hk68)) (by decide)).trans exsp9) ((hg442 b39 13 0 90 (qS91 _ _ (qb87 _ _ hs_y66)) (by decide)).trans emsp9) ((hg442 b39 13 0 17 (qS91 _ _ (qb87 _ _ hs_y66)) (by decide)).trans emsm9) (xWn.m wn9 (qS91 _ _ (qb87 _ _ hk74)) (qS91 _ _ (qb87 _ _ hk81)) hg442 xLe.rf (by decide)) (by rw [(xv_m hg442 (qS91 _ _ (qb87 _ _ hk72)) (by decide) (by decide)), (xv_m hg442 (qS91 _ _ (qb87 _ _ hk79)) (by decide) (by decide))]; exact wt9) (by rw [(xv_m hg442 (qS91 _ _ (qb87 _ _ hk73)) (by decide) (by decide)), (xv_m hg442 (qS91 _ _ (qb87 _ _ hk80)) (by decide) (by decide))]; exact ld9) (by rw [(xv_m hg442 (qS91 _ _ (qb87 _ _ hk71)) (by decide) (by decide)), (xv_m hg442 (qS91 _ _ (qb87 _ _ hs_b86)) (by decide) (by decide))]; exact sk9) (by rw [(xv_m hg442 (qS91 _ _ (qb87 _ _ hs_b84)) (by decide) (by decide)), (xv_m hg442 (qS91 _ _ (qb87 _ _ hs_b85)) (by decide) (by decide))]; exact xTc.mono tc9 (by omega)) dc9 ds9 (by omega) (by omega) (by omega)
        · refine X_tableIn hK 1179 25 (by decide) c96 (by decide) (by decide) dL_law_40 rfl (by decide) ?_
          refine X_aloadn hK (i := 1) 3 dL_law_1179 rfl rfl ?_
          refine X_callVU hK [] [] lk_L_134 (c_X11_tried _ _ _ _ _ S91 g92 b1 b35 k9 (qS91 _ _ (qb87 _ _ hk68)) el09 (qS91 _ _ (qb87 _ _ hk75)) (by omega) exk9 al9 si9) (qS91 _ _ (qb87 _ _ hk68)) ⟨by decide, rfl⟩ dL_law_1180 rfl rfl (by simp [Value.category]) (by decide) (by omega) (by omega) (by decide) (fun r445 S447 g446 dcr445 dsr445 pr445 qr445 hg446 => ?_)
          obtain ⟨wr445, z448, rfl, lz448, uz448, k449, k450, k451, k452⟩ := pr445
          refine X_st [.int (iI z448)] rfl ?_
          refine X_pop hK dL_law_1183 rfl ?_
          refine X_aloadn hK (i := 2) 2 dL_law_1184 rfl rfl ?_
          refine X_callV hK [] [] lk_L_137 (c_X12_tried _ _ _ _ _ S447 g446 b39 k9 (qr445 _ _ (qS91 _ _ (qb87 _ _ hs_y66))) (by omega) ((hg446 b39 13 0 2 (qS91 _ _ (qb87 _ _ hs_y66)) (by decide)).trans emk9) (xTw_m tw9 hg446 qr445 (by decide))) (qr445 _ _ (qS91 _ _ (qb87 _ _ hs_y66))) ⟨by decide, rfl⟩ dL_law_1185 rfl rfl (by simp [Value.category]) (by decide) (by omega) (by omega) (by decide) (fun r453 S455 g454 pr453 qr453 hg454 => ?_)
          obtain ⟨rfl, z456, rfl, lz456, uz456, k457, k458⟩ := pr453
          refine X_st [.int (iI z456)] rfl ?_
          refine X_pop hK dL_law_1188 rfl ?_
          refine X_goto hK 1465 dL_law_1189 (by decide) ?_
          refine X_iinc hK (i := 4) (z := i9) (n := 6) 0 [(4, .int (iI (i9 + 6))), (3, .ref b87), (2, .ref b39), (1, .ref b1), (0, .ref b)] dL_law_1465 rfl (by decide) rfl ?_
          refine X_goto hK 23 dL_law_1468 (by decide) ?_
          exact ih9 S447 (xLe.tr qS91 qr445) g454 (i9 + 6) (0) t9 c9 b9 sh9 sp9 sm9 (by omega) (by omega) (by omega) (by omega) (by omega) (by omega) (by omega) (by omega) (xLs_mod k449 hg454 (by decide)) k450 (xPi_m (xPi_m pi9 hg446 qr445 (by decide)) hg454 xLe.rf (by decide)) (xMp_m (xMp_m mp9 hg446 qr445 (by decide)) hg454 xLe.rf (by decide)) k458 (xTW_m (xTW_m tkw9 hg446 qr445 (by decide)) hg454 xLe.rf (by decide)) ((hg454 b1 12 0 0 (qr445 _ _ (qS91 _ _ (qb87 _ _ hk68))) (by decide)).trans ((hg446 b1 12 0 0 (qS91 _ _ (qb87 _ _ hk68)) (by decide)).trans el09)) ((hg454 b1 12 0 3 (qr445 _ _ (qS91 _ _ (qb87 _ _ hk68))) (by decide)).trans ((hg446 b1 12 0 3 (qS91 _ _ (qb87 _ _ hk68)) (by decide)).trans el19)) ((hg454 b1 12 0 1 (qr445 _ _ (qS91 _ _ (qb87 _ _ hk68))) (by decide)).trans ((hg446 b1 12 0 1 (qS91 _ _ (qb87 _ _ hk68)) (by decide)).trans el29)) ((hg454 b37 6 0 1 (qr445 _ _ (qS91 _ _ (qb87 _ _ hk77))) (by decide)).trans ((hg446 b37 6 0 1 (qS91 _ _ (qb87 _ _ hk77)) (by decide)).trans el39)) ((hg454 b1 12 0 2 (qr445 _ _ (qS91 _ _ (qb87 _ _ hk68))) (by decide)).trans ((hg446 b1 12 0 2 (qS91 _ _ (qb87 _ _ hk68)) (by decide)).trans el49)) ((hg454 b19 4 0 0 (qr445 _ _ (qS91 _ _ (qb87 _ _ hk69))) (by decide)).trans ((hg446 b19 4 0 0 (qS91 _ _ (qb87 _ _ hk69)) (by decide)).trans el59)) ((hg454 b19 4 0 2 (qr445 _ _ (qS91 _ _ (qb87 _ _ hk69))) (by decide)).trans ((hg446 b19 4 0 2 (qS91 _ _ (qb87 _ _ hk69)) (by decide)).trans el69)) ((hg454 b19 4 0 3 (qr445 _ _ (qS91 _ _ (qb87 _ _ hk69))) (by decide)).trans ((hg446 b19 4 0 3 (qS91 _ _ (qb87 _ _ hk69)) (by decide)).trans el79)) ((hg454 b19 4 0 4 (qr445 _ _ (qS91 _ _ (qb87 _ _ hk69))) (by decide)).trans ((hg446 b19 4 0 4 (qS91 _ _ (qb87 _ _ hk69)) (by decide)).trans el89)) ((hg454 b35 10 0 0 (qr445 _ _ (qS91 _ _ (qb87 _ _ hk75))) (by decide)).trans ((hg446 b35 10 0 0 (qS91 _ _ (qb87 _ _ hk75)) (by decide)).trans el99)) ((hg454 b39 13 0 1 (qr445 _ _ (qS91 _ _ (qb87 _ _ hs_y66))) (by decide)).trans ((hg446 b39 13 0 1 (qS91 _ _ (qb87 _ _ hs_y66)) (by decide)).trans el109)) ((hg454 b39 13 0 10 (qr445 _ _ (qS91 _ _ (qb87 _ _ hs_y66))) (by decide)).trans ((hg446 b39 13 0 10 (qS91 _ _ (qb87 _ _ hs_y66)) (by decide)).trans el119)) ((hg454 b39 13 0 13 (qr445 _ _ (qS91 _ _ (qb87 _ _ hs_y66))) (by decide)).trans ((hg446 b39 13 0 13 (qS91 _ _ (qb87 _ _ hs_y66)) (by decide)).trans el129)) ((hg454 b39 13 0 14 (qr445 _ _ (qS91 _ _ (qb87 _ _ hs_y66))) (by decide)).trans ((hg446 b39 13 0 14 (qS91 _ _ (qb87 _ _ hs_y66)) (by decide)).trans el139)) ((hg454 b39 13 0 12 (qr445 _ _ (qS91 _ _ (qb87 _ _ hs_y66))) (by decide)).trans ((hg446 b39 13 0 12 (qS91 _ _ (qb87 _ _ hs_y66)) (by decide)).trans el149)) ((hg454 b35 10 0 1 (qr445 _ _ (qS91 _ _ (qb87 _ _ hk75))) (by decide)).trans k452) k457 ((hg454 b1 12 0 12 (qr445 _ _ (qS91 _ _ (qb87 _ _ hk68))) (by decide)).trans ((hg446 b1 12 0 12 (qS91 _ _ (qb87 _ _ hk68)) (by decide)).trans ext9)) ((hg454 b39 13 0 3 (qr445 _ _ (qS91 _ _ (qb87 _ _ hs_y66))) (by decide)).trans ((hg446 b39 13 0 3 (qS91 _ _ (qb87 _ _ hs_y66)) (by decide)).trans emt9)) ((hg454 b36 5 0 3 (qr445 _ _ (qS91 _ _ (qb87 _ _ hk76))) (by decide)).trans ((hg446 b36 5 0 3 (qS91 _ _ (qb87 _ _ hk76)) (by decide)).trans exc9)) ((hg454 b39 13 0 69 (qr445 _ _ (qS91 _ _ (qb87 _ _ hs_y66))) (by decide)).trans ((hg446 b39 13 0 69 (qS91 _ _ (qb87 _ _ hs_y66)) (by decide)).trans emc9)) ((hg454 b38 0 0 2 (qr445 _ _ (qS91 _ _ (qb87 _ _ hk78))) (by decide)).trans ((hg446 b38 0 0 2 (qS91 _ _ (qb87 _ _ hk78)) (by decide)).trans exb9)) ((hg454 b39 13 0 16 (qr445 _ _ (qS91 _ _ (qb87 _ _ hs_y66))) (by decide)).trans ((hg446 b39 13 0 16 (qS91 _ _ (qb87 _ _ hs_y66)) (by decide)).trans emb9)) ((hg454 b1 12 0 16 (qr445 _ _ (qS91 _ _ (qb87 _ _ hk68))) (by decide)).trans ((hg446 b1 12 0 16 (qS91 _ _ (qb87 _ _ hk68)) (by decide)).trans exsh9)) ((hg454 b39 13 0 89 (qr445 _ _ (qS91 _ _ (qb87 _ _ hs_y66))) (by decide)).trans ((hg446 b39 13 0 89 (qS91 _ _ (qb87 _ _ hs_y66)) (by decide)).trans emsh9)) ((hg454 b1 12 0 17 (qr445 _ _ (qS91 _ _ (qb87 _ _ hk68))) (by decide)).trans ((hg446 b1 12 0 17 (qS91 _ _ (qb87 _ _ hk68)) (by decide)).trans exsp9)) ((hg454 b39 13 0 90 (qr445 _ _ (qS91 _ _ (qb87 _ _ hs_y66))) (by decide)).trans ((hg446 b39 13 0 90 (qS91 _ _ (qb87 _ _ hs_y66)) (by decide)).trans emsp9)) ((hg454 b39 13 0 17 (qr445 _ _ (qS91 _ _ (qb87 _ _ hs_y66))) (by decide)).trans ((hg446 b39 13 0 17 (qS91 _ _ (qb87 _ _ hs_y66)) (by decide)).trans emsm9)) (xWn.m (xWn.m wn9 (qS91 _ _ (qb87 _ _ hk74)) (qS91 _ _ (qb87 _ _ hk81)) hg446 qr445 (by decide)) (qr445 _ _ (qS91 _ _ (qb87 _ _ hk74))) (qr445 _ _ (qS91 _ _ (qb87 _ _ hk81))) hg454 xLe.rf (by decide)) (by rw [(Eq.trans (xv_m hg454 (qr445 _ _ (qS91 _ _ (qb87 _ _ hk72))) (by decide) (by decide)) (xv_m hg446 (qS91 _ _ (qb87 _ _ hk72)) (by decide) (by decide))), (Eq.trans (xv_m hg454 (qr445 _ _ (qS91 _ _ (qb87 _ _ hk79))) (by decide) (by decide)) (xv_m hg446 (qS91 _ _ (qb87 _ _ hk79)) (by decide) (by decide)))]; exact wt9) (by rw [(Eq.trans (xv_m hg454 (qr445 _ _ (qS91 _ _ (qb87 _ _ hk73))) (by decide) (by decide)) (xv_m hg446 (qS91 _ _ (qb87 _ _ hk73)) (by decide) (by decide))), (Eq.trans (xv_m hg454 (qr445 _ _ (qS91 _ _ (qb87 _ _ hk80))) (by decide) (by decide)) (xv_m hg446 (qS91 _ _ (qb87 _ _ hk80)) (by decide) (by decide)))]; exact ld9) (by rw [(Eq.trans (xv_m hg454 (qr445 _ _ (qS91 _ _ (qb87 _ _ hk71))) (by decide) (by decide)) (xv_m hg446 (qS91 _ _ (qb87 _ _ hk71)) (by decide) (by decide))), (Eq.trans (xv_m hg454 (qr445 _ _ (qS91 _ _ (qb87 _ _ hs_b86))) (by decide) (by decide)) (xv_m hg446 (qS91 _ _ (qb87 _ _ hs_b86)) (by decide) (by decide)))]; exact sk9) (by rw [(Eq.trans (xv_m hg454 (qr445 _ _ (qS91 _ _ (qb87 _ _ hs_b84))) (by decide) (by decide)) (xv_m hg446 (qS91 _ _ (qb87 _ _ hs_b84)) (by decide) (by decide))), (Eq.trans (xv_m hg454 (qr445 _ _ (qS91 _ _ (qb87 _ _ hs_b85))) (by decide) (by decide)) (xv_m hg446 (qS91 _ _ (qb87 _ _ hs_b85)) (by decide) (by decide)))]; exact xTc.mono tc9 (by omega)) (dc9 + dcr445) (ds9 + dsr445) (by omega) (by omega) (by omega)
        · refine X_tableIn hK 1192 26 (by decide) c96 (by decide) (by decide) dL_law_40 rfl (by decide) ?_
          refine X_aloadn hK (i := 1) 3 dL_law_1192 rfl rfl ?_
          refine X_callV hK [] [] lk_L_138 (c_X11_triedEaten _ _ _ _ _ S91 g92 b1 (qS91 _ _ (qb87 _ _ hk68))) (qS91 _ _ (qb87 _ _ hk68)) ⟨by decide, rfl⟩ dL_law_1193 rfl rfl (by simp [Value.category]) (by decide) (by omega) (by omega) (by decide) (fun r459 S461 g460 pr459 qr459 hg460 => ?_)
          obtain ⟨rfl, rfl, z462, rfl, lz462, uz462⟩ := pr459
          refine X_st [.int (iI z462)] rfl ?_
          refine X_pop hK dL_law_1196 rfl ?_
          refine X_aloadn hK (i := 2) 2 dL_law_1197 rfl rfl ?_
          refine X_callV hK [] [] lk_L_141 (c_X12_triedEaten _ _ _ _ _ S91 g92 b39 (qS91 _ _ (qb87 _ _ hs_y66))) (qS91 _ _ (qb87 _ _ hs_y66)) ⟨by decide, rfl⟩ dL_law_1198 rfl rfl (by simp [Value.category]) (by decide) (by omega) (by omega) (by decide) (fun r463 S465 g464 pr463 qr463 hg464 => ?_)
          obtain ⟨rfl, z466, rfl, lz466, uz466⟩ := pr463
          refine X_st [.int (iI z466)] rfl ?_
          refine X_pop hK dL_law_1201 rfl ?_
          refine X_goto hK 1465 dL_law_1202 (by decide) ?_
          refine X_iinc hK (i := 4) (z := i9) (n := 6) 0 [(4, .int (iI (i9 + 6))), (3, .ref b87), (2, .ref b39), (1, .ref b1), (0, .ref b)] dL_law_1465 rfl (by decide) rfl ?_
          refine X_goto hK 23 dL_law_1468 (by decide) ?_
          exact ih9 S91 qS91 g464 (i9 + 6) k9 t9 c9 b9 sh9 sp9 sm9 (by omega) (by omega) (by omega) (by omega) (by omega) (by omega) (by omega) (by omega) (xLs_mod al9 hg464 (by decide)) si9 (xPi_m pi9 hg464 xLe.rf (by decide)) (xMp_m mp9 hg464 xLe.rf (by decide)) (xTw_m tw9 hg464 xLe.rf (by decide)) (xTW_m tkw9 hg464 xLe.rf (by decide)) ((hg464 b1 12 0 0 (qS91 _ _ (qb87 _ _ hk68)) (by decide)).trans el09) ((hg464 b1 12 0 3 (qS91 _ _ (qb87 _ _ hk68)) (by decide)).trans el19) ((hg464 b1 12 0 1 (qS91 _ _ (qb87 _ _ hk68)) (by decide)).trans el29) ((hg464 b37 6 0 1 (qS91 _ _ (qb87 _ _ hk77)) (by decide)).trans el39) ((hg464 b1 12 0 2 (qS91 _ _ (qb87 _ _ hk68)) (by decide)).trans el49) ((hg464 b19 4 0 0 (qS91 _ _ (qb87 _ _ hk69)) (by decide)).trans el59) ((hg464 b19 4 0 2 (qS91 _ _ (qb87 _ _ hk69)) (by decide)).trans el69) ((hg464 b19 4 0 3 (qS91 _ _ (qb87 _ _ hk69)) (by decide)).trans el79) ((hg464 b19 4 0 4 (qS91 _ _ (qb87 _ _ hk69)) (by decide)).trans el89) ((hg464 b35 10 0 0 (qS91 _ _ (qb87 _ _ hk75)) (by decide)).trans el99) ((hg464 b39 13 0 1 (qS91 _ _ (qb87 _ _ hs_y66)) (by decide)).trans el109) ((hg464 b39 13 0 10 (qS91 _ _ (qb87 _ _ hs_y66)) (by decide)).trans el119) ((hg464 b39 13 0 13 (qS91 _ _ (qb87 _ _ hs_y66)) (by decide)).trans el129) ((hg464 b39 13 0 14 (qS91 _ _ (qb87 _ _ hs_y66)) (by decide)).trans el139) ((hg464 b39 13 0 12 (qS91 _ _ (qb87 _ _ hs_y66)) (by decide)).trans el149) ((hg464 b35 10 0 1 (qS91 _ _ (qb87 _ _ hk75)) (by decide)).trans exk9) ((hg464 b39 13 0 2 (qS91 _ _ (qb87 _ _ hs_y66)) (by decide)).trans emk9) ((hg464 b1 12 0 12 (qS91 _ _ (qb87 _ _ hk68)) (by decide)).trans ext9) ((hg464 b39 13 0 3 (qS91 _ _ (qb87 _ _ hs_y66)) (by decide)).trans emt9) ((hg464 b36 5 0 3 (qS91 _ _ (qb87 _ _ hk76)) (by decide)).trans exc9) ((hg464 b39 13 0 69 (qS91 _ _ (qb87 _ _ hs_y66)) (by decide)).trans emc9) ((hg464 b38 0 0 2 (qS91 _ _ (qb87 _ _ hk78)) (by decide)).trans exb9) ((hg464 b39 13 0 16 (qS91 _ _ (qb87 _ _ hs_y66)) (by decide)).trans emb9) ((hg464 b1 12 0 16 (qS91 _ _ (qb87 _ _ hk68)) (by decide)).trans exsh9) ((hg464 b39 13 0 89 (qS91 _ _ (qb87 _ _ hs_y66)) (by decide)).trans emsh9) ((hg464 b1 12 0 17 (qS91 _ _ (qb87 _ _ hk68)) (by decide)).trans exsp9) ((hg464 b39 13 0 90 (qS91 _ _ (qb87 _ _ hs_y66)) (by decide)).trans emsp9) ((hg464 b39 13 0 17 (qS91 _ _ (qb87 _ _ hs_y66)) (by decide)).trans emsm9) (xWn.m wn9 (qS91 _ _ (qb87 _ _ hk74)) (qS91 _ _ (qb87 _ _ hk81)) hg464 xLe.rf (by decide)) (by rw [(xv_m hg464 (qS91 _ _ (qb87 _ _ hk72)) (by decide) (by decide)), (xv_m hg464 (qS91 _ _ (qb87 _ _ hk79)) (by decide) (by decide))]; exact wt9) (by rw [(xv_m hg464 (qS91 _ _ (qb87 _ _ hk73)) (by decide) (by decide)), (xv_m hg464 (qS91 _ _ (qb87 _ _ hk80)) (by decide) (by decide))]; exact ld9) (by rw [(xv_m hg464 (qS91 _ _ (qb87 _ _ hk71)) (by decide) (by decide)), (xv_m hg464 (qS91 _ _ (qb87 _ _ hs_b86)) (by decide) (by decide))]; exact sk9) (by rw [(xv_m hg464 (qS91 _ _ (qb87 _ _ hs_b84)) (by decide) (by decide)), (xv_m hg464 (qS91 _ _ (qb87 _ _ hs_b85)) (by decide) (by decide))]; exact xTc.mono tc9 (by omega)) dc9 ds9 (by omega) (by omega) (by omega)
        · refine X_tableIn hK 1205 27 (by decide) c96 (by decide) (by decide) dL_law_40 rfl (by decide) ?_
          refine X_aloadn hK (i := 1) 3 dL_law_1205 rfl rfl ?_
          refine X_aloadn hK (i := 0) 4 dL_law_1206 rfl rfl ?_
          refine X_iload hK (i := 4) 0 dL_law_1207 rfl ?_
          refine X_iconst hK dL_law_1209 ?_
          refine X_iadd hK dL_law_1210 ?_
          refine X_scr hK hX hbl hbA hL (by omega) (by omega) dL_law_1211 (fun z467 ez467 lz467 uz467 => ?_)
          refine X_aloadn hK (i := 0) 4 dL_law_1212 rfl rfl ?_
          refine X_iload hK (i := 4) 0 dL_law_1213 rfl ?_
          refine X_iconst hK dL_law_1215 ?_
          refine X_iadd hK dL_law_1216 ?_
          refine X_scr hK hX hbl hbA hL (by omega) (by omega) dL_law_1217 (fun z468 ez468 lz468 uz468 => ?_)
          refine X_aloadn hK (i := 0) 4 dL_law_1218 rfl rfl ?_
          refine X_iload hK (i := 4) 0 dL_law_1219 rfl ?_
          refine X_iconst hK dL_law_1221 ?_
          refine X_iadd hK dL_law_1222 ?_
          refine X_scr hK hX hbl hbA hL (by omega) (by omega) dL_law_1223 (fun z469 ez469 lz469 uz469 => ?_)
          refine X_callV hK [.int (iI z467), .int (iI z468), .int (iI z469)] [] lk_L_142 (c_X11_parted _ _ _ _ _ S91 g92 b1 z467 z468 z469 b35 k9 (qS91 _ _ (qb87 _ _ hk68)) (by omega) (by omega) (by omega) el09 (qS91 _ _ (qb87 _ _ hk75)) (by omega) exk9 pi9) (qS91 _ _ (qb87 _ _ hk68)) ⟨by decide, rfl⟩ dL_law_1224 rfl rfl (by simp [Value.category]) (by decide) (by omega) (by omega) (by decide) (fun r470 S472 g471 pr470 qr470 hg471 => ?_)
          obtain ⟨rfl, z473, rfl, lz473, uz473, k474, k475⟩ := pr470
          refine X_st [.int (iI z473)] rfl ?_
          refine X_pop hK dL_law_1227 rfl ?_
          refine X_aloadn hK (i := 2) 2 dL_law_1228 rfl rfl ?_
          refine X_aloadn hK (i := 0) 4 dL_law_1229 rfl rfl ?_
          refine X_iload hK (i := 4) 0 dL_law_1230 rfl ?_
          refine X_iconst hK dL_law_1232 ?_
          refine X_iadd hK dL_law_1233 ?_
          refine X_scrK hK hX hbl hbA hL (by omega) (by omega) ez467 dL_law_1234 ?_
          refine X_aloadn hK (i := 0) 4 dL_law_1235 rfl rfl ?_
          refine X_iload hK (i := 4) 0 dL_law_1236 rfl ?_
          refine X_iconst hK dL_law_1238 ?_
          refine X_iadd hK dL_law_1239 ?_
          refine X_scrK hK hX hbl hbA hL (by omega) (by omega) ez468 dL_law_1240 ?_
          refine X_aloadn hK (i := 0) 4 dL_law_1241 rfl rfl ?_
          refine X_iload hK (i := 4) 0 dL_law_1242 rfl ?_
          refine X_iconst hK dL_law_1244 ?_
          refine X_iadd hK dL_law_1245 ?_
          refine X_scrK hK hX hbl hbA hL (by omega) (by omega) ez469 dL_law_1246 ?_
          refine X_callV hK [.int (iI z467), .int (iI z468), .int (iI z469)] [] lk_L_146 (c_X12_parted _ _ _ _ _ S91 g471 b39 z467 z468 z469 k9 (qS91 _ _ (qb87 _ _ hs_y66)) (by omega) (by omega) (by omega) (by omega) ((hg471 b39 13 0 2 (qS91 _ _ (qb87 _ _ hs_y66)) (by decide)).trans emk9) (xMp_m mp9 hg471 xLe.rf (by decide))) (qS91 _ _ (qb87 _ _ hs_y66)) ⟨by decide, rfl⟩ dL_law_1247 rfl rfl (by simp [Value.category]) (by decide) (by omega) (by omega) (by decide) (fun r476 S478 g477 pr476 qr476 hg477 => ?_)
          obtain ⟨rfl, z479, rfl, lz479, uz479, k480, k481⟩ := pr476
          refine X_st [.int (iI z479)] rfl ?_
          refine X_pop hK dL_law_1250 rfl ?_
          refine X_goto hK 1465 dL_law_1251 (by decide) ?_
          refine X_iinc hK (i := 4) (z := i9) (n := 6) 0 [(4, .int (iI (i9 + 6))), (3, .ref b87), (2, .ref b39), (1, .ref b1), (0, .ref b)] dL_law_1465 rfl (by decide) rfl ?_
          refine X_goto hK 23 dL_law_1468 (by decide) ?_
          exact ih9 S91 qS91 g477 (i9 + 6) (0) t9 c9 b9 sh9 sp9 sm9 (by omega) (by omega) (by omega) (by omega) (by omega) (by omega) (by omega) (by omega) (xLs_mod (xLs_mod al9 hg471 (by decide)) hg477 (by decide)) si9 (xPi_m k475 hg477 xLe.rf (by decide)) k481 (xTw_m (xTw_m tw9 hg471 xLe.rf (by decide)) hg477 xLe.rf (by decide)) (xTW_m (xTW_m tkw9 hg471 xLe.rf (by decide)) hg477 xLe.rf (by decide)) ((hg477 b1 12 0 0 (qS91 _ _ (qb87 _ _ hk68)) (by decide)).trans ((hg471 b1 12 0 0 (qS91 _ _ (qb87 _ _ hk68)) (by decide)).trans el09)) ((hg477 b1 12 0 3 (qS91 _ _ (qb87 _ _ hk68)) (by decide)).trans ((hg471 b1 12 0 3 (qS91 _ _ (qb87 _ _ hk68)) (by decide)).trans el19)) ((hg477 b1 12 0 1 (qS91 _ _ (qb87 _ _ hk68)) (by decide)).trans ((hg471 b1 12 0 1 (qS91 _ _ (qb87 _ _ hk68)) (by decide)).trans el29)) ((hg477 b37 6 0 1 (qS91 _ _ (qb87 _ _ hk77)) (by decide)).trans ((hg471 b37 6 0 1 (qS91 _ _ (qb87 _ _ hk77)) (by decide)).trans el39)) ((hg477 b1 12 0 2 (qS91 _ _ (qb87 _ _ hk68)) (by decide)).trans ((hg471 b1 12 0 2 (qS91 _ _ (qb87 _ _ hk68)) (by decide)).trans el49)) ((hg477 b19 4 0 0 (qS91 _ _ (qb87 _ _ hk69)) (by decide)).trans ((hg471 b19 4 0 0 (qS91 _ _ (qb87 _ _ hk69)) (by decide)).trans el59)) ((hg477 b19 4 0 2 (qS91 _ _ (qb87 _ _ hk69)) (by decide)).trans ((hg471 b19 4 0 2 (qS91 _ _ (qb87 _ _ hk69)) (by decide)).trans el69)) ((hg477 b19 4 0 3 (qS91 _ _ (qb87 _ _ hk69)) (by decide)).trans ((hg471 b19 4 0 3 (qS91 _ _ (qb87 _ _ hk69)) (by decide)).trans el79)) ((hg477 b19 4 0 4 (qS91 _ _ (qb87 _ _ hk69)) (by decide)).trans ((hg471 b19 4 0 4 (qS91 _ _ (qb87 _ _ hk69)) (by decide)).trans el89)) ((hg477 b35 10 0 0 (qS91 _ _ (qb87 _ _ hk75)) (by decide)).trans ((hg471 b35 10 0 0 (qS91 _ _ (qb87 _ _ hk75)) (by decide)).trans el99)) ((hg477 b39 13 0 1 (qS91 _ _ (qb87 _ _ hs_y66)) (by decide)).trans ((hg471 b39 13 0 1 (qS91 _ _ (qb87 _ _ hs_y66)) (by decide)).trans el109)) ((hg477 b39 13 0 10 (qS91 _ _ (qb87 _ _ hs_y66)) (by decide)).trans ((hg471 b39 13 0 10 (qS91 _ _ (qb87 _ _ hs_y66)) (by decide)).trans el119)) ((hg477 b39 13 0 13 (qS91 _ _ (qb87 _ _ hs_y66)) (by decide)).trans ((hg471 b39 13 0 13 (qS91 _ _ (qb87 _ _ hs_y66)) (by decide)).trans el129)) ((hg477 b39 13 0 14 (qS91 _ _ (qb87 _ _ hs_y66)) (by decide)).trans ((hg471 b39 13 0 14 (qS91 _ _ (qb87 _ _ hs_y66)) (by decide)).trans el139)) ((hg477 b39 13 0 12 (qS91 _ _ (qb87 _ _ hs_y66)) (by decide)).trans ((hg471 b39 13 0 12 (qS91 _ _ (qb87 _ _ hs_y66)) (by decide)).trans el149)) ((hg477 b35 10 0 1 (qS91 _ _ (qb87 _ _ hk75)) (by decide)).trans k474) k480 ((hg477 b1 12 0 12 (qS91 _ _ (qb87 _ _ hk68)) (by decide)).trans ((hg471 b1 12 0 12 (qS91 _ _ (qb87 _ _ hk68)) (by decide)).trans ext9)) ((hg477 b39 13 0 3 (qS91 _ _ (qb87 _ _ hs_y66)) (by decide)).trans ((hg471 b39 13 0 3 (qS91 _ _ (qb87 _ _ hs_y66)) (by decide)).trans emt9)) ((hg477 b36 5 0 3 (qS91 _ _ (qb87 _ _ hk76)) (by decide)).trans ((hg471 b36 5 0 3 (qS91 _ _ (qb87 _ _ hk76)) (by decide)).trans exc9)) ((hg477 b39 13 0 69 (qS91 _ _ (qb87 _ _ hs_y66)) (by decide)).trans ((hg471 b39 13 0 69 (qS91 _ _ (qb87 _ _ hs_y66)) (by decide)).trans emc9)) ((hg477 b38 0 0 2 (qS91 _ _ (qb87 _ _ hk78)) (by decide)).trans ((hg471 b38 0 0 2 (qS91 _ _ (qb87 _ _ hk78)) (by decide)).trans exb9)) ((hg477 b39 13 0 16 (qS91 _ _ (qb87 _ _ hs_y66)) (by decide)).trans ((hg471 b39 13 0 16 (qS91 _ _ (qb87 _ _ hs_y66)) (by decide)).trans emb9)) ((hg477 b1 12 0 16 (qS91 _ _ (qb87 _ _ hk68)) (by decide)).trans ((hg471 b1 12 0 16 (qS91 _ _ (qb87 _ _ hk68)) (by decide)).trans exsh9)) ((hg477 b39 13 0 89 (qS91 _ _ (qb87 _ _ hs_y66)) (by decide)).trans ((hg471 b39 13 0 89 (qS91 _ _ (qb87 _ _ hs_y66)) (by decide)).trans emsh9)) ((hg477 b1 12 0 17 (qS91 _ _ (qb87 _ _ hk68)) (by decide)).trans ((hg471 b1 12 0 17 (qS91 _ _ (qb87 _ _ hk68)) (by decide)).trans exsp9)) ((hg477 b39 13 0 90 (qS91 _ _ (qb87 _ _ hs_y66)) (by decide)).trans ((hg471 b39 13 0 90 (qS91 _ _ (qb87 _ _ hs_y66)) (by decide)).trans emsp9)) ((hg477 b39 13 0 17 (qS91 _ _ (qb87 _ _ hs_y66)) (by decide)).trans ((hg471 b39 13 0 17 (qS91 _ _ (qb87 _ _ hs_y66)) (by decide)).trans emsm9)) (xWn.m (xWn.m wn9 (qS91 _ _ (qb87 _ _ hk74)) (qS91 _ _ (qb87 _ _ hk81)) hg471 xLe.rf (by decide)) (qS91 _ _ (qb87 _ _ hk74)) (qS91 _ _ (qb87 _ _ hk81)) hg477 xLe.rf (by decide)) (by rw [(Eq.trans (xv_m hg477 (qS91 _ _ (qb87 _ _ hk72)) (by decide) (by decide)) (xv_m hg471 (qS91 _ _ (qb87 _ _ hk72)) (by decide) (by decide))), (Eq.trans (xv_m hg477 (qS91 _ _ (qb87 _ _ hk79)) (by decide) (by decide)) (xv_m hg471 (qS91 _ _ (qb87 _ _ hk79)) (by decide) (by decide)))]; exact wt9) (by rw [(Eq.trans (xv_m hg477 (qS91 _ _ (qb87 _ _ hk73)) (by decide) (by decide)) (xv_m hg471 (qS91 _ _ (qb87 _ _ hk73)) (by decide) (by decide))), (Eq.trans (xv_m hg477 (qS91 _ _ (qb87 _ _ hk80)) (by decide) (by decide)) (xv_m hg471 (qS91 _ _ (qb87 _ _ hk80)) (by decide) (by decide)))]; exact ld9) (by rw [(Eq.trans (xv_m hg477 (qS91 _ _ (qb87 _ _ hk71)) (by decide) (by decide)) (xv_m hg471 (qS91 _ _ (qb87 _ _ hk71)) (by decide) (by decide))), (Eq.trans (xv_m hg477 (qS91 _ _ (qb87 _ _ hs_b86)) (by decide) (by decide)) (xv_m hg471 (qS91 _ _ (qb87 _ _ hs_b86)) (by decide) (by decide)))]; exact sk9) (by rw [(Eq.trans (xv_m hg477 (qS91 _ _ (qb87 _ _ hs_b84)) (by decide) (by decide)) (xv_m hg471 (qS91 _ _ (qb87 _ _ hs_b84)) (by decide) (by decide))), (Eq.trans (xv_m hg477 (qS91 _ _ (qb87 _ _ hs_b85)) (by decide) (by decide)) (xv_m hg471 (qS91 _ _ (qb87 _ _ hs_b85)) (by decide) (by decide)))]; exact xTc.mono tc9 (by omega)) dc9 ds9 (by omega) (by omega) (by omega)
        · refine X_tableIn hK 1254 28 (by decide) c96 (by decide) (by decide) dL_law_40 rfl (by decide) ?_
          refine X_aloadn hK (i := 1) 3 dL_law_1254 rfl rfl ?_
          refine X_aloadn hK (i := 0) 4 dL_law_1255 rfl rfl ?_
          refine X_iload hK (i := 4) 0 dL_law_1256 rfl ?_
          refine X_iconst hK dL_law_1258 ?_
          refine X_iadd hK dL_law_1259 ?_
          refine X_scr hK hX hbl hbA hL (by omega) (by omega) dL_law_1260 (fun z482 ez482 lz482 uz482 => ?_)
          refine X_callV hK [.int (iI z482)] [] lk_L_147 (c_X11_partedAt _ _ _ _ _ S91 g92 b1 z482 (qS91 _ _ (qb87 _ _ hk68)) (by omega)) (qS91 _ _ (qb87 _ _ hk68)) ⟨by decide, rfl⟩ dL_law_1261 rfl rfl (by simp [Value.category]) (by decide) (by omega) (by omega) (by decide) (fun r483 S485 g484 pr483 qr483 hg484 => ?_)
          obtain ⟨rfl, rfl, z486, rfl, lz486, uz486⟩ := pr483
          refine X_st [.int (iI z486)] rfl ?_
          refine X_pop hK dL_law_1264 rfl ?_
          refine X_aloadn hK (i := 2) 2 dL_law_1265 rfl rfl ?_
          refine X_aloadn hK (i := 0) 4 dL_law_1266 rfl rfl ?_
          refine X_iload hK (i := 4) 0 dL_law_1267 rfl ?_
          refine X_iconst hK dL_law_1269 ?_
          refine X_iadd hK dL_law_1270 ?_
          refine X_scrK hK hX hbl hbA hL (by omega) (by omega) ez482 dL_law_1271 ?_
          refine X_callV hK [.int (iI z482)] [] lk_L_150 (c_X12_partedAt _ _ _ _ _ S91 g92 b39 z482 (qS91 _ _ (qb87 _ _ hs_y66)) (by omega)) (qS91 _ _ (qb87 _ _ hs_y66)) ⟨by decide, rfl⟩ dL_law_1272 rfl rfl (by simp [Value.category]) (by decide) (by omega) (by omega) (by decide) (fun r487 S489 g488 pr487 qr487 hg488 => ?_)
          obtain ⟨rfl, z490, rfl, lz490, uz490⟩ := pr487
          refine X_st [.int (iI z490)] rfl ?_
          refine X_pop hK dL_law_1275 rfl ?_
          refine X_goto hK 1465 dL_law_1276 (by decide) ?_
          refine X_iinc hK (i := 4) (z := i9) (n := 6) 0 [(4, .int (iI (i9 + 6))), (3, .ref b87), (2, .ref b39), (1, .ref b1), (0, .ref b)] dL_law_1465 rfl (by decide) rfl ?_
          refine X_goto hK 23 dL_law_1468 (by decide) ?_
          exact ih9 S91 qS91 g488 (i9 + 6) k9 t9 c9 b9 sh9 sp9 sm9 (by omega) (by omega) (by omega) (by omega) (by omega) (by omega) (by omega) (by omega) (xLs_mod al9 hg488 (by decide)) si9 (xPi_m pi9 hg488 xLe.rf (by decide)) (xMp_m mp9 hg488 xLe.rf (by decide)) (xTw_m tw9 hg488 xLe.rf (by decide)) (xTW_m tkw9 hg488 xLe.rf (by decide)) ((hg488 b1 12 0 0 (qS91 _ _ (qb87 _ _ hk68)) (by decide)).trans el09) ((hg488 b1 12 0 3 (qS91 _ _ (qb87 _ _ hk68)) (by decide)).trans el19) ((hg488 b1 12 0 1 (qS91 _ _ (qb87 _ _ hk68)) (by decide)).trans el29) ((hg488 b37 6 0 1 (qS91 _ _ (qb87 _ _ hk77)) (by decide)).trans el39) ((hg488 b1 12 0 2 (qS91 _ _ (qb87 _ _ hk68)) (by decide)).trans el49) ((hg488 b19 4 0 0 (qS91 _ _ (qb87 _ _ hk69)) (by decide)).trans el59) ((hg488 b19 4 0 2 (qS91 _ _ (qb87 _ _ hk69)) (by decide)).trans el69) ((hg488 b19 4 0 3 (qS91 _ _ (qb87 _ _ hk69)) (by decide)).trans el79) ((hg488 b19 4 0 4 (qS91 _ _ (qb87 _ _ hk69)) (by decide)).trans el89) ((hg488 b35 10 0 0 (qS91 _ _ (qb87 _ _ hk75)) (by decide)).trans el99) ((hg488 b39 13 0 1 (qS91 _ _ (qb87 _ _ hs_y66)) (by decide)).trans el109) ((hg488 b39 13 0 10 (qS91 _ _ (qb87 _ _ hs_y66)) (by decide)).trans el119) ((hg488 b39 13 0 13 (qS91 _ _ (qb87 _ _ hs_y66)) (by decide)).trans el129) ((hg488 b39 13 0 14 (qS91 _ _ (qb87 _ _ hs_y66)) (by decide)).trans el139) ((hg488 b39 13 0 12 (qS91 _ _ (qb87 _ _ hs_y66)) (by decide)).trans el149) ((hg488 b35 10 0 1 (qS91 _ _ (qb87 _ _ hk75)) (by decide)).trans exk9) ((hg488 b39 13 0 2 (qS91 _ _ (qb87 _ _ hs_y66)) (by decide)).trans emk9) ((hg488 b1 12 0 12 (qS91 _ _ (qb87 _ _ hk68)) (by decide)).trans ext9) ((hg488 b39 13 0 3 (qS91 _ _ (qb87 _ _ hs_y66)) (by decide)).trans emt9) ((hg488 b36 5 0 3 (qS91 _ _ (qb87 _ _ hk76)) (by decide)).trans exc9) ((hg488 b39 13 0 69 (qS91 _ _ (qb87 _ _ hs_y66)) (by decide)).trans emc9) ((hg488 b38 0 0 2 (qS91 _ _ (qb87 _ _ hk78)) (by decide)).trans exb9) ((hg488 b39 13 0 16 (qS91 _ _ (qb87 _ _ hs_y66)) (by decide)).trans emb9) ((hg488 b1 12 0 16 (qS91 _ _ (qb87 _ _ hk68)) (by decide)).trans exsh9) ((hg488 b39 13 0 89 (qS91 _ _ (qb87 _ _ hs_y66)) (by decide)).trans emsh9) ((hg488 b1 12 0 17 (qS91 _ _ (qb87 _ _ hk68)) (by decide)).trans exsp9) ((hg488 b39 13 0 90 (qS91 _ _ (qb87 _ _ hs_y66)) (by decide)).trans emsp9) ((hg488 b39 13 0 17 (qS91 _ _ (qb87 _ _ hs_y66)) (by decide)).trans emsm9) (xWn.m wn9 (qS91 _ _ (qb87 _ _ hk74)) (qS91 _ _ (qb87 _ _ hk81)) hg488 xLe.rf (by decide)) (by rw [(xv_m hg488 (qS91 _ _ (qb87 _ _ hk72)) (by decide) (by decide)), (xv_m hg488 (qS91 _ _ (qb87 _ _ hk79)) (by decide) (by decide))]; exact wt9) (by rw [(xv_m hg488 (qS91 _ _ (qb87 _ _ hk73)) (by decide) (by decide)), (xv_m hg488 (qS91 _ _ (qb87 _ _ hk80)) (by decide) (by decide))]; exact ld9) (by rw [(xv_m hg488 (qS91 _ _ (qb87 _ _ hk71)) (by decide) (by decide)), (xv_m hg488 (qS91 _ _ (qb87 _ _ hs_b86)) (by decide) (by decide))]; exact sk9) (by rw [(xv_m hg488 (qS91 _ _ (qb87 _ _ hs_b84)) (by decide) (by decide)), (xv_m hg488 (qS91 _ _ (qb87 _ _ hs_b85)) (by decide) (by decide))]; exact xTc.mono tc9 (by omega)) dc9 ds9 (by omega) (by omega) (by omega)
        · refine X_tableIn hK 1279 29 (by decide) c96 (by decide) (by decide) dL_law_40 rfl (by decide) ?_
          refine X_aloadn hK (i := 1) 3 dL_law_1279 rfl rfl ?_
          refine X_aloadn hK (i := 0) 4 dL_law_1280 rfl rfl ?_
          refine X_iload hK (i := 4) 0 dL_law_1281 rfl ?_
          refine X_iconst hK dL_law_1283 ?_
          refine X_iadd hK dL_law_1284 ?_
          refine X_scr hK hX hbl hbA hL (by omega) (by omega) dL_law_1285 (fun z491 ez491 lz491 uz491 => ?_)
          refine X_callV hK [.int (iI z491)] [] lk_L_151 (c_X11_peace _ _ _ _ _ S91 g92 b1 z491 (qS91 _ _ (qb87 _ _ hk68)) (by omega) pi9) (qS91 _ _ (qb87 _ _ hk68)) ⟨by decide, rfl⟩ dL_law_1286 rfl rfl (by simp [Value.category]) (by decide) (by omega) (by omega) (by decide) (fun r492 S494 g493 pr492 qr492 hg493 => ?_)
          obtain ⟨rfl, rfl, z495, rfl, lz495, uz495⟩ := pr492
          refine X_st [.int (iI z495)] rfl ?_
          refine X_pop hK dL_law_1289 rfl ?_
          refine X_aloadn hK (i := 2) 2 dL_law_1290 rfl rfl ?_
          refine X_aloadn hK (i := 0) 4 dL_law_1291 rfl rfl ?_
          refine X_iload hK (i := 4) 0 dL_law_1292 rfl ?_
          refine X_iconst hK dL_law_1294 ?_
          refine X_iadd hK dL_law_1295 ?_
          refine X_scrK hK hX hbl hbA hL (by omega) (by omega) ez491 dL_law_1296 ?_
          refine X_callV hK [.int (iI z491)] [] lk_L_154 (c_X12_peace _ _ _ _ _ S91 g92 b39 z491 (qS91 _ _ (qb87 _ _ hs_y66)) (by omega) mp9) (qS91 _ _ (qb87 _ _ hs_y66)) ⟨by decide, rfl⟩ dL_law_1297 rfl rfl (by simp [Value.category]) (by decide) (by omega) (by omega) (by decide) (fun r496 S498 g497 pr496 qr496 hg497 => ?_)
          obtain ⟨rfl, z499, rfl, lz499, uz499⟩ := pr496
          refine X_st [.int (iI z499)] rfl ?_
          refine X_pop hK dL_law_1300 rfl ?_
          refine X_goto hK 1465 dL_law_1301 (by decide) ?_
          refine X_iinc hK (i := 4) (z := i9) (n := 6) 0 [(4, .int (iI (i9 + 6))), (3, .ref b87), (2, .ref b39), (1, .ref b1), (0, .ref b)] dL_law_1465 rfl (by decide) rfl ?_
          refine X_goto hK 23 dL_law_1468 (by decide) ?_
          exact ih9 S91 qS91 g497 (i9 + 6) k9 t9 c9 b9 sh9 sp9 sm9 (by omega) (by omega) (by omega) (by omega) (by omega) (by omega) (by omega) (by omega) (xLs_mod al9 hg497 (by decide)) si9 (xPi_m pi9 hg497 xLe.rf (by decide)) (xMp_m mp9 hg497 xLe.rf (by decide)) (xTw_m tw9 hg497 xLe.rf (by decide)) (xTW_m tkw9 hg497 xLe.rf (by decide)) ((hg497 b1 12 0 0 (qS91 _ _ (qb87 _ _ hk68)) (by decide)).trans el09) ((hg497 b1 12 0 3 (qS91 _ _ (qb87 _ _ hk68)) (by decide)).trans el19) ((hg497 b1 12 0 1 (qS91 _ _ (qb87 _ _ hk68)) (by decide)).trans el29) ((hg497 b37 6 0 1 (qS91 _ _ (qb87 _ _ hk77)) (by decide)).trans el39) ((hg497 b1 12 0 2 (qS91 _ _ (qb87 _ _ hk68)) (by decide)).trans el49) ((hg497 b19 4 0 0 (qS91 _ _ (qb87 _ _ hk69)) (by decide)).trans el59) ((hg497 b19 4 0 2 (qS91 _ _ (qb87 _ _ hk69)) (by decide)).trans el69) ((hg497 b19 4 0 3 (qS91 _ _ (qb87 _ _ hk69)) (by decide)).trans el79) ((hg497 b19 4 0 4 (qS91 _ _ (qb87 _ _ hk69)) (by decide)).trans el89) ((hg497 b35 10 0 0 (qS91 _ _ (qb87 _ _ hk75)) (by decide)).trans el99) ((hg497 b39 13 0 1 (qS91 _ _ (qb87 _ _ hs_y66)) (by decide)).trans el109) ((hg497 b39 13 0 10 (qS91 _ _ (qb87 _ _ hs_y66)) (by decide)).trans el119) ((hg497 b39 13 0 13 (qS91 _ _ (qb87 _ _ hs_y66)) (by decide)).trans el129) ((hg497 b39 13 0 14 (qS91 _ _ (qb87 _ _ hs_y66)) (by decide)).trans el139) ((hg497 b39 13 0 12 (qS91 _ _ (qb87 _ _ hs_y66)) (by decide)).trans el149) ((hg497 b35 10 0 1 (qS91 _ _ (qb87 _ _ hk75)) (by decide)).trans exk9) ((hg497 b39 13 0 2 (qS91 _ _ (qb87 _ _ hs_y66)) (by decide)).trans emk9) ((hg497 b1 12 0 12 (qS91 _ _ (qb87 _ _ hk68)) (by decide)).trans ext9) ((hg497 b39 13 0 3 (qS91 _ _ (qb87 _ _ hs_y66)) (by decide)).trans emt9) ((hg497 b36 5 0 3 (qS91 _ _ (qb87 _ _ hk76)) (by decide)).trans exc9) ((hg497 b39 13 0 69 (qS91 _ _ (qb87 _ _ hs_y66)) (by decide)).trans emc9) ((hg497 b38 0 0 2 (qS91 _ _ (qb87 _ _ hk78)) (by decide)).trans exb9) ((hg497 b39 13 0 16 (qS91 _ _ (qb87 _ _ hs_y66)) (by decide)).trans emb9) ((hg497 b1 12 0 16 (qS91 _ _ (qb87 _ _ hk68)) (by decide)).trans exsh9) ((hg497 b39 13 0 89 (qS91 _ _ (qb87 _ _ hs_y66)) (by decide)).trans emsh9) ((hg497 b1 12 0 17 (qS91 _ _ (qb87 _ _ hk68)) (by decide)).trans exsp9) ((hg497 b39 13 0 90 (qS91 _ _ (qb87 _ _ hs_y66)) (by decide)).trans emsp9) ((hg497 b39 13 0 17 (qS91 _ _ (qb87 _ _ hs_y66)) (by decide)).trans emsm9) (xWn.m wn9 (qS91 _ _ (qb87 _ _ hk74)) (qS91 _ _ (qb87 _ _ hk81)) hg497 xLe.rf (by decide)) (by rw [(xv_m hg497 (qS91 _ _ (qb87 _ _ hk72)) (by decide) (by decide)), (xv_m hg497 (qS91 _ _ (qb87 _ _ hk79)) (by decide) (by decide))]; exact wt9) (by rw [(xv_m hg497 (qS91 _ _ (qb87 _ _ hk73)) (by decide) (by decide)), (xv_m hg497 (qS91 _ _ (qb87 _ _ hk80)) (by decide) (by decide))]; exact ld9) (by rw [(xv_m hg497 (qS91 _ _ (qb87 _ _ hk71)) (by decide) (by decide)), (xv_m hg497 (qS91 _ _ (qb87 _ _ hs_b86)) (by decide) (by decide))]; exact sk9) (by rw [(xv_m hg497 (qS91 _ _ (qb87 _ _ hs_b84)) (by decide) (by decide)), (xv_m hg497 (qS91 _ _ (qb87 _ _ hs_b85)) (by decide) (by decide))]; exact xTc.mono tc9 (by omega)) dc9 ds9 (by omega) (by omega) (by omega)
        · refine X_tableIn hK 1304 30 (by decide) c96 (by decide) (by decide) dL_law_40 rfl (by decide) ?_
          refine X_aloadn hK (i := 1) 3 dL_law_1304 rfl rfl ?_
          refine X_callVU hK [] [] lk_L_155 (c3_truck _ _ _ _ _ S91 g92 b1 b35 k9 b84 nt9 Yt9 Qt9 (qS91 _ _ (qb87 _ _ hk68)) el09 (qS91 _ _ (qb87 _ _ hk75)) (by omega) exk9 el99 (qS91 _ _ (qb87 _ _ hs_b84)) si9 rc9) (qS91 _ _ (qb87 _ _ hk68)) ⟨by decide, rfl⟩ dL_law_1305 rfl rfl (by simp [Value.category]) (by decide) (by omega) (by omega) (by decide) (fun r500 S502 g501 dcr500 dsr500 pr500 qr500 hg501 => ?_)
          obtain ⟨wr500, z503, rfl, lz503, uz503, k504, k505, k506, k507⟩ := pr500
          have A508 : xLs S502 g501 := xLs_al al9 hg501 (by decide) qr500 wr500 (by decide)
          refine X_st [.int (iI z503)] rfl ?_
          refine X_aloadn hK (i := 2) 2 dL_law_1308 rfl rfl ?_
          refine X_knowr 19100 10 (qr500 _ _ (qS91 _ _ (qb87 _ _ hs_y66))) (by decide) sl_13_85 (fun b509 eb509 hs_b509 => ?_)
          refine X_knowr 19200 10 (qr500 _ _ (qS91 _ _ (qb87 _ _ hs_y66))) (by decide) sl_13_86 (fun b510 eb510 hs_b510 => ?_)
          refine X_knowr 18900 10 (qr500 _ _ (qS91 _ _ (qb87 _ _ hs_y66))) (by decide) sl_13_83 (fun b511 eb511 hs_b511 => ?_)
          refine X_knowr 18800 10 (qr500 _ _ (qS91 _ _ (qb87 _ _ hs_y66))) (by decide) sl_13_82 (fun b512 eb512 hs_b512 => ?_)
          refine X_callV hK [] [.int (iI z503)] lk_L_158 (c3_mtruck _ _ _ _ _ S502 g501 b39 k9 b85 b509 b510 b511 b512 nt9 Ym9 Qt9 (xv g92 b84) (qr500 _ _ (qS91 _ _ (qb87 _ _ hs_y66))) (by omega) ((hg501 b39 13 0 2 (qS91 _ _ (qb87 _ _ hs_y66)) (by decide)).trans emk9) ((hg501 b39 13 0 1 (qS91 _ _ (qb87 _ _ hs_y66)) (by decide)).trans el109) (qr500 _ _ (qS91 _ _ (qb87 _ _ hs_b85))) eb509 hs_b509 eb510 hs_b510 eb511 hs_b511 eb512 hs_b512 (xRm_m rm9 hg501 qr500 (by decide)) (fun h9 i9 q1 q2 => by rw [(xv_m hg501 (qS91 _ _ (qb87 _ _ hs_b85)) (by decide) (by decide))]; exact (tc9 i9 q1 (by omega)).symm)) (qr500 _ _ (qS91 _ _ (qb87 _ _ hs_y66))) ⟨by decide, rfl⟩ dL_law_1309 rfl rfl (by simp [Value.category]) (by decide) (by omega) (by omega) (by decide) (fun r513 S515 g514 pr513 qr513 hg514 => ?_)
          obtain ⟨rfl, z516, rfl, lz516, uz516, k517, k518⟩ := pr513
          refine X_st [.int (iI z516), .int (iI z503)] rfl ?_
          obtain ⟨nq519, Yq519, rcq519, tkq519⟩ := k507
          obtain ⟨mq519, Zq519, rmq519, tmq519⟩ := k518
          obtain ⟨hq9, hnq519, alq519⟩ := xTK.det (by have h9 := xRc.r rc9; omega) at9 tkq519 tmq519
          refine X_icmp_eq hK 1465 (by omega) (by omega) dL_law_1312 (by decide) (fun c520 => ?_) (fun c520 => False.elim (by omega))
          refine X_iinc hK (i := 4) (z := i9) (n := 6) 0 [(4, .int (iI (i9 + 6))), (3, .ref b87), (2, .ref b39), (1, .ref b1), (0, .ref b)] dL_law_1465 rfl (by decide) rfl ?_
          refine X_goto hK 23 dL_law_1468 (by decide) ?_
          exact ih9 S502 (xLe.tr qS91 qr500) g514 (i9 + 6) (0) t9 c9 b9 sh9 sp9 sm9 (by omega) (by omega) (by omega) (by omega) (by omega) (by omega) (by omega) (by omega) (xLs_mod A508 hg514 (by decide)) k504 (xPi_m (xPi_m pi9 hg501 qr500 (by decide)) hg514 xLe.rf (by decide)) (xMp_m (xMp_m mp9 hg501 qr500 (by decide)) hg514 xLe.rf (by decide)) (xTw_m (xTw_m tw9 hg501 qr500 (by decide)) hg514 xLe.rf (by decide)) (show xTW S502 g514 b1 b39 from ⟨nq519, Yq519, Zq519, Qt9, (xRc_m rcq519 hg514 xLe.rf (by decide)), (by rw [hnq519]; exact rmq519), alq519⟩) ((hg514 b1 12 0 0 (qr500 _ _ (qS91 _ _ (qb87 _ _ hk68))) (by decide)).trans ((hg501 b1 12 0 0 (qS91 _ _ (qb87 _ _ hk68)) (by decide)).trans el09)) ((hg514 b1 12 0 3 (qr500 _ _ (qS91 _ _ (qb87 _ _ hk68))) (by decide)).trans ((hg501 b1 12 0 3 (qS91 _ _ (qb87 _ _ hk68)) (by decide)).trans el19)) ((hg514 b1 12 0 1 (qr500 _ _ (qS91 _ _ (qb87 _ _ hk68))) (by decide)).trans ((hg501 b1 12 0 1 (qS91 _ _ (qb87 _ _ hk68)) (by decide)).trans el29)) ((hg514 b37 6 0 1 (qr500 _ _ (qS91 _ _ (qb87 _ _ hk77))) (by decide)).trans ((hg501 b37 6 0 1 (qS91 _ _ (qb87 _ _ hk77)) (by decide)).trans el39)) ((hg514 b1 12 0 2 (qr500 _ _ (qS91 _ _ (qb87 _ _ hk68))) (by decide)).trans ((hg501 b1 12 0 2 (qS91 _ _ (qb87 _ _ hk68)) (by decide)).trans el49)) ((hg514 b19 4 0 0 (qr500 _ _ (qS91 _ _ (qb87 _ _ hk69))) (by decide)).trans ((hg501 b19 4 0 0 (qS91 _ _ (qb87 _ _ hk69)) (by decide)).trans el59)) ((hg514 b19 4 0 2 (qr500 _ _ (qS91 _ _ (qb87 _ _ hk69))) (by decide)).trans ((hg501 b19 4 0 2 (qS91 _ _ (qb87 _ _ hk69)) (by decide)).trans el69)) ((hg514 b19 4 0 3 (qr500 _ _ (qS91 _ _ (qb87 _ _ hk69))) (by decide)).trans ((hg501 b19 4 0 3 (qS91 _ _ (qb87 _ _ hk69)) (by decide)).trans el79)) ((hg514 b19 4 0 4 (qr500 _ _ (qS91 _ _ (qb87 _ _ hk69))) (by decide)).trans ((hg501 b19 4 0 4 (qS91 _ _ (qb87 _ _ hk69)) (by decide)).trans el89)) ((hg514 b35 10 0 0 (qr500 _ _ (qS91 _ _ (qb87 _ _ hk75))) (by decide)).trans ((hg501 b35 10 0 0 (qS91 _ _ (qb87 _ _ hk75)) (by decide)).trans el99)) ((hg514 b39 13 0 1 (qr500 _ _ (qS91 _ _ (qb87 _ _ hs_y66))) (by decide)).trans ((hg501 b39 13 0 1 (qS91 _ _ (qb87 _ _ hs_y66)) (by decide)).trans el109)) ((hg514 b39 13 0 10 (qr500 _ _ (qS91 _ _ (qb87 _ _ hs_y66))) (by decide)).trans ((hg501 b39 13 0 10 (qS91 _ _ (qb87 _ _ hs_y66)) (by decide)).trans el119)) ((hg514 b39 13 0 13 (qr500 _ _ (qS91 _ _ (qb87 _ _ hs_y66))) (by decide)).trans ((hg501 b39 13 0 13 (qS91 _ _ (qb87 _ _ hs_y66)) (by decide)).trans el129)) ((hg514 b39 13 0 14 (qr500 _ _ (qS91 _ _ (qb87 _ _ hs_y66))) (by decide)).trans ((hg501 b39 13 0 14 (qS91 _ _ (qb87 _ _ hs_y66)) (by decide)).trans el139)) ((hg514 b39 13 0 12 (qr500 _ _ (qS91 _ _ (qb87 _ _ hs_y66))) (by decide)).trans ((hg501 b39 13 0 12 (qS91 _ _ (qb87 _ _ hs_y66)) (by decide)).trans el149)) ((hg514 b35 10 0 1 (qr500 _ _ (qS91 _ _ (qb87 _ _ hk75))) (by decide)).trans k506) k517 ((hg514 b1 12 0 12 (qr500 _ _ (qS91 _ _ (qb87 _ _ hk68))) (by decide)).trans ((hg501 b1 12 0 12 (qS91 _ _ (qb87 _ _ hk68)) (by decide)).trans ext9)) ((hg514 b39 13 0 3 (qr500 _ _ (qS91 _ _ (qb87 _ _ hs_y66))) (by decide)).trans ((hg501 b39 13 0 3 (qS91 _ _ (qb87 _ _ hs_y66)) (by decide)).trans emt9)) ((hg514 b36 5 0 3 (qr500 _ _ (qS91 _ _ (qb87 _ _ hk76))) (by decide)).trans ((hg501 b36 5 0 3 (qS91 _ _ (qb87 _ _ hk76)) (by decide)).trans exc9)) ((hg514 b39 13 0 69 (qr500 _ _ (qS91 _ _ (qb87 _ _ hs_y66))) (by decide)).trans ((hg501 b39 13 0 69 (qS91 _ _ (qb87 _ _ hs_y66)) (by decide)).trans emc9)) ((hg514 b38 0 0 2 (qr500 _ _ (qS91 _ _ (qb87 _ _ hk78))) (by decide)).trans ((hg501 b38 0 0 2 (qS91 _ _ (qb87 _ _ hk78)) (by decide)).trans exb9)) ((hg514 b39 13 0 16 (qr500 _ _ (qS91 _ _ (qb87 _ _ hs_y66))) (by decide)).trans ((hg501 b39 13 0 16 (qS91 _ _ (qb87 _ _ hs_y66)) (by decide)).trans emb9)) ((hg514 b1 12 0 16 (qr500 _ _ (qS91 _ _ (qb87 _ _ hk68))) (by decide)).trans ((hg501 b1 12 0 16 (qS91 _ _ (qb87 _ _ hk68)) (by decide)).trans exsh9)) ((hg514 b39 13 0 89 (qr500 _ _ (qS91 _ _ (qb87 _ _ hs_y66))) (by decide)).trans ((hg501 b39 13 0 89 (qS91 _ _ (qb87 _ _ hs_y66)) (by decide)).trans emsh9)) ((hg514 b1 12 0 17 (qr500 _ _ (qS91 _ _ (qb87 _ _ hk68))) (by decide)).trans ((hg501 b1 12 0 17 (qS91 _ _ (qb87 _ _ hk68)) (by decide)).trans exsp9)) ((hg514 b39 13 0 90 (qr500 _ _ (qS91 _ _ (qb87 _ _ hs_y66))) (by decide)).trans ((hg501 b39 13 0 90 (qS91 _ _ (qb87 _ _ hs_y66)) (by decide)).trans emsp9)) ((hg514 b39 13 0 17 (qr500 _ _ (qS91 _ _ (qb87 _ _ hs_y66))) (by decide)).trans ((hg501 b39 13 0 17 (qS91 _ _ (qb87 _ _ hs_y66)) (by decide)).trans emsm9)) (xWn.m (xWn.m wn9 (qS91 _ _ (qb87 _ _ hk74)) (qS91 _ _ (qb87 _ _ hk81)) hg501 qr500 (by decide)) (qr500 _ _ (qS91 _ _ (qb87 _ _ hk74))) (qr500 _ _ (qS91 _ _ (qb87 _ _ hk81))) hg514 xLe.rf (by decide)) (by rw [(Eq.trans (xv_m hg514 (qr500 _ _ (qS91 _ _ (qb87 _ _ hk72))) (by decide) (by decide)) (xv_m hg501 (qS91 _ _ (qb87 _ _ hk72)) (by decide) (by decide))), (Eq.trans (xv_m hg514 (qr500 _ _ (qS91 _ _ (qb87 _ _ hk79))) (by decide) (by decide)) (xv_m hg501 (qS91 _ _ (qb87 _ _ hk79)) (by decide) (by decide)))]; exact wt9) (by rw [(Eq.trans (xv_m hg514 (qr500 _ _ (qS91 _ _ (qb87 _ _ hk73))) (by decide) (by decide)) (xv_m hg501 (qS91 _ _ (qb87 _ _ hk73)) (by decide) (by decide))), (Eq.trans (xv_m hg514 (qr500 _ _ (qS91 _ _ (qb87 _ _ hk80))) (by decide) (by decide)) (xv_m hg501 (qS91 _ _ (qb87 _ _ hk80)) (by decide) (by decide)))]; exact ld9) (by rw [(Eq.trans (xv_m hg514 (qr500 _ _ (qS91 _ _ (qb87 _ _ hk71))) (by decide) (by decide)) (xv_m hg501 (qS91 _ _ (qb87 _ _ hk71)) (by decide) (by decide))), (Eq.trans (xv_m hg514 (qr500 _ _ (qS91 _ _ (qb87 _ _ hs_b86))) (by decide) (by decide)) (xv_m hg501 (qS91 _ _ (qb87 _ _ hs_b86)) (by decide) (by decide)))]; exact sk9) (by rw [(Eq.trans (xv_m hg514 (qr500 _ _ (qS91 _ _ (qb87 _ _ hs_b84))) (by decide) (by decide)) (xv_m hg501 (qS91 _ _ (qb87 _ _ hs_b84)) (by decide) (by decide))), (Eq.trans (xv_m hg514 (qr500 _ _ (qS91 _ _ (qb87 _ _ hs_b85))) (by decide) (by decide)) (xv_m hg501 (qS91 _ _ (qb87 _ _ hs_b85)) (by decide) (by decide)))]; exact xTc.mono tc9 (by omega)) (dc9 + dcr500) (ds9 + dsr500) (by omega) (by omega) (by omega)
        · refine X_tableIn hK 1317 31 (by decide) c96 (by decide) (by decide) dL_law_40 rfl (by decide) ?_
          refine X_aloadn hK (i := 1) 3 dL_law_1317 rfl rfl ?_
          refine X_aloadn hK (i := 0) 4 dL_law_1318 rfl rfl ?_
          refine X_iload hK (i := 4) 0 dL_law_1319 rfl ?_
          refine X_iconst hK dL_law_1321 ?_
          refine X_iadd hK dL_law_1322 ?_
          refine X_scr hK hX hbl hbA hL (by omega) (by omega) dL_law_1323 (fun z521 ez521 lz521 uz521 => ?_)
          refine X_callV hK [.int (iI z521)] [] lk_L_159 (c3_truckAt _ _ _ _ _ S91 g92 b1 z521 nt9 Yt9 Qt9 (qS91 _ _ (qb87 _ _ hk68)) (by omega) rc9) (qS91 _ _ (qb87 _ _ hk68)) ⟨by decide, rfl⟩ dL_law_1324 rfl rfl (by simp [Value.category]) (by decide) (by omega) (by omega) (by decide) (fun r522 S524 g523 pr522 qr522 hg523 => ?_)
          obtain ⟨rfl, rfl, z525, rfl, lz525, uz525, k526⟩ := pr522
          refine X_st [.int (iI z525)] rfl ?_
          refine X_pop hK dL_law_1327 rfl ?_
          refine X_aloadn hK (i := 2) 2 dL_law_1328 rfl rfl ?_
          refine X_aloadn hK (i := 0) 4 dL_law_1329 rfl rfl ?_
          refine X_iload hK (i := 4) 0 dL_law_1330 rfl ?_
          refine X_iconst hK dL_law_1332 ?_
          refine X_iadd hK dL_law_1333 ?_
          refine X_scrK hK hX hbl hbA hL (by omega) (by omega) ez521 dL_law_1334 ?_
          refine X_callV hK [.int (iI z521)] [] lk_L_162 (c3_mtruckAt _ _ _ _ _ S91 g92 b39 z521 nt9 Ym9 Qt9 (qS91 _ _ (qb87 _ _ hs_y66)) (by omega) rm9) (qS91 _ _ (qb87 _ _ hs_y66)) ⟨by decide, rfl⟩ dL_law_1335 rfl rfl (by simp [Value.category]) (by decide) (by omega) (by omega) (by decide) (fun r527 S529 g528 pr527 qr527 hg528 => ?_)
          obtain ⟨rfl, z530, rfl, lz530, uz530, k531⟩ := pr527
          refine X_st [.int (iI z530)] rfl ?_
          have hq9 : z525 = z530 := xat9 at9 k526 k531
          refine X_pop hK dL_law_1338 rfl ?_
          refine X_goto hK 1465 dL_law_1339 (by decide) ?_
          refine X_iinc hK (i := 4) (z := i9) (n := 6) 0 [(4, .int (iI (i9 + 6))), (3, .ref b87), (2, .ref b39), (1, .ref b1), (0, .ref b)] dL_law_1465 rfl (by decide) rfl ?_
          refine X_goto hK 23 dL_law_1468 (by decide) ?_
          exact ih9 S91 qS91 g528 (i9 + 6) k9 t9 c9 b9 sh9 sp9 sm9 (by omega) (by omega) (by omega) (by omega) (by omega) (by omega) (by omega) (by omega) (xLs_mod al9 hg528 (by decide)) si9 (xPi_m pi9 hg528 xLe.rf (by decide)) (xMp_m mp9 hg528 xLe.rf (by decide)) (xTw_m tw9 hg528 xLe.rf (by decide)) (xTW_m tkw9 hg528 xLe.rf (by decide)) ((hg528 b1 12 0 0 (qS91 _ _ (qb87 _ _ hk68)) (by decide)).trans el09) ((hg528 b1 12 0 3 (qS91 _ _ (qb87 _ _ hk68)) (by decide)).trans el19) ((hg528 b1 12 0 1 (qS91 _ _ (qb87 _ _ hk68)) (by decide)).trans el29) ((hg528 b37 6 0 1 (qS91 _ _ (qb87 _ _ hk77)) (by decide)).trans el39) ((hg528 b1 12 0 2 (qS91 _ _ (qb87 _ _ hk68)) (by decide)).trans el49) ((hg528 b19 4 0 0 (qS91 _ _ (qb87 _ _ hk69)) (by decide)).trans el59) ((hg528 b19 4 0 2 (qS91 _ _ (qb87 _ _ hk69)) (by decide)).trans el69) ((hg528 b19 4 0 3 (qS91 _ _ (qb87 _ _ hk69)) (by decide)).trans el79) ((hg528 b19 4 0 4 (qS91 _ _ (qb87 _ _ hk69)) (by decide)).trans el89) ((hg528 b35 10 0 0 (qS91 _ _ (qb87 _ _ hk75)) (by decide)).trans el99) ((hg528 b39 13 0 1 (qS91 _ _ (qb87 _ _ hs_y66)) (by decide)).trans el109) ((hg528 b39 13 0 10 (qS91 _ _ (qb87 _ _ hs_y66)) (by decide)).trans el119) ((hg528 b39 13 0 13 (qS91 _ _ (qb87 _ _ hs_y66)) (by decide)).trans el129) ((hg528 b39 13 0 14 (qS91 _ _ (qb87 _ _ hs_y66)) (by decide)).trans el139) ((hg528 b39 13 0 12 (qS91 _ _ (qb87 _ _ hs_y66)) (by decide)).trans el149) ((hg528 b35 10 0 1 (qS91 _ _ (qb87 _ _ hk75)) (by decide)).trans exk9) ((hg528 b39 13 0 2 (qS91 _ _ (qb87 _ _ hs_y66)) (by decide)).trans emk9) ((hg528 b1 12 0 12 (qS91 _ _ (qb87 _ _ hk68)) (by decide)).trans ext9) ((hg528 b39 13 0 3 (qS91 _ _ (qb87 _ _ hs_y66)) (by decide)).trans emt9) ((hg528 b36 5 0 3 (qS91 _ _ (qb87 _ _ hk76)) (by decide)).trans exc9) ((hg528 b39 13 0 69 (qS91 _ _ (qb87 _ _ hs_y66)) (by decide)).trans emc9) ((hg528 b38 0 0 2 (qS91 _ _ (qb87 _ _ hk78)) (by decide)).trans exb9) ((hg528 b39 13 0 16 (qS91 _ _ (qb87 _ _ hs_y66)) (by decide)).trans emb9) ((hg528 b1 12 0 16 (qS91 _ _ (qb87 _ _ hk68)) (by decide)).trans exsh9) ((hg528 b39 13 0 89 (qS91 _ _ (qb87 _ _ hs_y66)) (by decide)).trans emsh9) ((hg528 b1 12 0 17 (qS91 _ _ (qb87 _ _ hk68)) (by decide)).trans exsp9) ((hg528 b39 13 0 90 (qS91 _ _ (qb87 _ _ hs_y66)) (by decide)).trans emsp9) ((hg528 b39 13 0 17 (qS91 _ _ (qb87 _ _ hs_y66)) (by decide)).trans emsm9) (xWn.m wn9 (qS91 _ _ (qb87 _ _ hk74)) (qS91 _ _ (qb87 _ _ hk81)) hg528 xLe.rf (by decide)) (by rw [(xv_m hg528 (qS91 _ _ (qb87 _ _ hk72)) (by decide) (by decide)), (xv_m hg528 (qS91 _ _ (qb87 _ _ hk79)) (by decide) (by decide))]; exact wt9) (by rw [(xv_m hg528 (qS91 _ _ (qb87 _ _ hk73)) (by decide) (by decide)), (xv_m hg528 (qS91 _ _ (qb87 _ _ hk80)) (by decide) (by decide))]; exact ld9) (by rw [(xv_m hg528 (qS91 _ _ (qb87 _ _ hk71)) (by decide) (by decide)), (xv_m hg528 (qS91 _ _ (qb87 _ _ hs_b86)) (by decide) (by decide))]; exact sk9) (by rw [(xv_m hg528 (qS91 _ _ (qb87 _ _ hs_b84)) (by decide) (by decide)), (xv_m hg528 (qS91 _ _ (qb87 _ _ hs_b85)) (by decide) (by decide))]; exact xTc.mono tc9 (by omega)) dc9 ds9 (by omega) (by omega) (by omega)
        · refine X_tableIn hK 1342 32 (by decide) c96 (by decide) (by decide) dL_law_40 rfl (by decide) ?_
          refine X_aloadn hK (i := 1) 3 dL_law_1342 rfl rfl ?_
          refine X_aloadn hK (i := 0) 4 dL_law_1343 rfl rfl ?_
          refine X_iload hK (i := 4) 0 dL_law_1344 rfl ?_
          refine X_iconst hK dL_law_1346 ?_
          refine X_iadd hK dL_law_1347 ?_
          refine X_scr hK hX hbl hbA hL (by omega) (by omega) dL_law_1348 (fun z532 ez532 lz532 uz532 => ?_)
          refine X_aloadn hK (i := 0) 4 dL_law_1349 rfl rfl ?_
          refine X_iload hK (i := 4) 0 dL_law_1350 rfl ?_
          refine X_iconst hK dL_law_1352 ?_
          refine X_iadd hK dL_law_1353 ?_
          refine X_scr hK hX hbl hbA hL (by omega) (by omega) dL_law_1354 (fun z533 ez533 lz533 uz533 => ?_)
          refine X_aloadn hK (i := 0) 4 dL_law_1355 rfl rfl ?_
          refine X_iload hK (i := 4) 0 dL_law_1356 rfl ?_
          refine X_iconst hK dL_law_1358 ?_
          refine X_iadd hK dL_law_1359 ?_
          refine X_scr hK hX hbl hbA hL (by omega) (by omega) dL_law_1360 (fun z534 ez534 lz534 uz534 => ?_)
          refine X_aloadn hK (i := 0) 4 dL_law_1361 rfl rfl ?_
          refine X_iload hK (i := 4) 0 dL_law_1362 rfl ?_
          refine X_iconst hK dL_law_1364 ?_
          refine X_iadd hK dL_law_1365 ?_
          refine X_scr hK hX hbl hbA hL (by omega) (by omega) dL_law_1366 (fun z535 ez535 lz535 uz535 => ?_)
          refine X_aloadn hK (i := 0) 4 dL_law_1367 rfl rfl ?_
          refine X_iload hK (i := 4) 0 dL_law_1368 rfl ?_
          refine X_iconst hK dL_law_1370 ?_
          refine X_iadd hK dL_law_1371 ?_
          refine X_scr hK hX hbl hbA hL (by omega) (by omega) dL_law_1372 (fun z536 ez536 lz536 uz536 => ?_)
          refine X_callV hK [.int (iI z532), .int (iI z533), .int (iI z534), .int (iI z535), .int (iI z536)] [] lk_L_163 (c_X11_strike _ _ _ _ _ S91 g92 b1 z532 z533 z534 z535 z536 b35 k9 b84 sh9 sp9 (qS91 _ _ (qb87 _ _ hk68)) (by omega) (by omega) (by omega) (by omega) (by omega) el09 (qS91 _ _ (qb87 _ _ hk75)) (by omega) exk9 el99 (qS91 _ _ (qb87 _ _ hs_b84)) (by omega) exsh9 (by omega) exsp9) (qS91 _ _ (qb87 _ _ hk68)) ⟨by decide, rfl⟩ dL_law_1373 rfl rfl (by simp [Value.category]) (by decide) (by omega) (by omega) (by decide) (fun r537 S539 g538 pr537 qr537 hg538 => ?_)
          obtain ⟨rfl, z540, rfl, lz540, uz540, k541, k542⟩ := pr537
          refine X_st [.int (iI z540)] rfl ?_
          obtain ⟨z543, z544, ez543, ez544, rz543, rz544, kz543⟩ := k542
          refine X_pop hK dL_law_1376 rfl ?_
          refine X_aloadn hK (i := 2) 2 dL_law_1377 rfl rfl ?_
          refine X_aloadn hK (i := 0) 4 dL_law_1378 rfl rfl ?_
          refine X_iload hK (i := 4) 0 dL_law_1379 rfl ?_
          refine X_iconst hK dL_law_1381 ?_
          refine X_iadd hK dL_law_1382 ?_
          refine X_scrK hK hX hbl hbA hL (by omega) (by omega) ez532 dL_law_1383 ?_
          refine X_aloadn hK (i := 0) 4 dL_law_1384 rfl rfl ?_
          refine X_iload hK (i := 4) 0 dL_law_1385 rfl ?_
          refine X_iconst hK dL_law_1387 ?_
          refine X_iadd hK dL_law_1388 ?_
          refine X_scrK hK hX hbl hbA hL (by omega) (by omega) ez533 dL_law_1389 ?_
          refine X_aloadn hK (i := 0) 4 dL_law_1390 rfl rfl ?_
          refine X_iload hK (i := 4) 0 dL_law_1391 rfl ?_
          refine X_iconst hK dL_law_1393 ?_
          refine X_iadd hK dL_law_1394 ?_
          refine X_scrK hK hX hbl hbA hL (by omega) (by omega) ez534 dL_law_1395 ?_
          refine X_aloadn hK (i := 0) 4 dL_law_1396 rfl rfl ?_
          refine X_iload hK (i := 4) 0 dL_law_1397 rfl ?_
          refine X_iconst hK dL_law_1399 ?_
          refine X_iadd hK dL_law_1400 ?_
          refine X_scrK hK hX hbl hbA hL (by omega) (by omega) ez535 dL_law_1401 ?_
          refine X_aloadn hK (i := 0) 4 dL_law_1402 rfl rfl ?_
          refine X_iload hK (i := 4) 0 dL_law_1403 rfl ?_
          refine X_iconst hK dL_law_1405 ?_
          refine X_iadd hK dL_law_1406 ?_
          refine X_scrK hK hX hbl hbA hL (by omega) (by omega) ez536 dL_law_1407 ?_
          refine X_callV hK [.int (iI z532), .int (iI z533), .int (iI z534), .int (iI z535), .int (iI z536)] [] lk_L_166 (c3_strike _ _ _ _ _ S91 g538 b39 z532 z533 z534 z535 z536 k9 b85 sh9 sp9 (qS91 _ _ (qb87 _ _ hs_y66)) (by omega) (by omega) (by omega) (by omega) (by omega) (by omega) ((hg538 b39 13 0 2 (qS91 _ _ (qb87 _ _ hs_y66)) (by decide)).trans emk9) ((hg538 b39 13 0 1 (qS91 _ _ (qb87 _ _ hs_y66)) (by decide)).trans el109) (qS91 _ _ (qb87 _ _ hs_b85)) (by omega) ((hg538 b39 13 0 89 (qS91 _ _ (qb87 _ _ hs_y66)) (by decide)).trans emsh9) (by omega) ((hg538 b39 13 0 90 (qS91 _ _ (qb87 _ _ hs_y66)) (by decide)).trans emsp9)) (qS91 _ _ (qb87 _ _ hs_y66)) ⟨by decide, rfl⟩ dL_law_1408 rfl rfl (by simp [Value.category]) (by decide) (by omega) (by omega) (by decide) (fun r545 S547 g546 pr545 qr545 hg546 => ?_)
          obtain ⟨rfl, z548, rfl, lz548, uz548, k549, k550⟩ := pr545
          refine X_st [.int (iI z548)] rfl ?_
          obtain ⟨z551, z552, ez551, ez552, rz551, rz552, kz551⟩ := k550
          obtain ⟨hq9, hhz551, hhz552⟩ := xSkr.det (by rw [(xv_m hg538 (qS91 _ _ (qb87 _ _ hs_b85)) (by decide) (by decide))]; exact tc9) kz543 kz551
          refine X_pop hK dL_law_1411 rfl ?_
          refine X_goto hK 1465 dL_law_1412 (by decide) ?_
          refine X_iinc hK (i := 4) (z := i9) (n := 6) 0 [(4, .int (iI (i9 + 6))), (3, .ref b87), (2, .ref b39), (1, .ref b1), (0, .ref b)] dL_law_1465 rfl (by decide) rfl ?_
          refine X_goto hK 23 dL_law_1468 (by decide) ?_
          exact ih9 S91 qS91 g546 (i9 + 6) (0) t9 c9 b9 z543 z544 sm9 (by omega) (by omega) (by omega) (by omega) (by omega) (by omega) (by omega) (by omega) (xLs_mod (xLs_mod al9 hg538 (by decide)) hg546 (by decide)) si9 (xPi_m (xPi_m pi9 hg538 xLe.rf (by decide)) hg546 xLe.rf (by decide)) (xMp_m (xMp_m mp9 hg538 xLe.rf (by decide)) hg546 xLe.rf (by decide)) (xTw_m (xTw_m tw9 hg538 xLe.rf (by decide)) hg546 xLe.rf (by decide)) (xTW_m (xTW_m tkw9 hg538 xLe.rf (by decide)) hg546 xLe.rf (by decide)) ((hg546 b1 12 0 0 (qS91 _ _ (qb87 _ _ hk68)) (by decide)).trans ((hg538 b1 12 0 0 (qS91 _ _ (qb87 _ _ hk68)) (by decide)).trans el09)) ((hg546 b1 12 0 3 (qS91 _ _ (qb87 _ _ hk68)) (by decide)).trans ((hg538 b1 12 0 3 (qS91 _ _ (qb87 _ _ hk68)) (by decide)).trans el19)) ((hg546 b1 12 0 1 (qS91 _ _ (qb87 _ _ hk68)) (by decide)).trans ((hg538 b1 12 0 1 (qS91 _ _ (qb87 _ _ hk68)) (by decide)).trans el29)) ((hg546 b37 6 0 1 (qS91 _ _ (qb87 _ _ hk77)) (by decide)).trans ((hg538 b37 6 0 1 (qS91 _ _ (qb87 _ _ hk77)) (by decide)).trans el39)) ((hg546 b1 12 0 2 (qS91 _ _ (qb87 _ _ hk68)) (by decide)).trans ((hg538 b1 12 0 2 (qS91 _ _ (qb87 _ _ hk68)) (by decide)).trans el49)) ((hg546 b19 4 0 0 (qS91 _ _ (qb87 _ _ hk69)) (by decide)).trans ((hg538 b19 4 0 0 (qS91 _ _ (qb87 _ _ hk69)) (by decide)).trans el59)) ((hg546 b19 4 0 2 (qS91 _ _ (qb87 _ _ hk69)) (by decide)).trans ((hg538 b19 4 0 2 (qS91 _ _ (qb87 _ _ hk69)) (by decide)).trans el69)) ((hg546 b19 4 0 3 (qS91 _ _ (qb87 _ _ hk69)) (by decide)).trans ((hg538 b19 4 0 3 (qS91 _ _ (qb87 _ _ hk69)) (by decide)).trans el79)) ((hg546 b19 4 0 4 (qS91 _ _ (qb87 _ _ hk69)) (by decide)).trans ((hg538 b19 4 0 4 (qS91 _ _ (qb87 _ _ hk69)) (by decide)).trans el89)) ((hg546 b35 10 0 0 (qS91 _ _ (qb87 _ _ hk75)) (by decide)).trans ((hg538 b35 10 0 0 (qS91 _ _ (qb87 _ _ hk75)) (by decide)).trans el99)) ((hg546 b39 13 0 1 (qS91 _ _ (qb87 _ _ hs_y66)) (by decide)).trans ((hg538 b39 13 0 1 (qS91 _ _ (qb87 _ _ hs_y66)) (by decide)).trans el109)) ((hg546 b39 13 0 10 (qS91 _ _ (qb87 _ _ hs_y66)) (by decide)).trans ((hg538 b39 13 0 10 (qS91 _ _ (qb87 _ _ hs_y66)) (by decide)).trans el119)) ((hg546 b39 13 0 13 (qS91 _ _ (qb87 _ _ hs_y66)) (by decide)).trans ((hg538 b39 13 0 13 (qS91 _ _ (qb87 _ _ hs_y66)) (by decide)).trans el129)) ((hg546 b39 13 0 14 (qS91 _ _ (qb87 _ _ hs_y66)) (by decide)).trans ((hg538 b39 13 0 14 (qS91 _ _ (qb87 _ _ hs_y66)) (by decide)).trans el139)) ((hg546 b39 13 0 12 (qS91 _ _ (qb87 _ _ hs_y66)) (by decide)).trans ((hg538 b39 13 0 12 (qS91 _ _ (qb87 _ _ hs_y66)) (by decide)).trans el149)) ((hg546 b35 10 0 1 (qS91 _ _ (qb87 _ _ hk75)) (by decide)).trans k541) k549 ((hg546 b1 12 0 12 (qS91 _ _ (qb87 _ _ hk68)) (by decide)).trans ((hg538 b1 12 0 12 (qS91 _ _ (qb87 _ _ hk68)) (by decide)).trans ext9)) ((hg546 b39 13 0 3 (qS91 _ _ (qb87 _ _ hs_y66)) (by decide)).trans ((hg538 b39 13 0 3 (qS91 _ _ (qb87 _ _ hs_y66)) (by decide)).trans emt9)) ((hg546 b36 5 0 3 (qS91 _ _ (qb87 _ _ hk76)) (by decide)).trans ((hg538 b36 5 0 3 (qS91 _ _ (qb87 _ _ hk76)) (by decide)).trans exc9)) ((hg546 b39 13 0 69 (qS91 _ _ (qb87 _ _ hs_y66)) (by decide)).trans ((hg538 b39 13 0 69 (qS91 _ _ (qb87 _ _ hs_y66)) (by decide)).trans emc9)) ((hg546 b38 0 0 2 (qS91 _ _ (qb87 _ _ hk78)) (by decide)).trans ((hg538 b38 0 0 2 (qS91 _ _ (qb87 _ _ hk78)) (by decide)).trans exb9)) ((hg546 b39 13 0 16 (qS91 _ _ (qb87 _ _ hs_y66)) (by decide)).trans ((hg538 b39 13 0 16 (qS91 _ _ (qb87 _ _ hs_y66)) (by decide)).trans emb9)) ((hg546 b1 12 0 16 (qS91 _ _ (qb87 _ _ hk68)) (by decide)).trans ez543) (ez551.trans (by rw [hhz551])) ((hg546 b1 12 0 17 (qS91 _ _ (qb87 _ _ hk68)) (by decide)).trans ez544) (ez552.trans (by rw [hhz552])) ((hg546 b39 13 0 17 (qS91 _ _ (qb87 _ _ hs_y66)) (by decide)).trans ((hg538 b39 13 0 17 (qS91 _ _ (qb87 _ _ hs_y66)) (by decide)).trans emsm9)) (xWn.m (xWn.m wn9 (qS91 _ _ (qb87 _ _ hk74)) (qS91 _ _ (qb87 _ _ hk81)) hg538 xLe.rf (by decide)) (qS91 _ _ (qb87 _ _ hk74)) (qS91 _ _ (qb87 _ _ hk81)) hg546 xLe.rf (by decide)) (by rw [(Eq.trans (xv_m hg546 (qS91 _ _ (qb87 _ _ hk72)) (by decide) (by decide)) (xv_m hg538 (qS91 _ _ (qb87 _ _ hk72)) (by decide) (by decide))), (Eq.trans (xv_m hg546 (qS91 _ _ (qb87 _ _ hk79)) (by decide) (by decide)) (xv_m hg538 (qS91 _ _ (qb87 _ _ hk79)) (by decide) (by decide)))]; exact wt9) (by rw [(Eq.trans (xv_m hg546 (qS91 _ _ (qb87 _ _ hk73)) (by decide) (by decide)) (xv_m hg538 (qS91 _ _ (qb87 _ _ hk73)) (by decide) (by decide))), (Eq.trans (xv_m hg546 (qS91 _ _ (qb87 _ _ hk80)) (by decide) (by decide)) (xv_m hg538 (qS91 _ _ (qb87 _ _ hk80)) (by decide) (by decide)))]; exact ld9) (by rw [(Eq.trans (xv_m hg546 (qS91 _ _ (qb87 _ _ hk71)) (by decide) (by decide)) (xv_m hg538 (qS91 _ _ (qb87 _ _ hk71)) (by decide) (by decide))), (Eq.trans (xv_m hg546 (qS91 _ _ (qb87 _ _ hs_b86)) (by decide) (by decide)) (xv_m hg538 (qS91 _ _ (qb87 _ _ hs_b86)) (by decide) (by decide)))]; exact sk9) (by rw [(Eq.trans (xv_m hg546 (qS91 _ _ (qb87 _ _ hs_b84)) (by decide) (by decide)) (xv_m hg538 (qS91 _ _ (qb87 _ _ hs_b84)) (by decide) (by decide))), (Eq.trans (xv_m hg546 (qS91 _ _ (qb87 _ _ hs_b85)) (by decide) (by decide)) (xv_m hg538 (qS91 _ _ (qb87 _ _ hs_b85)) (by decide) (by decide)))]; exact xTc.mono tc9 (by omega)) dc9 ds9 (by omega) (by omega) (by omega)
        · refine X_tableIn hK 1415 33 (by decide) c96 (by decide) (by decide) dL_law_40 rfl (by decide) ?_
          refine X_aloadn hK (i := 1) 3 dL_law_1415 rfl rfl ?_
          refine X_aloadn hK (i := 0) 4 dL_law_1416 rfl rfl ?_
          refine X_iload hK (i := 4) 0 dL_law_1417 rfl ?_
          refine X_iconst hK dL_law_1419 ?_
          refine X_iadd hK dL_law_1420 ?_
          refine X_scr hK hX hbl hbA hL (by omega) (by omega) dL_law_1421 (fun z553 ez553 lz553 uz553 => ?_)
          refine X_callV hK [.int (iI z553)] [] lk_L_167 (c_X11_struck _ _ _ _ _ S91 g92 b1 z553 sh9 sp9 (qS91 _ _ (qb87 _ _ hk68)) (by omega) (by omega) exsh9 (by omega) exsp9) (qS91 _ _ (qb87 _ _ hk68)) ⟨by decide, rfl⟩ dL_law_1422 rfl rfl (by simp [Value.category]) (by decide) (by omega) (by omega) (by decide) (fun r554 S556 g555 pr554 qr554 hg555 => ?_)
          obtain ⟨rfl, rfl, z557, rfl, lz557, uz557, k558⟩ := pr554
          refine X_st [.int (iI z557)] rfl ?_
          refine X_pop hK dL_law_1425 rfl ?_
          refine X_aloadn hK (i := 2) 2 dL_law_1426 rfl rfl ?_
          refine X_aloadn hK (i := 0) 4 dL_law_1427 rfl rfl ?_
          refine X_iload hK (i := 4) 0 dL_law_1428 rfl ?_
          refine X_iconst hK dL_law_1430 ?_
          refine X_iadd hK dL_law_1431 ?_
          refine X_scrK hK hX hbl hbA hL (by omega) (by omega) ez553 dL_law_1432 ?_
          refine X_callV hK [.int (iI z553)] [] lk_L_170 (c_X12_struck _ _ _ _ _ S91 g92 b39 z553 sh9 sp9 (qS91 _ _ (qb87 _ _ hs_y66)) (by omega) (by omega) emsh9 (by omega) emsp9) (qS91 _ _ (qb87 _ _ hs_y66)) ⟨by decide, rfl⟩ dL_law_1433 rfl rfl (by simp [Value.category]) (by decide) (by omega) (by omega) (by decide) (fun r559 S561 g560 pr559 qr559 hg560 => ?_)
          obtain ⟨rfl, z562, rfl, lz562, uz562, k563⟩ := pr559
          refine X_st [.int (iI z562)] rfl ?_
          refine X_pop hK dL_law_1436 rfl ?_
          refine X_goto hK 1465 dL_law_1437 (by decide) ?_
          refine X_iinc hK (i := 4) (z := i9) (n := 6) 0 [(4, .int (iI (i9 + 6))), (3, .ref b87), (2, .ref b39), (1, .ref b1), (0, .ref b)] dL_law_1465 rfl (by decide) rfl ?_
          refine X_goto hK 23 dL_law_1468 (by decide) ?_
          exact ih9 S91 qS91 g560 (i9 + 6) k9 t9 c9 b9 sh9 sp9 sm9 (by omega) (by omega) (by omega) (by omega) (by omega) (by omega) (by omega) (by omega) (xLs_mod al9 hg560 (by decide)) si9 (xPi_m pi9 hg560 xLe.rf (by decide)) (xMp_m mp9 hg560 xLe.rf (by decide)) (xTw_m tw9 hg560 xLe.rf (by decide)) (xTW_m tkw9 hg560 xLe.rf (by decide)) ((hg560 b1 12 0 0 (qS91 _ _ (qb87 _ _ hk68)) (by decide)).trans el09) ((hg560 b1 12 0 3 (qS91 _ _ (qb87 _ _ hk68)) (by decide)).trans el19) ((hg560 b1 12 0 1 (qS91 _ _ (qb87 _ _ hk68)) (by decide)).trans el29) ((hg560 b37 6 0 1 (qS91 _ _ (qb87 _ _ hk77)) (by decide)).trans el39) ((hg560 b1 12 0 2 (qS91 _ _ (qb87 _ _ hk68)) (by decide)).trans el49) ((hg560 b19 4 0 0 (qS91 _ _ (qb87 _ _ hk69)) (by decide)).trans el59) ((hg560 b19 4 0 2 (qS91 _ _ (qb87 _ _ hk69)) (by decide)).trans el69) ((hg560 b19 4 0 3 (qS91 _ _ (qb87 _ _ hk69)) (by decide)).trans el79) ((hg560 b19 4 0 4 (qS91 _ _ (qb87 _ _ hk69)) (by decide)).trans el89) ((hg560 b35 10 0 0 (qS91 _ _ (qb87 _ _ hk75)) (by decide)).trans el99) ((hg560 b39 13 0 1 (qS91 _ _ (qb87 _ _ hs_y66)) (by decide)).trans el109) ((hg560 b39 13 0 10 (qS91 _ _ (qb87 _ _ hs_y66)) (by decide)).trans el119) ((hg560 b39 13 0 13 (qS91 _ _ (qb87 _ _ hs_y66)) (by decide)).trans el129) ((hg560 b39 13 0 14 (qS91 _ _ (qb87 _ _ hs_y66)) (by decide)).trans el139) ((hg560 b39 13 0 12 (qS91 _ _ (qb87 _ _ hs_y66)) (by decide)).trans el149) ((hg560 b35 10 0 1 (qS91 _ _ (qb87 _ _ hk75)) (by decide)).trans exk9) ((hg560 b39 13 0 2 (qS91 _ _ (qb87 _ _ hs_y66)) (by decide)).trans emk9) ((hg560 b1 12 0 12 (qS91 _ _ (qb87 _ _ hk68)) (by decide)).trans ext9) ((hg560 b39 13 0 3 (qS91 _ _ (qb87 _ _ hs_y66)) (by decide)).trans emt9) ((hg560 b36 5 0 3 (qS91 _ _ (qb87 _ _ hk76)) (by decide)).trans exc9) ((hg560 b39 13 0 69 (qS91 _ _ (qb87 _ _ hs_y66)) (by decide)).trans emc9) ((hg560 b38 0 0 2 (qS91 _ _ (qb87 _ _ hk78)) (by decide)).trans exb9) ((hg560 b39 13 0 16 (qS91 _ _ (qb87 _ _ hs_y66)) (by decide)).trans emb9) ((hg560 b1 12 0 16 (qS91 _ _ (qb87 _ _ hk68)) (by decide)).trans exsh9) ((hg560 b39 13 0 89 (qS91 _ _ (qb87 _ _ hs_y66)) (by decide)).trans emsh9) ((hg560 b1 12 0 17 (qS91 _ _ (qb87 _ _ hk68)) (by decide)).trans exsp9) ((hg560 b39 13 0 90 (qS91 _ _ (qb87 _ _ hs_y66)) (by decide)).trans emsp9) ((hg560 b39 13 0 17 (qS91 _ _ (qb87 _ _ hs_y66)) (by decide)).trans emsm9) (xWn.m wn9 (qS91 _ _ (qb87 _ _ hk74)) (qS91 _ _ (qb87 _ _ hk81)) hg560 xLe.rf (by decide)) (by rw [(xv_m hg560 (qS91 _ _ (qb87 _ _ hk72)) (by decide) (by decide)), (xv_m hg560 (qS91 _ _ (qb87 _ _ hk79)) (by decide) (by decide))]; exact wt9) (by rw [(xv_m hg560 (qS91 _ _ (qb87 _ _ hk73)) (by decide) (by decide)), (xv_m hg560 (qS91 _ _ (qb87 _ _ hk80)) (by decide) (by decide))]; exact ld9) (by rw [(xv_m hg560 (qS91 _ _ (qb87 _ _ hk71)) (by decide) (by decide)), (xv_m hg560 (qS91 _ _ (qb87 _ _ hs_b86)) (by decide) (by decide))]; exact sk9) (by rw [(xv_m hg560 (qS91 _ _ (qb87 _ _ hs_b84)) (by decide) (by decide)), (xv_m hg560 (qS91 _ _ (qb87 _ _ hs_b85)) (by decide) (by decide))]; exact xTc.mono tc9 (by omega)) dc9 ds9 (by omega) (by omega) (by omega)
        · refine X_tableIn hK 1440 34 (by decide) c96 (by decide) (by decide) dL_law_40 rfl (by decide) ?_
          refine X_aloadn hK (i := 1) 3 dL_law_1440 rfl rfl ?_
          refine X_aloadn hK (i := 0) 4 dL_law_1441 rfl rfl ?_
          refine X_iload hK (i := 4) 0 dL_law_1442 rfl ?_
          refine X_iconst hK dL_law_1444 ?_
          refine X_iadd hK dL_law_1445 ?_
          refine X_scr hK hX hbl hbA hL (by omega) (by omega) dL_law_1446 (fun z564 ez564 lz564 uz564 => ?_)
          refine X_callV hK [.int (iI z564)] [] lk_L_171 (c_X11_count _ _ _ _ _ S91 g92 b1 z564 (qS91 _ _ (qb87 _ _ hk68)) (by omega) al9) (qS91 _ _ (qb87 _ _ hk68)) ⟨by decide, rfl⟩ dL_law_1447 rfl rfl (by simp [Value.category]) (by decide) (by omega) (by omega) (by decide) (fun r565 S567 g566 pr565 qr565 hg566 => ?_)
          obtain ⟨rfl, rfl, z568, rfl, lz568, uz568⟩ := pr565
          refine X_st [.int (iI z568)] rfl ?_
          refine X_pop hK dL_law_1450 rfl ?_
          refine X_aloadn hK (i := 2) 2 dL_law_1451 rfl rfl ?_
          refine X_aloadn hK (i := 0) 4 dL_law_1452 rfl rfl ?_
          refine X_iload hK (i := 4) 0 dL_law_1453 rfl ?_
          refine X_iconst hK dL_law_1455 ?_
          refine X_iadd hK dL_law_1456 ?_
          refine X_scrK hK hX hbl hbA hL (by omega) (by omega) ez564 dL_law_1457 ?_
          refine X_callV hK [.int (iI z564)] [] lk_L_174 (c_X12_count _ _ _ _ _ S91 g92 b39 z564 (qS91 _ _ (qb87 _ _ hs_y66)) (by omega)) (qS91 _ _ (qb87 _ _ hs_y66)) ⟨by decide, rfl⟩ dL_law_1458 rfl rfl (by simp [Value.category]) (by decide) (by omega) (by omega) (by decide) (fun r569 S571 g570 pr569 qr569 hg570 => ?_)
          obtain ⟨rfl, z572, rfl, lz572, uz572⟩ := pr569
          refine X_st [.int (iI z572)] rfl ?_
          refine X_pop hK dL_law_1461 rfl ?_
          refine X_goto hK 1465 dL_law_1462 (by decide) ?_
          refine X_iinc hK (i := 4) (z := i9) (n := 6) 0 [(4, .int (iI (i9 + 6))), (3, .ref b87), (2, .ref b39), (1, .ref b1), (0, .ref b)] dL_law_1465 rfl (by decide) rfl ?_
          refine X_goto hK 23 dL_law_1468 (by decide) ?_
          exact ih9 S91 qS91 g570 (i9 + 6) k9 t9 c9 b9 sh9 sp9 sm9 (by omega) (by omega) (by omega) (by omega) (by omega) (by omega) (by omega) (by omega) (xLs_mod al9 hg570 (by decide)) si9 (xPi_m pi9 hg570 xLe.rf (by decide)) (xMp_m mp9 hg570 xLe.rf (by decide)) (xTw_m tw9 hg570 xLe.rf (by decide)) (xTW_m tkw9 hg570 xLe.rf (by decide)) ((hg570 b1 12 0 0 (qS91 _ _ (qb87 _ _ hk68)) (by decide)).trans el09) ((hg570 b1 12 0 3 (qS91 _ _ (qb87 _ _ hk68)) (by decide)).trans el19) ((hg570 b1 12 0 1 (qS91 _ _ (qb87 _ _ hk68)) (by decide)).trans el29) ((hg570 b37 6 0 1 (qS91 _ _ (qb87 _ _ hk77)) (by decide)).trans el39) ((hg570 b1 12 0 2 (qS91 _ _ (qb87 _ _ hk68)) (by decide)).trans el49) ((hg570 b19 4 0 0 (qS91 _ _ (qb87 _ _ hk69)) (by decide)).trans el59) ((hg570 b19 4 0 2 (qS91 _ _ (qb87 _ _ hk69)) (by decide)).trans el69) ((hg570 b19 4 0 3 (qS91 _ _ (qb87 _ _ hk69)) (by decide)).trans el79) ((hg570 b19 4 0 4 (qS91 _ _ (qb87 _ _ hk69)) (by decide)).trans el89) ((hg570 b35 10 0 0 (qS91 _ _ (qb87 _ _ hk75)) (by decide)).trans el99) ((hg570 b39 13 0 1 (qS91 _ _ (qb87 _ _ hs_y66)) (by decide)).trans el109) ((hg570 b39 13 0 10 (qS91 _ _ (qb87 _ _ hs_y66)) (by decide)).trans el119) ((hg570 b39 13 0 13 (qS91 _ _ (qb87 _ _ hs_y66)) (by decide)).trans el129) ((hg570 b39 13 0 14 (qS91 _ _ (qb87 _ _ hs_y66)) (by decide)).trans el139) ((hg570 b39 13 0 12 (qS91 _ _ (qb87 _ _ hs_y66)) (by decide)).trans el149) ((hg570 b35 10 0 1 (qS91 _ _ (qb87 _ _ hk75)) (by decide)).trans exk9) ((hg570 b39 13 0 2 (qS91 _ _ (qb87 _ _ hs_y66)) (by decide)).trans emk9) ((hg570 b1 12 0 12 (qS91 _ _ (qb87 _ _ hk68)) (by decide)).trans ext9) ((hg570 b39 13 0 3 (qS91 _ _ (qb87 _ _ hs_y66)) (by decide)).trans emt9) ((hg570 b36 5 0 3 (qS91 _ _ (qb87 _ _ hk76)) (by decide)).trans exc9) ((hg570 b39 13 0 69 (qS91 _ _ (qb87 _ _ hs_y66)) (by decide)).trans emc9) ((hg570 b38 0 0 2 (qS91 _ _ (qb87 _ _ hk78)) (by decide)).trans exb9) ((hg570 b39 13 0 16 (qS91 _ _ (qb87 _ _ hs_y66)) (by decide)).trans emb9) ((hg570 b1 12 0 16 (qS91 _ _ (qb87 _ _ hk68)) (by decide)).trans exsh9) ((hg570 b39 13 0 89 (qS91 _ _ (qb87 _ _ hs_y66)) (by decide)).trans emsh9) ((hg570 b1 12 0 17 (qS91 _ _ (qb87 _ _ hk68)) (by decide)).trans exsp9) ((hg570 b39 13 0 90 (qS91 _ _ (qb87 _ _ hs_y66)) (by decide)).trans emsp9) ((hg570 b39 13 0 17 (qS91 _ _ (qb87 _ _ hs_y66)) (by decide)).trans emsm9) (xWn.m wn9 (qS91 _ _ (qb87 _ _ hk74)) (qS91 _ _ (qb87 _ _ hk81)) hg570 xLe.rf (by decide)) (by rw [(xv_m hg570 (qS91 _ _ (qb87 _ _ hk72)) (by decide) (by decide)), (xv_m hg570 (qS91 _ _ (qb87 _ _ hk79)) (by decide) (by decide))]; exact wt9) (by rw [(xv_m hg570 (qS91 _ _ (qb87 _ _ hk73)) (by decide) (by decide)), (xv_m hg570 (qS91 _ _ (qb87 _ _ hk80)) (by decide) (by decide))]; exact ld9) (by rw [(xv_m hg570 (qS91 _ _ (qb87 _ _ hk71)) (by decide) (by decide)), (xv_m hg570 (qS91 _ _ (qb87 _ _ hs_b86)) (by decide) (by decide))]; exact sk9) (by rw [(xv_m hg570 (qS91 _ _ (qb87 _ _ hs_b84)) (by decide) (by decide)), (xv_m hg570 (qS91 _ _ (qb87 _ _ hs_b85)) (by decide) (by decide))]; exact xTc.mono tc9 (by omega)) dc9 ds9 (by omega) (by omega) (by omega)
  exact P9 4001 S88 xLe.rf g89 0 0 0 0 0 (-1) (-1) 0 (by omega) (by omega) (by omega) (by omega) (by omega) (by omega) (by omega) (by omega) A90 (xSi.nw (xSi.nw (xSi.nw (xSi.nw (xSi.nw k9 (xNw2.one hSy26) (by decide)) (xNw2.one hSb39) (by decide)) wr47 (by decide)) (xNw2.one hSy66) (by decide)) (xNw2.one hSb87) (by decide)) (xPi_m pi82 (hg89 ▸ xM_new (L := []) xM.rf nb87) qb87 (by decide)) (xMp_m mm83.1 (hg89 ▸ xM_new (L := []) xM.rf nb87) qb87 (by decide)) (xTw_m mm83.2 (hg89 ▸ xM_new (L := []) xM.rf nb87) qb87 (by decide)) (xTW_m tw8 (hg89 ▸ xM_new (L := []) xM.rf nb87) qb87 (by decide)) ((xs_n hg89 hk68 nb87).trans ((hg48 b1 12 0 0 (qb39 _ _ hs_y26) (by decide)).trans ((xs_n hg41 hs_y26 nb39).trans eb35))) ((xs_n hg89 hk68 nb87).trans ((hg48 b1 12 0 3 (qb39 _ _ hs_y26) (by decide)).trans ((xs_n hg41 hs_y26 nb39).trans eb36))) ((xs_n hg89 hk68 nb87).trans ((hg48 b1 12 0 1 (qb39 _ _ hs_y26) (by decide)).trans ((xs_n hg41 hs_y26 nb39).trans eb37))) ((xs_n hg89 hk77 nb87).trans ((hg48 b37 6 0 1 hk45 (by decide)).trans ((xs_n hg41 (xhs_seal hoy26 (qr5 _ _ hs_b1) hs_b37 (by decide)) nb39).trans eb38))) ((xs_n hg89 hk68 nb87).trans ((hg48 b1 12 0 2 (qb39 _ _ hs_y26) (by decide)).trans ((xs_n hg41 hs_y26 nb39).trans eb19))) ((xs_n hg89 hk69 nb87).trans ((hg48 b19 4 0 0 (qb39 _ _ hk28) (by decide)).trans ((xs_n hg41 hk28 nb39).trans eb20))) ((xs_n hg89 hk69 nb87).trans ((hg48 b19 4 0 2 (qb39 _ _ hk28) (by decide)).trans ((xs_n hg41 hk28 nb39).trans eb21))) ((xs_n hg89 hk69 nb87).trans ((hg48 b19 4 0 3 (qb39 _ _ hk28) (by decide)).trans ((xs_n hg41 hk28 nb39).trans eb22))) ((xs_n hg89 hk69 nb87).trans ((hg48 b19 4 0 4 (qb39 _ _ hk28) (by decide)).trans ((xs_n hg41 hk28 nb39).trans eb23))) ((xs_n hg89 hk75 nb87).trans eb84) ((xs_n hg89 hs_y66 nb87).trans eb85) ((xs_n hg89 hs_y66 nb87).trans eb86) ((xs_n hg89 hs_y66 nb87).trans eb62) ((xs_n hg89 hs_y66 nb87).trans eb63) ((xs_n hg89 hs_y66 nb87).trans eb64) ((xs_n hg89 hk75 nb87).trans ((hg48 b35 10 0 1 hk43 (by decide)).trans ((xs_n hg41 (xhs_seal hoy26 (qr5 _ _ hs_b1) hs_b35 (by decide)) nb39).trans fb35))) ((xs_n hg89 hs_y66 nb87).trans tmm83) ((xs_n hg89 hk68 nb87).trans ((hg48 b1 12 0 12 (qb39 _ _ hs_y26) (by decide)).trans ((xs_n hg41 hs_y26 nb39).trans fb37))) ((xs_n hg89 hs_y66 nb87).trans k51) ((xs_n hg89 hk76 nb87).trans ((hg48 b36 5 0 3 hk44 (by decide)).trans ((xs_n hg41 (xhs_seal hoy26 (qr5 _ _ hs_b1) hs_b36 (by decide)) nb39).trans fb36))) ((xs_n hg89 hs_y66 nb87).trans k53) ((xs_n hg89 hk78 nb87).trans ((hg48 b38 0 0 2 hk46 (by decide)).trans ((xs_n hg41 (xhs_seal hoy26 (qr5 _ _ hs_b1) hs_b38 (by decide)) nb39).trans fb38))) ((xs_n hg89 hs_y66 nb87).trans k52) ((xs_n hg89 hk68 nb87).trans ((hg48 b1 12 0 16 (qb39 _ _ hs_y26) (by decide)).trans ((xs_n hg41 hs_y26 nb39).trans k13))) ((xs_n hg89 hs_y66 nb87).trans k54) ((xs_n hg89 hk68 nb87).trans ((hg48 b1 12 0 17 (qb39 _ _ hs_y26) (by decide)).trans ((xs_n hg41 hs_y26 nb39).trans k14))) ((xs_n hg89 hs_y66 nb87).trans k55) ((xs_n hg89 hs_y66 nb87).trans k56) (xWn.of (by have lt574 := (xLt.seal (qr5 _ _ hs_b1) hSy26 (by decide)); have gr573 := xGr.n zb23 lt574 hk33 (by decide) hg41 nb39; have lt576 := xLt.tr lt574 (xLt.le qb39); have gr575 := xGr.m gr573 lt576 (qb39 _ _ hk33) (by decide) hg48 (by decide) (by decide); have lt578 := xLt.tr lt576 (xLt.le qr47); have lt579 := xLt.tr lt578 (xLt.seal (qr47 _ _ hs_b39) hSy66 (by decide)); have gr577 := xGr.n gr575 lt579 hk74 (by decide) hg89 nb87; exact gr577) (xLt.tr (xLt.tr (xLt.tr (xLt.tr (xLt.seal (qr5 _ _ hs_b1) hSy26 (by decide)) (xLt.le qb39)) (xLt.le qr47)) (xLt.seal (qr47 _ _ hs_b39) hSy66 (by decide))) (xLt.le qb87)) (by rw [(xv_n hg89 hk81 nb87)]; exact zb64)) (xTc.all (by rw [(Eq.trans (Eq.trans (xv_n hg89 hk72 nb87) (xv_m hg48 (qb39 _ _ hk31) (by decide) (by decide))) (xv_n hg41 hk31 nb39))]; exact zb21) (by rw [(xv_n hg89 hk79 nb87)]; exact zb62)) (xTc.all (by rw [(Eq.trans (Eq.trans (xv_n hg89 hk73 nb87) (xv_m hg48 (qb39 _ _ hk32) (by decide) (by decide))) (xv_n hg41 hk32 nb39))]; exact zb22) (by rw [(xv_n hg89 hk80 nb87)]; exact zb63)) (xSm.zero (by rw [(Eq.trans (Eq.trans (xv_n hg89 hk71 nb87) (xv_m hg48 (qb39 _ _ hk30) (by decide) (by decide))) (xv_n hg41 hk30 nb39))]; exact zb20)) xTc.zero (((((0 + 1) + dcr5) + 1) + dcr47) + 1) (((((0 + 18) + dsr5) + 91) + dsr47) + (1 : Int).toNat) (by omega) (by omega) (by omega)
