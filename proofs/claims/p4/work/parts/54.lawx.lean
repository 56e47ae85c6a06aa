theorem m_1_0 : Cond.classLink RL 8 RX11 ∈ wsL_law := ch_1 _ (List.mem_of_getElem? (i := 0) rfl)
theorem m_1_1 : Cond.instantiable RX11 18 ∈ wsL_law := ch_1 _ (List.mem_of_getElem? (i := 1) rfl)
theorem m_1_3 : Cond.classLink RL 20 RX12 ∈ wsL_law := ch_1 _ (List.mem_of_getElem? (i := 3) rfl)
theorem m_1_4 : Cond.instantiable RX12 91 ∈ wsL_law := ch_1 _ (List.mem_of_getElem? (i := 4) rfl)
theorem m_1_7 : Cond.methodLink RL 19 yX11_init ∈ wsL_law := ch_1 _ (List.mem_of_getElem? (i := 7) rfl)
theorem m_1_8 : Cond.instanceMethod yX11_init ∈ wsL_law := ch_1 _ (List.mem_of_getElem? (i := 8) rfl)
theorem m_1_9 : Cond.code yX11_init cX11_init 1 none ∈ wsL_law := ch_1 _ (List.mem_of_getElem? (i := 9) rfl)
theorem m_7_22 : Cond.methodLink RL 22 yX12_init ∈ wsL_law := ch_7 _ (List.mem_of_getElem? (i := 22) rfl)
theorem m_7_23 : Cond.instanceMethod yX12_init ∈ wsL_law := ch_7 _ (List.mem_of_getElem? (i := 23) rfl)
theorem m_8_0 : Cond.code yX12_init cX12_init 1 none ∈ wsL_law := ch_8 _ (List.mem_of_getElem? (i := 0) rfl)
theorem m_10_16 : Cond.methodLink RL 23 yX11_feed ∈ wsL_law := ch_10 _ (List.mem_of_getElem? (i := 16) rfl)
theorem m_10_17 : Cond.instanceMethod yX11_feed ∈ wsL_law := ch_10 _ (List.mem_of_getElem? (i := 17) rfl)
theorem m_10_18 : Cond.selects RX11 yX11_feed yX11_feed ∈ wsL_law := ch_10 _ (List.mem_of_getElem? (i := 18) rfl)
theorem m_10_19 : Cond.code yX11_feed cX11_feed 6 (some .int) ∈ wsL_law := ch_10 _ (List.mem_of_getElem? (i := 19) rfl)
theorem m_11_1 : Cond.methodLink RL 27 yX12_feed ∈ wsL_law := ch_11 _ (List.mem_of_getElem? (i := 1) rfl)
theorem m_11_2 : Cond.instanceMethod yX12_feed ∈ wsL_law := ch_11 _ (List.mem_of_getElem? (i := 2) rfl)
theorem m_11_3 : Cond.selects RX12 yX12_feed yX12_feed ∈ wsL_law := ch_11 _ (List.mem_of_getElem? (i := 3) rfl)
theorem m_11_4 : Cond.code yX12_feed cX12_feed 6 (some .int) ∈ wsL_law := ch_11 _ (List.mem_of_getElem? (i := 4) rfl)
theorem m_11_11 : Cond.methodLink RL 28 yX11_end ∈ wsL_law := ch_11 _ (List.mem_of_getElem? (i := 11) rfl)
theorem m_11_12 : Cond.instanceMethod yX11_end ∈ wsL_law := ch_11 _ (List.mem_of_getElem? (i := 12) rfl)
theorem m_11_13 : Cond.selects RX11 yX11_end yX11_end ∈ wsL_law := ch_11 _ (List.mem_of_getElem? (i := 13) rfl)
theorem m_11_14 : Cond.code yX11_end cX11_end 2 (some .boolean) ∈ wsL_law := ch_11 _ (List.mem_of_getElem? (i := 14) rfl)
theorem m_11_15 : Cond.methodLink RL 32 yX12_end ∈ wsL_law := ch_11 _ (List.mem_of_getElem? (i := 15) rfl)
theorem m_11_16 : Cond.instanceMethod yX12_end ∈ wsL_law := ch_11 _ (List.mem_of_getElem? (i := 16) rfl)
theorem m_11_17 : Cond.selects RX12 yX12_end yX12_end ∈ wsL_law := ch_11 _ (List.mem_of_getElem? (i := 17) rfl)
theorem m_11_18 : Cond.code yX12_end cX12_end 2 (some .boolean) ∈ wsL_law := ch_11 _ (List.mem_of_getElem? (i := 18) rfl)
theorem m_11_19 : Cond.methodLink RL 33 yX11_boy ∈ wsL_law := ch_11 _ (List.mem_of_getElem? (i := 19) rfl)
theorem m_11_20 : Cond.instanceMethod yX11_boy ∈ wsL_law := ch_11 _ (List.mem_of_getElem? (i := 20) rfl)
theorem m_11_21 : Cond.selects RX11 yX11_boy yX11_boy ∈ wsL_law := ch_11 _ (List.mem_of_getElem? (i := 21) rfl)
theorem m_11_22 : Cond.code yX11_boy cX11_boy 6 (some .int) ∈ wsL_law := ch_11 _ (List.mem_of_getElem? (i := 22) rfl)
theorem m_15_7 : Cond.methodLink RL 37 yX12_boy ∈ wsL_law := ch_15 _ (List.mem_of_getElem? (i := 7) rfl)
theorem m_15_8 : Cond.instanceMethod yX12_boy ∈ wsL_law := ch_15 _ (List.mem_of_getElem? (i := 8) rfl)
theorem m_15_9 : Cond.selects RX12 yX12_boy yX12_boy ∈ wsL_law := ch_15 _ (List.mem_of_getElem? (i := 9) rfl)
theorem m_15_10 : Cond.code yX12_boy cX12_boy 5 (some .int) ∈ wsL_law := ch_15 _ (List.mem_of_getElem? (i := 10) rfl)
theorem m_15_15 : Cond.methodLink RL 38 yX11_badge ∈ wsL_law := ch_15 _ (List.mem_of_getElem? (i := 15) rfl)
theorem m_15_16 : Cond.instanceMethod yX11_badge ∈ wsL_law := ch_15 _ (List.mem_of_getElem? (i := 16) rfl)
theorem m_15_17 : Cond.selects RX11 yX11_badge yX11_badge ∈ wsL_law := ch_15 _ (List.mem_of_getElem? (i := 17) rfl)
theorem m_15_18 : Cond.code yX11_badge cX11_badge 3 (some .boolean) ∈ wsL_law := ch_15 _ (List.mem_of_getElem? (i := 18) rfl)
theorem m_16_18 : Cond.methodLink RL 42 yX12_badge ∈ wsL_law := ch_16 _ (List.mem_of_getElem? (i := 18) rfl)
theorem m_16_19 : Cond.instanceMethod yX12_badge ∈ wsL_law := ch_16 _ (List.mem_of_getElem? (i := 19) rfl)
theorem m_16_20 : Cond.selects RX12 yX12_badge yX12_badge ∈ wsL_law := ch_16 _ (List.mem_of_getElem? (i := 20) rfl)
theorem m_16_21 : Cond.code yX12_badge cX12_badge 3 (some .boolean) ∈ wsL_law := ch_16 _ (List.mem_of_getElem? (i := 21) rfl)
theorem m_17_2 : Cond.methodLink RL 43 yX11_owner ∈ wsL_law := ch_17 _ (List.mem_of_getElem? (i := 2) rfl)
theorem m_17_3 : Cond.instanceMethod yX11_owner ∈ wsL_law := ch_17 _ (List.mem_of_getElem? (i := 3) rfl)
theorem m_17_4 : Cond.selects RX11 yX11_owner yX11_owner ∈ wsL_law := ch_17 _ (List.mem_of_getElem? (i := 4) rfl)
theorem m_17_5 : Cond.code yX11_owner cX11_owner 3 (some .boolean) ∈ wsL_law := ch_17 _ (List.mem_of_getElem? (i := 5) rfl)
theorem m_17_10 : Cond.methodLink RL 46 yX12_owner ∈ wsL_law := ch_17 _ (List.mem_of_getElem? (i := 10) rfl)
theorem m_17_11 : Cond.instanceMethod yX12_owner ∈ wsL_law := ch_17 _ (List.mem_of_getElem? (i := 11) rfl)
theorem m_17_12 : Cond.selects RX12 yX12_owner yX12_owner ∈ wsL_law := ch_17 _ (List.mem_of_getElem? (i := 12) rfl)
theorem m_17_13 : Cond.code yX12_owner cX12_owner 3 (some .boolean) ∈ wsL_law := ch_17 _ (List.mem_of_getElem? (i := 13) rfl)
theorem m_17_17 : Cond.methodLink RL 47 yX11_weather ∈ wsL_law := ch_17 _ (List.mem_of_getElem? (i := 17) rfl)
theorem m_17_18 : Cond.instanceMethod yX11_weather ∈ wsL_law := ch_17 _ (List.mem_of_getElem? (i := 18) rfl)
theorem m_17_19 : Cond.selects RX11 yX11_weather yX11_weather ∈ wsL_law := ch_17 _ (List.mem_of_getElem? (i := 19) rfl)
theorem m_17_20 : Cond.code yX11_weather cX11_weather 2 (some .boolean) ∈ wsL_law := ch_17 _ (List.mem_of_getElem? (i := 20) rfl)
theorem m_18_7 : Cond.methodLink RL 51 yX12_weather ∈ wsL_law := ch_18 _ (List.mem_of_getElem? (i := 7) rfl)
theorem m_18_8 : Cond.instanceMethod yX12_weather ∈ wsL_law := ch_18 _ (List.mem_of_getElem? (i := 8) rfl)
theorem m_18_9 : Cond.selects RX12 yX12_weather yX12_weather ∈ wsL_law := ch_18 _ (List.mem_of_getElem? (i := 9) rfl)
theorem m_18_10 : Cond.code yX12_weather cX12_weather 3 (some .boolean) ∈ wsL_law := ch_18 _ (List.mem_of_getElem? (i := 10) rfl)
theorem m_18_16 : Cond.methodLink RL 52 yX11_sky ∈ wsL_law := ch_18 _ (List.mem_of_getElem? (i := 16) rfl)
theorem m_18_17 : Cond.instanceMethod yX11_sky ∈ wsL_law := ch_18 _ (List.mem_of_getElem? (i := 17) rfl)
theorem m_18_18 : Cond.selects RX11 yX11_sky yX11_sky ∈ wsL_law := ch_18 _ (List.mem_of_getElem? (i := 18) rfl)
theorem m_18_19 : Cond.code yX11_sky cX11_sky 2 (some .int) ∈ wsL_law := ch_18 _ (List.mem_of_getElem? (i := 19) rfl)
theorem m_18_21 : Cond.methodLink RL 55 yX12_sky ∈ wsL_law := ch_18 _ (List.mem_of_getElem? (i := 21) rfl)
theorem m_18_22 : Cond.instanceMethod yX12_sky ∈ wsL_law := ch_18 _ (List.mem_of_getElem? (i := 22) rfl)
theorem m_18_23 : Cond.selects RX12 yX12_sky yX12_sky ∈ wsL_law := ch_18 _ (List.mem_of_getElem? (i := 23) rfl)
theorem m_19_0 : Cond.code yX12_sky cX12_sky 2 (some .int) ∈ wsL_law := ch_19 _ (List.mem_of_getElem? (i := 0) rfl)
theorem m_19_8 : Cond.methodLink RL 56 yX11_headline ∈ wsL_law := ch_19 _ (List.mem_of_getElem? (i := 8) rfl)
theorem m_19_9 : Cond.instanceMethod yX11_headline ∈ wsL_law := ch_19 _ (List.mem_of_getElem? (i := 9) rfl)
theorem m_19_10 : Cond.selects RX11 yX11_headline yX11_headline ∈ wsL_law := ch_19 _ (List.mem_of_getElem? (i := 10) rfl)
theorem m_19_11 : Cond.code yX11_headline cX11_headline 4 (some .boolean) ∈ wsL_law := ch_19 _ (List.mem_of_getElem? (i := 11) rfl)
theorem m_19_19 : Cond.methodLink RL 60 yX12_headline ∈ wsL_law := ch_19 _ (List.mem_of_getElem? (i := 19) rfl)
theorem m_19_20 : Cond.instanceMethod yX12_headline ∈ wsL_law := ch_19 _ (List.mem_of_getElem? (i := 20) rfl)
theorem m_19_21 : Cond.selects RX12 yX12_headline yX12_headline ∈ wsL_law := ch_19 _ (List.mem_of_getElem? (i := 21) rfl)
theorem m_19_22 : Cond.code yX12_headline cX12_headline 4 (some .boolean) ∈ wsL_law := ch_19 _ (List.mem_of_getElem? (i := 22) rfl)
theorem m_20_3 : Cond.methodLink RL 61 yX11_table ∈ wsL_law := ch_20 _ (List.mem_of_getElem? (i := 3) rfl)
theorem m_20_4 : Cond.instanceMethod yX11_table ∈ wsL_law := ch_20 _ (List.mem_of_getElem? (i := 4) rfl)
theorem m_20_5 : Cond.selects RX11 yX11_table yX11_table ∈ wsL_law := ch_20 _ (List.mem_of_getElem? (i := 5) rfl)
theorem m_20_6 : Cond.code yX11_table cX11_table 4 (some .boolean) ∈ wsL_law := ch_20 _ (List.mem_of_getElem? (i := 6) rfl)
theorem m_20_12 : Cond.methodLink RL 64 yX12_table ∈ wsL_law := ch_20 _ (List.mem_of_getElem? (i := 12) rfl)
theorem m_20_13 : Cond.instanceMethod yX12_table ∈ wsL_law := ch_20 _ (List.mem_of_getElem? (i := 13) rfl)
theorem m_20_14 : Cond.selects RX12 yX12_table yX12_table ∈ wsL_law := ch_20 _ (List.mem_of_getElem? (i := 14) rfl)
theorem m_20_15 : Cond.code yX12_table cX12_table 4 (some .boolean) ∈ wsL_law := ch_20 _ (List.mem_of_getElem? (i := 15) rfl)
theorem m_20_16 : Cond.methodLink RL 65 yX11_want ∈ wsL_law := ch_20 _ (List.mem_of_getElem? (i := 16) rfl)
theorem m_20_17 : Cond.instanceMethod yX11_want ∈ wsL_law := ch_20 _ (List.mem_of_getElem? (i := 17) rfl)
theorem m_20_18 : Cond.selects RX11 yX11_want yX11_want ∈ wsL_law := ch_20 _ (List.mem_of_getElem? (i := 18) rfl)
theorem m_20_19 : Cond.code yX11_want cX11_want 4 (some .boolean) ∈ wsL_law := ch_20 _ (List.mem_of_getElem? (i := 19) rfl)
theorem m_20_21 : Cond.methodLink RL 68 yX12_want ∈ wsL_law := ch_20 _ (List.mem_of_getElem? (i := 21) rfl)
theorem m_20_22 : Cond.instanceMethod yX12_want ∈ wsL_law := ch_20 _ (List.mem_of_getElem? (i := 22) rfl)
theorem m_20_23 : Cond.selects RX12 yX12_want yX12_want ∈ wsL_law := ch_20 _ (List.mem_of_getElem? (i := 23) rfl)
theorem m_21_0 : Cond.code yX12_want cX12_want 4 (some .boolean) ∈ wsL_law := ch_21 _ (List.mem_of_getElem? (i := 0) rfl)
theorem m_21_1 : Cond.methodLink RL 69 yX11_asked ∈ wsL_law := ch_21 _ (List.mem_of_getElem? (i := 1) rfl)
theorem m_21_2 : Cond.instanceMethod yX11_asked ∈ wsL_law := ch_21 _ (List.mem_of_getElem? (i := 2) rfl)
theorem m_21_3 : Cond.selects RX11 yX11_asked yX11_asked ∈ wsL_law := ch_21 _ (List.mem_of_getElem? (i := 3) rfl)
theorem m_21_4 : Cond.code yX11_asked cX11_asked 5 (some .int) ∈ wsL_law := ch_21 _ (List.mem_of_getElem? (i := 4) rfl)
theorem m_21_9 : Cond.methodLink RL 73 yX12_asked ∈ wsL_law := ch_21 _ (List.mem_of_getElem? (i := 9) rfl)
theorem m_21_10 : Cond.instanceMethod yX12_asked ∈ wsL_law := ch_21 _ (List.mem_of_getElem? (i := 10) rfl)
theorem m_21_11 : Cond.selects RX12 yX12_asked yX12_asked ∈ wsL_law := ch_21 _ (List.mem_of_getElem? (i := 11) rfl)
theorem m_21_12 : Cond.code yX12_asked cX12_asked 5 (some .int) ∈ wsL_law := ch_21 _ (List.mem_of_getElem? (i := 12) rfl)
theorem m_21_17 : Cond.methodLink RL 74 yX11_minutes ∈ wsL_law := ch_21 _ (List.mem_of_getElem? (i := 17) rfl)
theorem m_21_18 : Cond.instanceMethod yX11_minutes ∈ wsL_law := ch_21 _ (List.mem_of_getElem? (i := 18) rfl)
theorem m_21_19 : Cond.selects RX11 yX11_minutes yX11_minutes ∈ wsL_law := ch_21 _ (List.mem_of_getElem? (i := 19) rfl)
theorem m_21_20 : Cond.code yX11_minutes cX11_minutes 4 (some .boolean) ∈ wsL_law := ch_21 _ (List.mem_of_getElem? (i := 20) rfl)
theorem m_21_22 : Cond.methodLink RL 77 yX12_minutes ∈ wsL_law := ch_21 _ (List.mem_of_getElem? (i := 22) rfl)
theorem m_21_23 : Cond.instanceMethod yX12_minutes ∈ wsL_law := ch_21 _ (List.mem_of_getElem? (i := 23) rfl)
theorem m_22_0 : Cond.selects RX12 yX12_minutes yX12_minutes ∈ wsL_law := ch_22 _ (List.mem_of_getElem? (i := 0) rfl)
theorem m_22_1 : Cond.code yX12_minutes cX12_minutes 4 (some .boolean) ∈ wsL_law := ch_22 _ (List.mem_of_getElem? (i := 1) rfl)
theorem m_22_7 : Cond.methodLink RL 78 yX11_terms ∈ wsL_law := ch_22 _ (List.mem_of_getElem? (i := 7) rfl)
theorem m_22_8 : Cond.instanceMethod yX11_terms ∈ wsL_law := ch_22 _ (List.mem_of_getElem? (i := 8) rfl)
theorem m_22_9 : Cond.selects RX11 yX11_terms yX11_terms ∈ wsL_law := ch_22 _ (List.mem_of_getElem? (i := 9) rfl)
theorem m_22_10 : Cond.code yX11_terms cX11_terms 3 (some .int) ∈ wsL_law := ch_22 _ (List.mem_of_getElem? (i := 10) rfl)
theorem m_28_3 : Cond.methodLink RL 81 yX12_terms ∈ wsL_law := ch_28 _ (List.mem_of_getElem? (i := 3) rfl)
theorem m_28_4 : Cond.instanceMethod yX12_terms ∈ wsL_law := ch_28 _ (List.mem_of_getElem? (i := 4) rfl)
theorem m_28_5 : Cond.selects RX12 yX12_terms yX12_terms ∈ wsL_law := ch_28 _ (List.mem_of_getElem? (i := 5) rfl)
theorem m_28_6 : Cond.code yX12_terms cX12_terms 4 (some .int) ∈ wsL_law := ch_28 _ (List.mem_of_getElem? (i := 6) rfl)
theorem m_32_9 : Cond.methodLink RL 82 yX11_fault ∈ wsL_law := ch_32 _ (List.mem_of_getElem? (i := 9) rfl)
theorem m_32_10 : Cond.instanceMethod yX11_fault ∈ wsL_law := ch_32 _ (List.mem_of_getElem? (i := 10) rfl)
theorem m_32_11 : Cond.selects RX11 yX11_fault yX11_fault ∈ wsL_law := ch_32 _ (List.mem_of_getElem? (i := 11) rfl)
theorem m_32_12 : Cond.code yX11_fault cX11_fault 1 (some .int) ∈ wsL_law := ch_32 _ (List.mem_of_getElem? (i := 12) rfl)
theorem m_32_13 : Cond.methodLink RL 86 yX12_fault ∈ wsL_law := ch_32 _ (List.mem_of_getElem? (i := 13) rfl)
theorem m_32_14 : Cond.instanceMethod yX12_fault ∈ wsL_law := ch_32 _ (List.mem_of_getElem? (i := 14) rfl)
theorem m_32_15 : Cond.selects RX12 yX12_fault yX12_fault ∈ wsL_law := ch_32 _ (List.mem_of_getElem? (i := 15) rfl)
theorem m_32_16 : Cond.code yX12_fault cX12_fault 1 (some .int) ∈ wsL_law := ch_32 _ (List.mem_of_getElem? (i := 16) rfl)
theorem m_32_17 : Cond.methodLink RL 87 yX11_bundle ∈ wsL_law := ch_32 _ (List.mem_of_getElem? (i := 17) rfl)
theorem m_32_18 : Cond.instanceMethod yX11_bundle ∈ wsL_law := ch_32 _ (List.mem_of_getElem? (i := 18) rfl)
theorem m_32_19 : Cond.selects RX11 yX11_bundle yX11_bundle ∈ wsL_law := ch_32 _ (List.mem_of_getElem? (i := 19) rfl)
theorem m_32_20 : Cond.code yX11_bundle cX11_bundle 7 (some .int) ∈ wsL_law := ch_32 _ (List.mem_of_getElem? (i := 20) rfl)
theorem m_36_1 : Cond.methodLink RL 90 yX12_bundle ∈ wsL_law := ch_36 _ (List.mem_of_getElem? (i := 1) rfl)
theorem m_36_2 : Cond.instanceMethod yX12_bundle ∈ wsL_law := ch_36 _ (List.mem_of_getElem? (i := 2) rfl)
theorem m_36_3 : Cond.selects RX12 yX12_bundle yX12_bundle ∈ wsL_law := ch_36 _ (List.mem_of_getElem? (i := 3) rfl)
theorem m_36_4 : Cond.code yX12_bundle cX12_bundle 8 (some .int) ∈ wsL_law := ch_36 _ (List.mem_of_getElem? (i := 4) rfl)
theorem m_37_4 : Cond.methodLink RL 91 yX11_told ∈ wsL_law := ch_37 _ (List.mem_of_getElem? (i := 4) rfl)
theorem m_37_5 : Cond.instanceMethod yX11_told ∈ wsL_law := ch_37 _ (List.mem_of_getElem? (i := 5) rfl)
theorem m_37_6 : Cond.selects RX11 yX11_told yX11_told ∈ wsL_law := ch_37 _ (List.mem_of_getElem? (i := 6) rfl)
theorem m_37_7 : Cond.code yX11_told cX11_told 5 (some .int) ∈ wsL_law := ch_37 _ (List.mem_of_getElem? (i := 7) rfl)
theorem m_37_18 : Cond.methodLink RL 94 yX12_told ∈ wsL_law := ch_37 _ (List.mem_of_getElem? (i := 18) rfl)
theorem m_37_19 : Cond.instanceMethod yX12_told ∈ wsL_law := ch_37 _ (List.mem_of_getElem? (i := 19) rfl)
theorem m_37_20 : Cond.selects RX12 yX12_told yX12_told ∈ wsL_law := ch_37 _ (List.mem_of_getElem? (i := 20) rfl)
theorem m_37_21 : Cond.code yX12_told cX12_told 4 (some .int) ∈ wsL_law := ch_37 _ (List.mem_of_getElem? (i := 21) rfl)
theorem m_38_2 : Cond.methodLink RL 95 yX11_why ∈ wsL_law := ch_38 _ (List.mem_of_getElem? (i := 2) rfl)
theorem m_38_3 : Cond.instanceMethod yX11_why ∈ wsL_law := ch_38 _ (List.mem_of_getElem? (i := 3) rfl)
theorem m_38_4 : Cond.selects RX11 yX11_why yX11_why ∈ wsL_law := ch_38 _ (List.mem_of_getElem? (i := 4) rfl)
theorem m_38_5 : Cond.code yX11_why cX11_why 1 (some .int) ∈ wsL_law := ch_38 _ (List.mem_of_getElem? (i := 5) rfl)
theorem m_38_6 : Cond.methodLink RL 98 yX12_why ∈ wsL_law := ch_38 _ (List.mem_of_getElem? (i := 6) rfl)
theorem m_38_7 : Cond.instanceMethod yX12_why ∈ wsL_law := ch_38 _ (List.mem_of_getElem? (i := 7) rfl)
theorem m_38_8 : Cond.selects RX12 yX12_why yX12_why ∈ wsL_law := ch_38 _ (List.mem_of_getElem? (i := 8) rfl)
theorem m_38_9 : Cond.code yX12_why cX12_why 1 (some .int) ∈ wsL_law := ch_38 _ (List.mem_of_getElem? (i := 9) rfl)
theorem m_38_10 : Cond.methodLink RL 99 yX11_close ∈ wsL_law := ch_38 _ (List.mem_of_getElem? (i := 10) rfl)
theorem m_38_11 : Cond.instanceMethod yX11_close ∈ wsL_law := ch_38 _ (List.mem_of_getElem? (i := 11) rfl)
theorem m_38_12 : Cond.selects RX11 yX11_close yX11_close ∈ wsL_law := ch_38 _ (List.mem_of_getElem? (i := 12) rfl)
theorem m_38_13 : Cond.code yX11_close cX11_close 1 (some .int) ∈ wsL_law := ch_38 _ (List.mem_of_getElem? (i := 13) rfl)
theorem m_40_16 : Cond.methodLink RL 102 yX12_close ∈ wsL_law := ch_40 _ (List.mem_of_getElem? (i := 16) rfl)
theorem m_40_17 : Cond.instanceMethod yX12_close ∈ wsL_law := ch_40 _ (List.mem_of_getElem? (i := 17) rfl)
theorem m_40_18 : Cond.selects RX12 yX12_close yX12_close ∈ wsL_law := ch_40 _ (List.mem_of_getElem? (i := 18) rfl)
theorem m_40_19 : Cond.code yX12_close cX12_close 4 (some .int) ∈ wsL_law := ch_40 _ (List.mem_of_getElem? (i := 19) rfl)
theorem m_42_3 : Cond.methodLink RL 108 yX12_of ∈ wsL_law := ch_42 _ (List.mem_of_getElem? (i := 3) rfl)
theorem m_42_4 : Cond.instanceMethod yX12_of ∈ wsL_law := ch_42 _ (List.mem_of_getElem? (i := 4) rfl)
theorem m_42_5 : Cond.selects RX12 yX12_of yX12_of ∈ wsL_law := ch_42 _ (List.mem_of_getElem? (i := 5) rfl)
theorem m_42_6 : Cond.code yX12_of cX12_of 3 (some .int) ∈ wsL_law := ch_42 _ (List.mem_of_getElem? (i := 6) rfl)
theorem m_42_18 : Cond.methodLink RL 112 yX12_coin ∈ wsL_law := ch_42 _ (List.mem_of_getElem? (i := 18) rfl)
theorem m_42_19 : Cond.instanceMethod yX12_coin ∈ wsL_law := ch_42 _ (List.mem_of_getElem? (i := 19) rfl)
theorem m_42_20 : Cond.selects RX12 yX12_coin yX12_coin ∈ wsL_law := ch_42 _ (List.mem_of_getElem? (i := 20) rfl)
theorem m_42_21 : Cond.code yX12_coin cX12_coin 2 (some .int) ∈ wsL_law := ch_42 _ (List.mem_of_getElem? (i := 21) rfl)
theorem m_42_22 : Cond.methodLink RL 113 yX11_counted ∈ wsL_law := ch_42 _ (List.mem_of_getElem? (i := 22) rfl)
theorem m_43_0 : Cond.instanceMethod yX11_counted ∈ wsL_law := ch_43 _ (List.mem_of_getElem? (i := 0) rfl)
theorem m_43_1 : Cond.selects RX11 yX11_counted yX11_counted ∈ wsL_law := ch_43 _ (List.mem_of_getElem? (i := 1) rfl)
theorem m_43_2 : Cond.code yX11_counted cX11_counted 5 (some .int) ∈ wsL_law := ch_43 _ (List.mem_of_getElem? (i := 2) rfl)
theorem m_43_9 : Cond.methodLink RL 116 yX12_counted ∈ wsL_law := ch_43 _ (List.mem_of_getElem? (i := 9) rfl)
theorem m_43_10 : Cond.instanceMethod yX12_counted ∈ wsL_law := ch_43 _ (List.mem_of_getElem? (i := 10) rfl)
theorem m_43_11 : Cond.selects RX12 yX12_counted yX12_counted ∈ wsL_law := ch_43 _ (List.mem_of_getElem? (i := 11) rfl)
theorem m_43_12 : Cond.code yX12_counted cX12_counted 5 (some .int) ∈ wsL_law := ch_43 _ (List.mem_of_getElem? (i := 12) rfl)
theorem m_43_14 : Cond.methodLink RL 117 yX11_falseCounts ∈ wsL_law := ch_43 _ (List.mem_of_getElem? (i := 14) rfl)
theorem m_43_15 : Cond.instanceMethod yX11_falseCounts ∈ wsL_law := ch_43 _ (List.mem_of_getElem? (i := 15) rfl)
theorem m_43_16 : Cond.selects RX11 yX11_falseCounts yX11_falseCounts ∈ wsL_law := ch_43 _ (List.mem_of_getElem? (i := 16) rfl)
theorem m_43_17 : Cond.code yX11_falseCounts cX11_falseCounts 2 (some .int) ∈ wsL_law := ch_43 _ (List.mem_of_getElem? (i := 17) rfl)
theorem m_44_6 : Cond.methodLink RL 120 yX12_falseCounts ∈ wsL_law := ch_44 _ (List.mem_of_getElem? (i := 6) rfl)
theorem m_44_7 : Cond.instanceMethod yX12_falseCounts ∈ wsL_law := ch_44 _ (List.mem_of_getElem? (i := 7) rfl)
theorem m_44_8 : Cond.selects RX12 yX12_falseCounts yX12_falseCounts ∈ wsL_law := ch_44 _ (List.mem_of_getElem? (i := 8) rfl)
theorem m_44_9 : Cond.code yX12_falseCounts cX12_falseCounts 7 (some .int) ∈ wsL_law := ch_44 _ (List.mem_of_getElem? (i := 9) rfl)
theorem m_44_18 : Cond.methodLink RL 121 yX11_shortOf ∈ wsL_law := ch_44 _ (List.mem_of_getElem? (i := 18) rfl)
theorem m_44_19 : Cond.instanceMethod yX11_shortOf ∈ wsL_law := ch_44 _ (List.mem_of_getElem? (i := 19) rfl)
theorem m_44_20 : Cond.selects RX11 yX11_shortOf yX11_shortOf ∈ wsL_law := ch_44 _ (List.mem_of_getElem? (i := 20) rfl)
theorem m_44_21 : Cond.code yX11_shortOf cX11_shortOf 2 (some .int) ∈ wsL_law := ch_44 _ (List.mem_of_getElem? (i := 21) rfl)
theorem m_45_17 : Cond.methodLink RL 124 yX12_shortOf ∈ wsL_law := ch_45 _ (List.mem_of_getElem? (i := 17) rfl)
theorem m_45_18 : Cond.instanceMethod yX12_shortOf ∈ wsL_law := ch_45 _ (List.mem_of_getElem? (i := 18) rfl)
theorem m_45_19 : Cond.selects RX12 yX12_shortOf yX12_shortOf ∈ wsL_law := ch_45 _ (List.mem_of_getElem? (i := 19) rfl)
theorem m_45_20 : Cond.code yX12_shortOf cX12_shortOf 9 (some .int) ∈ wsL_law := ch_45 _ (List.mem_of_getElem? (i := 20) rfl)
theorem m_46_1 : Cond.methodLink RL 125 yX11_best ∈ wsL_law := ch_46 _ (List.mem_of_getElem? (i := 1) rfl)
theorem m_46_2 : Cond.instanceMethod yX11_best ∈ wsL_law := ch_46 _ (List.mem_of_getElem? (i := 2) rfl)
theorem m_46_3 : Cond.selects RX11 yX11_best yX11_best ∈ wsL_law := ch_46 _ (List.mem_of_getElem? (i := 3) rfl)
theorem m_46_4 : Cond.code yX11_best cX11_best 7 (some .int) ∈ wsL_law := ch_46 _ (List.mem_of_getElem? (i := 4) rfl)
theorem m_47_0 : Cond.methodLink RL 128 yX12_best ∈ wsL_law := ch_47 _ (List.mem_of_getElem? (i := 0) rfl)
theorem m_47_1 : Cond.instanceMethod yX12_best ∈ wsL_law := ch_47 _ (List.mem_of_getElem? (i := 1) rfl)
theorem m_47_2 : Cond.selects RX12 yX12_best yX12_best ∈ wsL_law := ch_47 _ (List.mem_of_getElem? (i := 2) rfl)
theorem m_47_3 : Cond.code yX12_best cX12_best 19 (some .int) ∈ wsL_law := ch_47 _ (List.mem_of_getElem? (i := 3) rfl)
theorem m_47_5 : Cond.methodLink RL 129 yX11_expected ∈ wsL_law := ch_47 _ (List.mem_of_getElem? (i := 5) rfl)
theorem m_47_6 : Cond.instanceMethod yX11_expected ∈ wsL_law := ch_47 _ (List.mem_of_getElem? (i := 6) rfl)
theorem m_47_7 : Cond.selects RX11 yX11_expected yX11_expected ∈ wsL_law := ch_47 _ (List.mem_of_getElem? (i := 7) rfl)
theorem m_47_8 : Cond.code yX11_expected cX11_expected 1 (some .long) ∈ wsL_law := ch_47 _ (List.mem_of_getElem? (i := 8) rfl)
theorem m_47_10 : Cond.methodLink RL 133 yX12_expected ∈ wsL_law := ch_47 _ (List.mem_of_getElem? (i := 10) rfl)
theorem m_47_11 : Cond.instanceMethod yX12_expected ∈ wsL_law := ch_47 _ (List.mem_of_getElem? (i := 11) rfl)
theorem m_47_12 : Cond.selects RX12 yX12_expected yX12_expected ∈ wsL_law := ch_47 _ (List.mem_of_getElem? (i := 12) rfl)
theorem m_47_13 : Cond.code yX12_expected cX12_expected 1 (some .long) ∈ wsL_law := ch_47 _ (List.mem_of_getElem? (i := 13) rfl)
theorem m_47_14 : Cond.methodLink RL 134 yX11_tried ∈ wsL_law := ch_47 _ (List.mem_of_getElem? (i := 14) rfl)
theorem m_47_15 : Cond.instanceMethod yX11_tried ∈ wsL_law := ch_47 _ (List.mem_of_getElem? (i := 15) rfl)
theorem m_47_16 : Cond.selects RX11 yX11_tried yX11_tried ∈ wsL_law := ch_47 _ (List.mem_of_getElem? (i := 16) rfl)
theorem m_47_17 : Cond.code yX11_tried cX11_tried 1 (some .int) ∈ wsL_law := ch_47 _ (List.mem_of_getElem? (i := 17) rfl)
theorem m_48_3 : Cond.methodLink RL 137 yX12_tried ∈ wsL_law := ch_48 _ (List.mem_of_getElem? (i := 3) rfl)
theorem m_48_4 : Cond.instanceMethod yX12_tried ∈ wsL_law := ch_48 _ (List.mem_of_getElem? (i := 4) rfl)
theorem m_48_5 : Cond.selects RX12 yX12_tried yX12_tried ∈ wsL_law := ch_48 _ (List.mem_of_getElem? (i := 5) rfl)
theorem m_48_6 : Cond.code yX12_tried cX12_tried 5 (some .int) ∈ wsL_law := ch_48 _ (List.mem_of_getElem? (i := 6) rfl)
theorem m_48_12 : Cond.methodLink RL 138 yX11_triedEaten ∈ wsL_law := ch_48 _ (List.mem_of_getElem? (i := 12) rfl)
theorem m_48_13 : Cond.instanceMethod yX11_triedEaten ∈ wsL_law := ch_48 _ (List.mem_of_getElem? (i := 13) rfl)
theorem m_48_14 : Cond.selects RX11 yX11_triedEaten yX11_triedEaten ∈ wsL_law := ch_48 _ (List.mem_of_getElem? (i := 14) rfl)
theorem m_48_15 : Cond.code yX11_triedEaten cX11_triedEaten 1 (some .int) ∈ wsL_law := ch_48 _ (List.mem_of_getElem? (i := 15) rfl)
theorem m_48_16 : Cond.methodLink RL 141 yX12_triedEaten ∈ wsL_law := ch_48 _ (List.mem_of_getElem? (i := 16) rfl)
theorem m_48_17 : Cond.instanceMethod yX12_triedEaten ∈ wsL_law := ch_48 _ (List.mem_of_getElem? (i := 17) rfl)
theorem m_48_18 : Cond.selects RX12 yX12_triedEaten yX12_triedEaten ∈ wsL_law := ch_48 _ (List.mem_of_getElem? (i := 18) rfl)
theorem m_48_19 : Cond.code yX12_triedEaten cX12_triedEaten 1 (some .int) ∈ wsL_law := ch_48 _ (List.mem_of_getElem? (i := 19) rfl)
theorem m_48_20 : Cond.methodLink RL 142 yX11_parted ∈ wsL_law := ch_48 _ (List.mem_of_getElem? (i := 20) rfl)
theorem m_48_21 : Cond.instanceMethod yX11_parted ∈ wsL_law := ch_48 _ (List.mem_of_getElem? (i := 21) rfl)
theorem m_48_22 : Cond.selects RX11 yX11_parted yX11_parted ∈ wsL_law := ch_48 _ (List.mem_of_getElem? (i := 22) rfl)
theorem m_48_23 : Cond.code yX11_parted cX11_parted 6 (some .int) ∈ wsL_law := ch_48 _ (List.mem_of_getElem? (i := 23) rfl)
theorem m_51_16 : Cond.methodLink RL 146 yX12_parted ∈ wsL_law := ch_51 _ (List.mem_of_getElem? (i := 16) rfl)
theorem m_51_17 : Cond.instanceMethod yX12_parted ∈ wsL_law := ch_51 _ (List.mem_of_getElem? (i := 17) rfl)
theorem m_51_18 : Cond.selects RX12 yX12_parted yX12_parted ∈ wsL_law := ch_51 _ (List.mem_of_getElem? (i := 18) rfl)
theorem m_51_19 : Cond.code yX12_parted cX12_parted 7 (some .int) ∈ wsL_law := ch_51 _ (List.mem_of_getElem? (i := 19) rfl)
theorem m_52_16 : Cond.methodLink RL 147 yX11_partedAt ∈ wsL_law := ch_52 _ (List.mem_of_getElem? (i := 16) rfl)
theorem m_52_17 : Cond.instanceMethod yX11_partedAt ∈ wsL_law := ch_52 _ (List.mem_of_getElem? (i := 17) rfl)
theorem m_52_18 : Cond.selects RX11 yX11_partedAt yX11_partedAt ∈ wsL_law := ch_52 _ (List.mem_of_getElem? (i := 18) rfl)
theorem m_52_19 : Cond.code yX11_partedAt cX11_partedAt 2 (some .int) ∈ wsL_law := ch_52 _ (List.mem_of_getElem? (i := 19) rfl)
theorem m_52_22 : Cond.methodLink RL 150 yX12_partedAt ∈ wsL_law := ch_52 _ (List.mem_of_getElem? (i := 22) rfl)
theorem m_52_23 : Cond.instanceMethod yX12_partedAt ∈ wsL_law := ch_52 _ (List.mem_of_getElem? (i := 23) rfl)
theorem m_53_0 : Cond.selects RX12 yX12_partedAt yX12_partedAt ∈ wsL_law := ch_53 _ (List.mem_of_getElem? (i := 0) rfl)
theorem m_53_1 : Cond.code yX12_partedAt cX12_partedAt 2 (some .int) ∈ wsL_law := ch_53 _ (List.mem_of_getElem? (i := 1) rfl)
theorem m_53_2 : Cond.methodLink RL 151 yX11_peace ∈ wsL_law := ch_53 _ (List.mem_of_getElem? (i := 2) rfl)
theorem m_53_3 : Cond.instanceMethod yX11_peace ∈ wsL_law := ch_53 _ (List.mem_of_getElem? (i := 3) rfl)
theorem m_53_4 : Cond.selects RX11 yX11_peace yX11_peace ∈ wsL_law := ch_53 _ (List.mem_of_getElem? (i := 4) rfl)
theorem m_53_5 : Cond.code yX11_peace cX11_peace 2 (some .int) ∈ wsL_law := ch_53 _ (List.mem_of_getElem? (i := 5) rfl)
theorem m_53_10 : Cond.methodLink RL 154 yX12_peace ∈ wsL_law := ch_53 _ (List.mem_of_getElem? (i := 10) rfl)
theorem m_53_11 : Cond.instanceMethod yX12_peace ∈ wsL_law := ch_53 _ (List.mem_of_getElem? (i := 11) rfl)
theorem m_53_12 : Cond.selects RX12 yX12_peace yX12_peace ∈ wsL_law := ch_53 _ (List.mem_of_getElem? (i := 12) rfl)
theorem m_53_13 : Cond.code yX12_peace cX12_peace 2 (some .int) ∈ wsL_law := ch_53 _ (List.mem_of_getElem? (i := 13) rfl)
theorem m_53_14 : Cond.methodLink RL 155 yX11_truck ∈ wsL_law := ch_53 _ (List.mem_of_getElem? (i := 14) rfl)
theorem m_53_15 : Cond.instanceMethod yX11_truck ∈ wsL_law := ch_53 _ (List.mem_of_getElem? (i := 15) rfl)
theorem m_53_16 : Cond.selects RX11 yX11_truck yX11_truck ∈ wsL_law := ch_53 _ (List.mem_of_getElem? (i := 16) rfl)
theorem m_53_17 : Cond.code yX11_truck cX11_truck 2 (some .int) ∈ wsL_law := ch_53 _ (List.mem_of_getElem? (i := 17) rfl)
theorem m_55_10 : Cond.methodLink RL 158 yX12_truck ∈ wsL_law := ch_55 _ (List.mem_of_getElem? (i := 10) rfl)
theorem m_55_11 : Cond.instanceMethod yX12_truck ∈ wsL_law := ch_55 _ (List.mem_of_getElem? (i := 11) rfl)
theorem m_55_12 : Cond.selects RX12 yX12_truck yX12_truck ∈ wsL_law := ch_55 _ (List.mem_of_getElem? (i := 12) rfl)
theorem m_55_13 : Cond.code yX12_truck cX12_truck 7 (some .int) ∈ wsL_law := ch_55 _ (List.mem_of_getElem? (i := 13) rfl)
theorem m_56_2 : Cond.methodLink RL 159 yX11_truckAt ∈ wsL_law := ch_56 _ (List.mem_of_getElem? (i := 2) rfl)
theorem m_56_3 : Cond.instanceMethod yX11_truckAt ∈ wsL_law := ch_56 _ (List.mem_of_getElem? (i := 3) rfl)
theorem m_56_4 : Cond.selects RX11 yX11_truckAt yX11_truckAt ∈ wsL_law := ch_56 _ (List.mem_of_getElem? (i := 4) rfl)
theorem m_56_5 : Cond.code yX11_truckAt cX11_truckAt 2 (some .int) ∈ wsL_law := ch_56 _ (List.mem_of_getElem? (i := 5) rfl)
theorem m_56_8 : Cond.methodLink RL 162 yX12_truckAt ∈ wsL_law := ch_56 _ (List.mem_of_getElem? (i := 8) rfl)
theorem m_56_9 : Cond.instanceMethod yX12_truckAt ∈ wsL_law := ch_56 _ (List.mem_of_getElem? (i := 9) rfl)
theorem m_56_10 : Cond.selects RX12 yX12_truckAt yX12_truckAt ∈ wsL_law := ch_56 _ (List.mem_of_getElem? (i := 10) rfl)
theorem m_56_11 : Cond.code yX12_truckAt cX12_truckAt 2 (some .int) ∈ wsL_law := ch_56 _ (List.mem_of_getElem? (i := 11) rfl)
theorem m_56_12 : Cond.methodLink RL 163 yX11_strike ∈ wsL_law := ch_56 _ (List.mem_of_getElem? (i := 12) rfl)
theorem m_56_13 : Cond.instanceMethod yX11_strike ∈ wsL_law := ch_56 _ (List.mem_of_getElem? (i := 13) rfl)
theorem m_56_14 : Cond.selects RX11 yX11_strike yX11_strike ∈ wsL_law := ch_56 _ (List.mem_of_getElem? (i := 14) rfl)
theorem m_56_15 : Cond.code yX11_strike cX11_strike 7 (some .int) ∈ wsL_law := ch_56 _ (List.mem_of_getElem? (i := 15) rfl)
theorem m_57_5 : Cond.methodLink RL 166 yX12_strike ∈ wsL_law := ch_57 _ (List.mem_of_getElem? (i := 5) rfl)
theorem m_57_6 : Cond.instanceMethod yX12_strike ∈ wsL_law := ch_57 _ (List.mem_of_getElem? (i := 6) rfl)
theorem m_57_7 : Cond.selects RX12 yX12_strike yX12_strike ∈ wsL_law := ch_57 _ (List.mem_of_getElem? (i := 7) rfl)
theorem m_57_8 : Cond.code yX12_strike cX12_strike 13 (some .int) ∈ wsL_law := ch_57 _ (List.mem_of_getElem? (i := 8) rfl)
theorem m_57_12 : Cond.methodLink RL 167 yX11_struck ∈ wsL_law := ch_57 _ (List.mem_of_getElem? (i := 12) rfl)
theorem m_57_13 : Cond.instanceMethod yX11_struck ∈ wsL_law := ch_57 _ (List.mem_of_getElem? (i := 13) rfl)
theorem m_57_14 : Cond.selects RX11 yX11_struck yX11_struck ∈ wsL_law := ch_57 _ (List.mem_of_getElem? (i := 14) rfl)
theorem m_57_15 : Cond.code yX11_struck cX11_struck 2 (some .int) ∈ wsL_law := ch_57 _ (List.mem_of_getElem? (i := 15) rfl)
theorem m_57_16 : Cond.methodLink RL 170 yX12_struck ∈ wsL_law := ch_57 _ (List.mem_of_getElem? (i := 16) rfl)
theorem m_57_17 : Cond.instanceMethod yX12_struck ∈ wsL_law := ch_57 _ (List.mem_of_getElem? (i := 17) rfl)
theorem m_57_18 : Cond.selects RX12 yX12_struck yX12_struck ∈ wsL_law := ch_57 _ (List.mem_of_getElem? (i := 18) rfl)
theorem m_57_19 : Cond.code yX12_struck cX12_struck 2 (some .int) ∈ wsL_law := ch_57 _ (List.mem_of_getElem? (i := 19) rfl)
theorem m_57_20 : Cond.methodLink RL 171 yX11_count ∈ wsL_law := ch_57 _ (List.mem_of_getElem? (i := 20) rfl)
theorem m_57_21 : Cond.instanceMethod yX11_count ∈ wsL_law := ch_57 _ (List.mem_of_getElem? (i := 21) rfl)
theorem m_57_22 : Cond.selects RX11 yX11_count yX11_count ∈ wsL_law := ch_57 _ (List.mem_of_getElem? (i := 22) rfl)
theorem m_57_23 : Cond.code yX11_count cX11_count 2 (some .int) ∈ wsL_law := ch_57 _ (List.mem_of_getElem? (i := 23) rfl)
theorem m_58_0 : Cond.methodLink RL 174 yX12_count ∈ wsL_law := ch_58 _ (List.mem_of_getElem? (i := 0) rfl)
theorem m_58_1 : Cond.instanceMethod yX12_count ∈ wsL_law := ch_58 _ (List.mem_of_getElem? (i := 1) rfl)
theorem m_58_2 : Cond.selects RX12 yX12_count yX12_count ∈ wsL_law := ch_58 _ (List.mem_of_getElem? (i := 2) rfl)
theorem m_58_3 : Cond.code yX12_count cX12_count 2 (some .int) ∈ wsL_law := ch_58 _ (List.mem_of_getElem? (i := 3) rfl)
theorem dL_law_0 : decode cL_law 0 = .ok (.new 8, 3) := by decide +kernel
theorem dL_law_3 : decode cL_law 3 = .ok (.dup, 1) := by decide +kernel
theorem dL_law_4 : decode cL_law 4 = .ok (.invokespecial 19, 3) := by decide +kernel
theorem dL_law_7 : decode cL_law 7 = .ok (.astore_n 1, 1) := by decide +kernel
theorem dL_law_8 : decode cL_law 8 = .ok (.new 20, 3) := by decide +kernel
theorem dL_law_11 : decode cL_law 11 = .ok (.dup, 1) := by decide +kernel
theorem dL_law_12 : decode cL_law 12 = .ok (.invokespecial 22, 3) := by decide +kernel
theorem dL_law_15 : decode cL_law 15 = .ok (.astore_n 2, 1) := by decide +kernel
theorem dL_law_16 : decode cL_law 16 = .ok (.iconst 1, 1) := by decide +kernel
theorem dL_law_17 : decode cL_law 17 = .ok (.newarray .long, 2) := by decide +kernel
theorem dL_law_19 : decode cL_law 19 = .ok (.astore_n 3, 1) := by decide +kernel
theorem dL_law_20 : decode cL_law 20 = .ok (.iconst 0, 1) := by decide +kernel
theorem dL_law_21 : decode cL_law 21 = .ok (.istore 4, 2) := by decide +kernel
theorem dL_law_23 : decode cL_law 23 = .ok (.iload 4, 2) := by decide +kernel
theorem dL_law_25 : decode cL_law 25 = .ok (.aload_n 0, 1) := by decide +kernel
theorem dL_law_26 : decode cL_law 26 = .ok (.arraylength, 1) := by decide +kernel
theorem dL_law_27 : decode cL_law 27 = .ok (.bipush 6, 2) := by decide +kernel
theorem dL_law_29 : decode cL_law 29 = .ok (.isub, 1) := by decide +kernel
theorem dL_law_30 : decode cL_law 30 = .ok (.if_icmp .gt 1441, 3) := by decide +kernel
theorem dL_law_33 : decode cL_law 33 = .ok (.aload_n 0, 1) := by decide +kernel
theorem dL_law_34 : decode cL_law 34 = .ok (.iload 4, 2) := by decide +kernel
theorem dL_law_36 : decode cL_law 36 = .ok (.iaload, 1) := by decide +kernel
theorem dL_law_37 : decode cL_law 37 = .ok (.bipush 63, 2) := by decide +kernel
theorem dL_law_39 : decode cL_law 39 = .ok (.iand, 1) := by decide +kernel
theorem dL_law_40 : decode cL_law 40 = .ok (.tableswitch 1425 0 34 #[156, 229, 254, 331, 368, 405, 418, 443, 492, 541, 590, 651, 700, 725, 738, 811, 848, 861, 874, 914, 942, 1003, 1028, 1053, 1126, 1139, 1152, 1165, 1214, 1239, 1264, 1277, 1302, 1375, 1400], 156) := by decide +kernel
theorem dL_law_196 : decode cL_law 196 = .ok (.aload_n 1, 1) := by decide +kernel
theorem dL_law_197 : decode cL_law 197 = .ok (.aload_n 0, 1) := by decide +kernel
theorem dL_law_198 : decode cL_law 198 = .ok (.iload 4, 2) := by decide +kernel
theorem dL_law_200 : decode cL_law 200 = .ok (.iconst 1, 1) := by decide +kernel
theorem dL_law_201 : decode cL_law 201 = .ok (.iadd, 1) := by decide +kernel
theorem dL_law_202 : decode cL_law 202 = .ok (.iaload, 1) := by decide +kernel
theorem dL_law_203 : decode cL_law 203 = .ok (.aload_n 0, 1) := by decide +kernel
theorem dL_law_204 : decode cL_law 204 = .ok (.iload 4, 2) := by decide +kernel
theorem dL_law_206 : decode cL_law 206 = .ok (.iconst 2, 1) := by decide +kernel
theorem dL_law_207 : decode cL_law 207 = .ok (.iadd, 1) := by decide +kernel
theorem dL_law_208 : decode cL_law 208 = .ok (.iaload, 1) := by decide +kernel
theorem dL_law_209 : decode cL_law 209 = .ok (.aload_n 0, 1) := by decide +kernel
theorem dL_law_210 : decode cL_law 210 = .ok (.iload 4, 2) := by decide +kernel
theorem dL_law_212 : decode cL_law 212 = .ok (.iconst 3, 1) := by decide +kernel
theorem dL_law_213 : decode cL_law 213 = .ok (.iadd, 1) := by decide +kernel
theorem dL_law_214 : decode cL_law 214 = .ok (.iaload, 1) := by decide +kernel
theorem dL_law_215 : decode cL_law 215 = .ok (.aload_n 0, 1) := by decide +kernel
theorem dL_law_216 : decode cL_law 216 = .ok (.iload 4, 2) := by decide +kernel
theorem dL_law_218 : decode cL_law 218 = .ok (.iconst 4, 1) := by decide +kernel
theorem dL_law_219 : decode cL_law 219 = .ok (.iadd, 1) := by decide +kernel
theorem dL_law_220 : decode cL_law 220 = .ok (.iaload, 1) := by decide +kernel
theorem dL_law_221 : decode cL_law 221 = .ok (.aload_n 0, 1) := by decide +kernel
theorem dL_law_222 : decode cL_law 222 = .ok (.iload 4, 2) := by decide +kernel
theorem dL_law_224 : decode cL_law 224 = .ok (.iconst 5, 1) := by decide +kernel
theorem dL_law_225 : decode cL_law 225 = .ok (.iadd, 1) := by decide +kernel
theorem dL_law_226 : decode cL_law 226 = .ok (.iaload, 1) := by decide +kernel
theorem dL_law_227 : decode cL_law 227 = .ok (.invokevirtual 23, 3) := by decide +kernel
theorem dL_law_230 : decode cL_law 230 = .ok (.pop, 1) := by decide +kernel
theorem dL_law_231 : decode cL_law 231 = .ok (.aload_n 2, 1) := by decide +kernel
theorem dL_law_232 : decode cL_law 232 = .ok (.aload_n 0, 1) := by decide +kernel
theorem dL_law_233 : decode cL_law 233 = .ok (.iload 4, 2) := by decide +kernel
theorem dL_law_235 : decode cL_law 235 = .ok (.iconst 1, 1) := by decide +kernel
theorem dL_law_236 : decode cL_law 236 = .ok (.iadd, 1) := by decide +kernel
theorem dL_law_237 : decode cL_law 237 = .ok (.iaload, 1) := by decide +kernel
theorem dL_law_238 : decode cL_law 238 = .ok (.aload_n 0, 1) := by decide +kernel
theorem dL_law_239 : decode cL_law 239 = .ok (.iload 4, 2) := by decide +kernel
theorem dL_law_241 : decode cL_law 241 = .ok (.iconst 2, 1) := by decide +kernel
theorem dL_law_242 : decode cL_law 242 = .ok (.iadd, 1) := by decide +kernel
theorem dL_law_243 : decode cL_law 243 = .ok (.iaload, 1) := by decide +kernel
theorem dL_law_244 : decode cL_law 244 = .ok (.aload_n 0, 1) := by decide +kernel
theorem dL_law_245 : decode cL_law 245 = .ok (.iload 4, 2) := by decide +kernel
theorem dL_law_247 : decode cL_law 247 = .ok (.iconst 3, 1) := by decide +kernel
theorem dL_law_248 : decode cL_law 248 = .ok (.iadd, 1) := by decide +kernel
theorem dL_law_249 : decode cL_law 249 = .ok (.iaload, 1) := by decide +kernel
theorem dL_law_250 : decode cL_law 250 = .ok (.aload_n 0, 1) := by decide +kernel
theorem dL_law_251 : decode cL_law 251 = .ok (.iload 4, 2) := by decide +kernel
theorem dL_law_253 : decode cL_law 253 = .ok (.iconst 4, 1) := by decide +kernel
theorem dL_law_254 : decode cL_law 254 = .ok (.iadd, 1) := by decide +kernel
theorem dL_law_255 : decode cL_law 255 = .ok (.iaload, 1) := by decide +kernel
theorem dL_law_256 : decode cL_law 256 = .ok (.aload_n 0, 1) := by decide +kernel
theorem dL_law_257 : decode cL_law 257 = .ok (.iload 4, 2) := by decide +kernel
theorem dL_law_259 : decode cL_law 259 = .ok (.iconst 5, 1) := by decide +kernel
theorem dL_law_260 : decode cL_law 260 = .ok (.iadd, 1) := by decide +kernel
theorem dL_law_261 : decode cL_law 261 = .ok (.iaload, 1) := by decide +kernel
theorem dL_law_262 : decode cL_law 262 = .ok (.invokevirtual 27, 3) := by decide +kernel
theorem dL_law_265 : decode cL_law 265 = .ok (.pop, 1) := by decide +kernel
theorem dL_law_266 : decode cL_law 266 = .ok (.goto 1199, 3) := by decide +kernel
theorem dL_law_269 : decode cL_law 269 = .ok (.aload_n 1, 1) := by decide +kernel
theorem dL_law_270 : decode cL_law 270 = .ok (.aload_n 0, 1) := by decide +kernel
theorem dL_law_271 : decode cL_law 271 = .ok (.iload 4, 2) := by decide +kernel
theorem dL_law_273 : decode cL_law 273 = .ok (.iconst 1, 1) := by decide +kernel
theorem dL_law_274 : decode cL_law 274 = .ok (.iadd, 1) := by decide +kernel
theorem dL_law_275 : decode cL_law 275 = .ok (.iaload, 1) := by decide +kernel
theorem dL_law_276 : decode cL_law 276 = .ok (.invokevirtual 28, 3) := by decide +kernel
theorem dL_law_279 : decode cL_law 279 = .ok (.pop, 1) := by decide +kernel
theorem dL_law_280 : decode cL_law 280 = .ok (.aload_n 2, 1) := by decide +kernel
theorem dL_law_281 : decode cL_law 281 = .ok (.aload_n 0, 1) := by decide +kernel
theorem dL_law_282 : decode cL_law 282 = .ok (.iload 4, 2) := by decide +kernel
theorem dL_law_284 : decode cL_law 284 = .ok (.iconst 1, 1) := by decide +kernel
theorem dL_law_285 : decode cL_law 285 = .ok (.iadd, 1) := by decide +kernel
theorem dL_law_286 : decode cL_law 286 = .ok (.iaload, 1) := by decide +kernel
theorem dL_law_287 : decode cL_law 287 = .ok (.invokevirtual 32, 3) := by decide +kernel
theorem dL_law_290 : decode cL_law 290 = .ok (.pop, 1) := by decide +kernel
theorem dL_law_291 : decode cL_law 291 = .ok (.goto 1174, 3) := by decide +kernel
theorem dL_law_294 : decode cL_law 294 = .ok (.aload_n 1, 1) := by decide +kernel
theorem dL_law_295 : decode cL_law 295 = .ok (.aload_n 0, 1) := by decide +kernel
theorem dL_law_296 : decode cL_law 296 = .ok (.iload 4, 2) := by decide +kernel
theorem dL_law_298 : decode cL_law 298 = .ok (.iconst 1, 1) := by decide +kernel
theorem dL_law_299 : decode cL_law 299 = .ok (.iadd, 1) := by decide +kernel
theorem dL_law_300 : decode cL_law 300 = .ok (.iaload, 1) := by decide +kernel
theorem dL_law_301 : decode cL_law 301 = .ok (.aload_n 0, 1) := by decide +kernel
theorem dL_law_302 : decode cL_law 302 = .ok (.iload 4, 2) := by decide +kernel
theorem dL_law_304 : decode cL_law 304 = .ok (.iconst 2, 1) := by decide +kernel
theorem dL_law_305 : decode cL_law 305 = .ok (.iadd, 1) := by decide +kernel
theorem dL_law_306 : decode cL_law 306 = .ok (.iaload, 1) := by decide +kernel
theorem dL_law_307 : decode cL_law 307 = .ok (.ifCond .eq 7, 3) := by decide +kernel
theorem dL_law_310 : decode cL_law 310 = .ok (.iconst 1, 1) := by decide +kernel
theorem dL_law_311 : decode cL_law 311 = .ok (.goto 4, 3) := by decide +kernel
theorem dL_law_314 : decode cL_law 314 = .ok (.iconst 0, 1) := by decide +kernel
theorem dL_law_315 : decode cL_law 315 = .ok (.aload_n 0, 1) := by decide +kernel
theorem dL_law_316 : decode cL_law 316 = .ok (.iload 4, 2) := by decide +kernel
theorem dL_law_318 : decode cL_law 318 = .ok (.iconst 3, 1) := by decide +kernel
theorem dL_law_319 : decode cL_law 319 = .ok (.iadd, 1) := by decide +kernel
theorem dL_law_320 : decode cL_law 320 = .ok (.iaload, 1) := by decide +kernel
theorem dL_law_321 : decode cL_law 321 = .ok (.aload_n 0, 1) := by decide +kernel
theorem dL_law_322 : decode cL_law 322 = .ok (.iload 4, 2) := by decide +kernel
theorem dL_law_324 : decode cL_law 324 = .ok (.iconst 4, 1) := by decide +kernel
theorem dL_law_325 : decode cL_law 325 = .ok (.iadd, 1) := by decide +kernel
theorem dL_law_326 : decode cL_law 326 = .ok (.iaload, 1) := by decide +kernel
theorem dL_law_327 : decode cL_law 327 = .ok (.invokevirtual 33, 3) := by decide +kernel
theorem dL_law_330 : decode cL_law 330 = .ok (.aload_n 2, 1) := by decide +kernel
theorem dL_law_331 : decode cL_law 331 = .ok (.aload_n 0, 1) := by decide +kernel
theorem dL_law_332 : decode cL_law 332 = .ok (.iload 4, 2) := by decide +kernel
theorem dL_law_334 : decode cL_law 334 = .ok (.iconst 1, 1) := by decide +kernel
theorem dL_law_335 : decode cL_law 335 = .ok (.iadd, 1) := by decide +kernel
theorem dL_law_336 : decode cL_law 336 = .ok (.iaload, 1) := by decide +kernel
theorem dL_law_337 : decode cL_law 337 = .ok (.aload_n 0, 1) := by decide +kernel
theorem dL_law_338 : decode cL_law 338 = .ok (.iload 4, 2) := by decide +kernel
theorem dL_law_340 : decode cL_law 340 = .ok (.iconst 2, 1) := by decide +kernel
theorem dL_law_341 : decode cL_law 341 = .ok (.iadd, 1) := by decide +kernel
theorem dL_law_342 : decode cL_law 342 = .ok (.iaload, 1) := by decide +kernel
theorem dL_law_343 : decode cL_law 343 = .ok (.ifCond .eq 7, 3) := by decide +kernel
theorem dL_law_346 : decode cL_law 346 = .ok (.iconst 1, 1) := by decide +kernel
theorem dL_law_347 : decode cL_law 347 = .ok (.goto 4, 3) := by decide +kernel
theorem dL_law_350 : decode cL_law 350 = .ok (.iconst 0, 1) := by decide +kernel
theorem dL_law_351 : decode cL_law 351 = .ok (.aload_n 0, 1) := by decide +kernel
theorem dL_law_352 : decode cL_law 352 = .ok (.iload 4, 2) := by decide +kernel
theorem dL_law_354 : decode cL_law 354 = .ok (.iconst 3, 1) := by decide +kernel
theorem dL_law_355 : decode cL_law 355 = .ok (.iadd, 1) := by decide +kernel
theorem dL_law_356 : decode cL_law 356 = .ok (.iaload, 1) := by decide +kernel
theorem dL_law_357 : decode cL_law 357 = .ok (.aload_n 0, 1) := by decide +kernel
theorem dL_law_358 : decode cL_law 358 = .ok (.iload 4, 2) := by decide +kernel
theorem dL_law_360 : decode cL_law 360 = .ok (.iconst 4, 1) := by decide +kernel
theorem dL_law_361 : decode cL_law 361 = .ok (.iadd, 1) := by decide +kernel
theorem dL_law_362 : decode cL_law 362 = .ok (.iaload, 1) := by decide +kernel
theorem dL_law_363 : decode cL_law 363 = .ok (.invokevirtual 37, 3) := by decide +kernel
theorem dL_law_366 : decode cL_law 366 = .ok (.if_icmp .eq 1099, 3) := by decide +kernel
theorem dL_law_371 : decode cL_law 371 = .ok (.aload_n 1, 1) := by decide +kernel
theorem dL_law_372 : decode cL_law 372 = .ok (.aload_n 0, 1) := by decide +kernel
theorem dL_law_373 : decode cL_law 373 = .ok (.iload 4, 2) := by decide +kernel
theorem dL_law_375 : decode cL_law 375 = .ok (.iconst 1, 1) := by decide +kernel
theorem dL_law_376 : decode cL_law 376 = .ok (.iadd, 1) := by decide +kernel
theorem dL_law_377 : decode cL_law 377 = .ok (.iaload, 1) := by decide +kernel
theorem dL_law_378 : decode cL_law 378 = .ok (.aload_n 0, 1) := by decide +kernel
theorem dL_law_379 : decode cL_law 379 = .ok (.iload 4, 2) := by decide +kernel
theorem dL_law_381 : decode cL_law 381 = .ok (.iconst 2, 1) := by decide +kernel
theorem dL_law_382 : decode cL_law 382 = .ok (.iadd, 1) := by decide +kernel
theorem dL_law_383 : decode cL_law 383 = .ok (.iaload, 1) := by decide +kernel
theorem dL_law_384 : decode cL_law 384 = .ok (.invokevirtual 38, 3) := by decide +kernel
theorem dL_law_387 : decode cL_law 387 = .ok (.pop, 1) := by decide +kernel
theorem dL_law_388 : decode cL_law 388 = .ok (.aload_n 2, 1) := by decide +kernel
theorem dL_law_389 : decode cL_law 389 = .ok (.aload_n 0, 1) := by decide +kernel
theorem dL_law_390 : decode cL_law 390 = .ok (.iload 4, 2) := by decide +kernel
theorem dL_law_392 : decode cL_law 392 = .ok (.iconst 1, 1) := by decide +kernel
theorem dL_law_393 : decode cL_law 393 = .ok (.iadd, 1) := by decide +kernel
theorem dL_law_394 : decode cL_law 394 = .ok (.iaload, 1) := by decide +kernel
theorem dL_law_395 : decode cL_law 395 = .ok (.aload_n 0, 1) := by decide +kernel
theorem dL_law_396 : decode cL_law 396 = .ok (.iload 4, 2) := by decide +kernel
theorem dL_law_398 : decode cL_law 398 = .ok (.iconst 2, 1) := by decide +kernel
theorem dL_law_399 : decode cL_law 399 = .ok (.iadd, 1) := by decide +kernel
theorem dL_law_400 : decode cL_law 400 = .ok (.iaload, 1) := by decide +kernel
theorem dL_law_401 : decode cL_law 401 = .ok (.invokevirtual 42, 3) := by decide +kernel
theorem dL_law_404 : decode cL_law 404 = .ok (.pop, 1) := by decide +kernel
theorem dL_law_405 : decode cL_law 405 = .ok (.goto 1060, 3) := by decide +kernel
theorem dL_law_408 : decode cL_law 408 = .ok (.aload_n 1, 1) := by decide +kernel
theorem dL_law_409 : decode cL_law 409 = .ok (.aload_n 0, 1) := by decide +kernel
theorem dL_law_410 : decode cL_law 410 = .ok (.iload 4, 2) := by decide +kernel
theorem dL_law_412 : decode cL_law 412 = .ok (.iconst 1, 1) := by decide +kernel
theorem dL_law_413 : decode cL_law 413 = .ok (.iadd, 1) := by decide +kernel
theorem dL_law_414 : decode cL_law 414 = .ok (.iaload, 1) := by decide +kernel
theorem dL_law_415 : decode cL_law 415 = .ok (.aload_n 0, 1) := by decide +kernel
theorem dL_law_416 : decode cL_law 416 = .ok (.iload 4, 2) := by decide +kernel
theorem dL_law_418 : decode cL_law 418 = .ok (.iconst 2, 1) := by decide +kernel
theorem dL_law_419 : decode cL_law 419 = .ok (.iadd, 1) := by decide +kernel
theorem dL_law_420 : decode cL_law 420 = .ok (.iaload, 1) := by decide +kernel
theorem dL_law_421 : decode cL_law 421 = .ok (.invokevirtual 43, 3) := by decide +kernel
theorem dL_law_424 : decode cL_law 424 = .ok (.pop, 1) := by decide +kernel
theorem dL_law_425 : decode cL_law 425 = .ok (.aload_n 2, 1) := by decide +kernel
theorem dL_law_426 : decode cL_law 426 = .ok (.aload_n 0, 1) := by decide +kernel
theorem dL_law_427 : decode cL_law 427 = .ok (.iload 4, 2) := by decide +kernel
theorem dL_law_429 : decode cL_law 429 = .ok (.iconst 1, 1) := by decide +kernel
theorem dL_law_430 : decode cL_law 430 = .ok (.iadd, 1) := by decide +kernel
theorem dL_law_431 : decode cL_law 431 = .ok (.iaload, 1) := by decide +kernel
theorem dL_law_432 : decode cL_law 432 = .ok (.aload_n 0, 1) := by decide +kernel
theorem dL_law_433 : decode cL_law 433 = .ok (.iload 4, 2) := by decide +kernel
theorem dL_law_435 : decode cL_law 435 = .ok (.iconst 2, 1) := by decide +kernel
theorem dL_law_436 : decode cL_law 436 = .ok (.iadd, 1) := by decide +kernel
theorem dL_law_437 : decode cL_law 437 = .ok (.iaload, 1) := by decide +kernel
theorem dL_law_438 : decode cL_law 438 = .ok (.invokevirtual 46, 3) := by decide +kernel
theorem dL_law_441 : decode cL_law 441 = .ok (.pop, 1) := by decide +kernel
theorem dL_law_442 : decode cL_law 442 = .ok (.goto 1023, 3) := by decide +kernel
theorem dL_law_445 : decode cL_law 445 = .ok (.aload_n 1, 1) := by decide +kernel
theorem dL_law_446 : decode cL_law 446 = .ok (.invokevirtual 47, 3) := by decide +kernel
theorem dL_law_449 : decode cL_law 449 = .ok (.pop, 1) := by decide +kernel
theorem dL_law_450 : decode cL_law 450 = .ok (.aload_n 2, 1) := by decide +kernel
theorem dL_law_451 : decode cL_law 451 = .ok (.invokevirtual 51, 3) := by decide +kernel
theorem dL_law_454 : decode cL_law 454 = .ok (.pop, 1) := by decide +kernel
theorem dL_law_455 : decode cL_law 455 = .ok (.goto 1010, 3) := by decide +kernel
theorem dL_law_458 : decode cL_law 458 = .ok (.aload_n 1, 1) := by decide +kernel
theorem dL_law_459 : decode cL_law 459 = .ok (.aload_n 0, 1) := by decide +kernel
theorem dL_law_460 : decode cL_law 460 = .ok (.iload 4, 2) := by decide +kernel
theorem dL_law_462 : decode cL_law 462 = .ok (.iconst 1, 1) := by decide +kernel
theorem dL_law_463 : decode cL_law 463 = .ok (.iadd, 1) := by decide +kernel
theorem dL_law_464 : decode cL_law 464 = .ok (.iaload, 1) := by decide +kernel
theorem dL_law_465 : decode cL_law 465 = .ok (.invokevirtual 52, 3) := by decide +kernel
theorem dL_law_468 : decode cL_law 468 = .ok (.pop, 1) := by decide +kernel
theorem dL_law_469 : decode cL_law 469 = .ok (.aload_n 2, 1) := by decide +kernel
theorem dL_law_470 : decode cL_law 470 = .ok (.aload_n 0, 1) := by decide +kernel
theorem dL_law_471 : decode cL_law 471 = .ok (.iload 4, 2) := by decide +kernel
theorem dL_law_473 : decode cL_law 473 = .ok (.iconst 1, 1) := by decide +kernel
theorem dL_law_474 : decode cL_law 474 = .ok (.iadd, 1) := by decide +kernel
theorem dL_law_475 : decode cL_law 475 = .ok (.iaload, 1) := by decide +kernel
theorem dL_law_476 : decode cL_law 476 = .ok (.invokevirtual 55, 3) := by decide +kernel
theorem dL_law_479 : decode cL_law 479 = .ok (.pop, 1) := by decide +kernel
theorem dL_law_480 : decode cL_law 480 = .ok (.goto 985, 3) := by decide +kernel
theorem dL_law_483 : decode cL_law 483 = .ok (.aload_n 1, 1) := by decide +kernel
theorem dL_law_484 : decode cL_law 484 = .ok (.aload_n 0, 1) := by decide +kernel
theorem dL_law_485 : decode cL_law 485 = .ok (.iload 4, 2) := by decide +kernel
theorem dL_law_487 : decode cL_law 487 = .ok (.iconst 1, 1) := by decide +kernel
theorem dL_law_488 : decode cL_law 488 = .ok (.iadd, 1) := by decide +kernel
theorem dL_law_489 : decode cL_law 489 = .ok (.iaload, 1) := by decide +kernel
theorem dL_law_490 : decode cL_law 490 = .ok (.aload_n 0, 1) := by decide +kernel
theorem dL_law_491 : decode cL_law 491 = .ok (.iload 4, 2) := by decide +kernel
theorem dL_law_493 : decode cL_law 493 = .ok (.iconst 2, 1) := by decide +kernel
theorem dL_law_494 : decode cL_law 494 = .ok (.iadd, 1) := by decide +kernel
theorem dL_law_495 : decode cL_law 495 = .ok (.iaload, 1) := by decide +kernel
theorem dL_law_496 : decode cL_law 496 = .ok (.aload_n 0, 1) := by decide +kernel
theorem dL_law_497 : decode cL_law 497 = .ok (.iload 4, 2) := by decide +kernel
theorem dL_law_499 : decode cL_law 499 = .ok (.iconst 3, 1) := by decide +kernel
theorem dL_law_500 : decode cL_law 500 = .ok (.iadd, 1) := by decide +kernel
theorem dL_law_501 : decode cL_law 501 = .ok (.iaload, 1) := by decide +kernel
theorem dL_law_502 : decode cL_law 502 = .ok (.invokevirtual 56, 3) := by decide +kernel
theorem dL_law_505 : decode cL_law 505 = .ok (.pop, 1) := by decide +kernel
theorem dL_law_506 : decode cL_law 506 = .ok (.aload_n 2, 1) := by decide +kernel
theorem dL_law_507 : decode cL_law 507 = .ok (.aload_n 0, 1) := by decide +kernel
theorem dL_law_508 : decode cL_law 508 = .ok (.iload 4, 2) := by decide +kernel
theorem dL_law_510 : decode cL_law 510 = .ok (.iconst 1, 1) := by decide +kernel
theorem dL_law_511 : decode cL_law 511 = .ok (.iadd, 1) := by decide +kernel
theorem dL_law_512 : decode cL_law 512 = .ok (.iaload, 1) := by decide +kernel
theorem dL_law_513 : decode cL_law 513 = .ok (.aload_n 0, 1) := by decide +kernel
theorem dL_law_514 : decode cL_law 514 = .ok (.iload 4, 2) := by decide +kernel
theorem dL_law_516 : decode cL_law 516 = .ok (.iconst 2, 1) := by decide +kernel
theorem dL_law_517 : decode cL_law 517 = .ok (.iadd, 1) := by decide +kernel
theorem dL_law_518 : decode cL_law 518 = .ok (.iaload, 1) := by decide +kernel
theorem dL_law_519 : decode cL_law 519 = .ok (.aload_n 0, 1) := by decide +kernel
theorem dL_law_520 : decode cL_law 520 = .ok (.iload 4, 2) := by decide +kernel
theorem dL_law_522 : decode cL_law 522 = .ok (.iconst 3, 1) := by decide +kernel
theorem dL_law_523 : decode cL_law 523 = .ok (.iadd, 1) := by decide +kernel
theorem dL_law_524 : decode cL_law 524 = .ok (.iaload, 1) := by decide +kernel
theorem dL_law_525 : decode cL_law 525 = .ok (.invokevirtual 60, 3) := by decide +kernel
theorem dL_law_528 : decode cL_law 528 = .ok (.pop, 1) := by decide +kernel
theorem dL_law_529 : decode cL_law 529 = .ok (.goto 936, 3) := by decide +kernel
theorem dL_law_532 : decode cL_law 532 = .ok (.aload_n 1, 1) := by decide +kernel
theorem dL_law_533 : decode cL_law 533 = .ok (.aload_n 0, 1) := by decide +kernel
theorem dL_law_534 : decode cL_law 534 = .ok (.iload 4, 2) := by decide +kernel
theorem dL_law_536 : decode cL_law 536 = .ok (.iconst 1, 1) := by decide +kernel
theorem dL_law_537 : decode cL_law 537 = .ok (.iadd, 1) := by decide +kernel
theorem dL_law_538 : decode cL_law 538 = .ok (.iaload, 1) := by decide +kernel
theorem dL_law_539 : decode cL_law 539 = .ok (.aload_n 0, 1) := by decide +kernel
theorem dL_law_540 : decode cL_law 540 = .ok (.iload 4, 2) := by decide +kernel
theorem dL_law_542 : decode cL_law 542 = .ok (.iconst 2, 1) := by decide +kernel
theorem dL_law_543 : decode cL_law 543 = .ok (.iadd, 1) := by decide +kernel
theorem dL_law_544 : decode cL_law 544 = .ok (.iaload, 1) := by decide +kernel
theorem dL_law_545 : decode cL_law 545 = .ok (.aload_n 0, 1) := by decide +kernel
theorem dL_law_546 : decode cL_law 546 = .ok (.iload 4, 2) := by decide +kernel
theorem dL_law_548 : decode cL_law 548 = .ok (.iconst 3, 1) := by decide +kernel
theorem dL_law_549 : decode cL_law 549 = .ok (.iadd, 1) := by decide +kernel
theorem dL_law_550 : decode cL_law 550 = .ok (.iaload, 1) := by decide +kernel
theorem dL_law_551 : decode cL_law 551 = .ok (.invokevirtual 61, 3) := by decide +kernel
theorem dL_law_554 : decode cL_law 554 = .ok (.pop, 1) := by decide +kernel
theorem dL_law_555 : decode cL_law 555 = .ok (.aload_n 2, 1) := by decide +kernel
theorem dL_law_556 : decode cL_law 556 = .ok (.aload_n 0, 1) := by decide +kernel
theorem dL_law_557 : decode cL_law 557 = .ok (.iload 4, 2) := by decide +kernel
theorem dL_law_559 : decode cL_law 559 = .ok (.iconst 1, 1) := by decide +kernel
theorem dL_law_560 : decode cL_law 560 = .ok (.iadd, 1) := by decide +kernel
theorem dL_law_561 : decode cL_law 561 = .ok (.iaload, 1) := by decide +kernel
theorem dL_law_562 : decode cL_law 562 = .ok (.aload_n 0, 1) := by decide +kernel
theorem dL_law_563 : decode cL_law 563 = .ok (.iload 4, 2) := by decide +kernel
theorem dL_law_565 : decode cL_law 565 = .ok (.iconst 2, 1) := by decide +kernel
theorem dL_law_566 : decode cL_law 566 = .ok (.iadd, 1) := by decide +kernel
theorem dL_law_567 : decode cL_law 567 = .ok (.iaload, 1) := by decide +kernel
theorem dL_law_568 : decode cL_law 568 = .ok (.aload_n 0, 1) := by decide +kernel
theorem dL_law_569 : decode cL_law 569 = .ok (.iload 4, 2) := by decide +kernel
theorem dL_law_571 : decode cL_law 571 = .ok (.iconst 3, 1) := by decide +kernel
theorem dL_law_572 : decode cL_law 572 = .ok (.iadd, 1) := by decide +kernel
theorem dL_law_573 : decode cL_law 573 = .ok (.iaload, 1) := by decide +kernel
theorem dL_law_574 : decode cL_law 574 = .ok (.invokevirtual 64, 3) := by decide +kernel
theorem dL_law_577 : decode cL_law 577 = .ok (.pop, 1) := by decide +kernel
theorem dL_law_578 : decode cL_law 578 = .ok (.goto 887, 3) := by decide +kernel
theorem dL_law_581 : decode cL_law 581 = .ok (.aload_n 1, 1) := by decide +kernel
theorem dL_law_582 : decode cL_law 582 = .ok (.aload_n 0, 1) := by decide +kernel
theorem dL_law_583 : decode cL_law 583 = .ok (.iload 4, 2) := by decide +kernel
theorem dL_law_585 : decode cL_law 585 = .ok (.iconst 1, 1) := by decide +kernel
theorem dL_law_586 : decode cL_law 586 = .ok (.iadd, 1) := by decide +kernel
theorem dL_law_587 : decode cL_law 587 = .ok (.iaload, 1) := by decide +kernel
theorem dL_law_588 : decode cL_law 588 = .ok (.aload_n 0, 1) := by decide +kernel
theorem dL_law_589 : decode cL_law 589 = .ok (.iload 4, 2) := by decide +kernel
theorem dL_law_591 : decode cL_law 591 = .ok (.iconst 2, 1) := by decide +kernel
theorem dL_law_592 : decode cL_law 592 = .ok (.iadd, 1) := by decide +kernel
theorem dL_law_593 : decode cL_law 593 = .ok (.iaload, 1) := by decide +kernel
theorem dL_law_594 : decode cL_law 594 = .ok (.aload_n 0, 1) := by decide +kernel
theorem dL_law_595 : decode cL_law 595 = .ok (.iload 4, 2) := by decide +kernel
theorem dL_law_597 : decode cL_law 597 = .ok (.iconst 3, 1) := by decide +kernel
theorem dL_law_598 : decode cL_law 598 = .ok (.iadd, 1) := by decide +kernel
theorem dL_law_599 : decode cL_law 599 = .ok (.iaload, 1) := by decide +kernel
theorem dL_law_600 : decode cL_law 600 = .ok (.invokevirtual 65, 3) := by decide +kernel
theorem dL_law_603 : decode cL_law 603 = .ok (.pop, 1) := by decide +kernel
theorem dL_law_604 : decode cL_law 604 = .ok (.aload_n 2, 1) := by decide +kernel
theorem dL_law_605 : decode cL_law 605 = .ok (.aload_n 0, 1) := by decide +kernel
theorem dL_law_606 : decode cL_law 606 = .ok (.iload 4, 2) := by decide +kernel
theorem dL_law_608 : decode cL_law 608 = .ok (.iconst 1, 1) := by decide +kernel
theorem dL_law_609 : decode cL_law 609 = .ok (.iadd, 1) := by decide +kernel
theorem dL_law_610 : decode cL_law 610 = .ok (.iaload, 1) := by decide +kernel
theorem dL_law_611 : decode cL_law 611 = .ok (.aload_n 0, 1) := by decide +kernel
theorem dL_law_612 : decode cL_law 612 = .ok (.iload 4, 2) := by decide +kernel
theorem dL_law_614 : decode cL_law 614 = .ok (.iconst 2, 1) := by decide +kernel
theorem dL_law_615 : decode cL_law 615 = .ok (.iadd, 1) := by decide +kernel
theorem dL_law_616 : decode cL_law 616 = .ok (.iaload, 1) := by decide +kernel
theorem dL_law_617 : decode cL_law 617 = .ok (.aload_n 0, 1) := by decide +kernel
theorem dL_law_618 : decode cL_law 618 = .ok (.iload 4, 2) := by decide +kernel
theorem dL_law_620 : decode cL_law 620 = .ok (.iconst 3, 1) := by decide +kernel
theorem dL_law_621 : decode cL_law 621 = .ok (.iadd, 1) := by decide +kernel
theorem dL_law_622 : decode cL_law 622 = .ok (.iaload, 1) := by decide +kernel
theorem dL_law_623 : decode cL_law 623 = .ok (.invokevirtual 68, 3) := by decide +kernel
theorem dL_law_626 : decode cL_law 626 = .ok (.pop, 1) := by decide +kernel
theorem dL_law_627 : decode cL_law 627 = .ok (.goto 838, 3) := by decide +kernel
theorem dL_law_630 : decode cL_law 630 = .ok (.aload_n 1, 1) := by decide +kernel
theorem dL_law_631 : decode cL_law 631 = .ok (.aload_n 0, 1) := by decide +kernel
theorem dL_law_632 : decode cL_law 632 = .ok (.iload 4, 2) := by decide +kernel
theorem dL_law_634 : decode cL_law 634 = .ok (.iconst 1, 1) := by decide +kernel
theorem dL_law_635 : decode cL_law 635 = .ok (.iadd, 1) := by decide +kernel
theorem dL_law_636 : decode cL_law 636 = .ok (.iaload, 1) := by decide +kernel
theorem dL_law_637 : decode cL_law 637 = .ok (.aload_n 0, 1) := by decide +kernel
theorem dL_law_638 : decode cL_law 638 = .ok (.iload 4, 2) := by decide +kernel
theorem dL_law_640 : decode cL_law 640 = .ok (.iconst 2, 1) := by decide +kernel
theorem dL_law_641 : decode cL_law 641 = .ok (.iadd, 1) := by decide +kernel
theorem dL_law_642 : decode cL_law 642 = .ok (.iaload, 1) := by decide +kernel
theorem dL_law_643 : decode cL_law 643 = .ok (.aload_n 0, 1) := by decide +kernel
theorem dL_law_644 : decode cL_law 644 = .ok (.iload 4, 2) := by decide +kernel
theorem dL_law_646 : decode cL_law 646 = .ok (.iconst 3, 1) := by decide +kernel
theorem dL_law_647 : decode cL_law 647 = .ok (.iadd, 1) := by decide +kernel
theorem dL_law_648 : decode cL_law 648 = .ok (.iaload, 1) := by decide +kernel
theorem dL_law_649 : decode cL_law 649 = .ok (.aload_n 0, 1) := by decide +kernel
theorem dL_law_650 : decode cL_law 650 = .ok (.iload 4, 2) := by decide +kernel
theorem dL_law_652 : decode cL_law 652 = .ok (.iconst 4, 1) := by decide +kernel
theorem dL_law_653 : decode cL_law 653 = .ok (.iadd, 1) := by decide +kernel
theorem dL_law_654 : decode cL_law 654 = .ok (.iaload, 1) := by decide +kernel
theorem dL_law_655 : decode cL_law 655 = .ok (.invokevirtual 69, 3) := by decide +kernel
theorem dL_law_658 : decode cL_law 658 = .ok (.pop, 1) := by decide +kernel
theorem dL_law_659 : decode cL_law 659 = .ok (.aload_n 2, 1) := by decide +kernel
theorem dL_law_660 : decode cL_law 660 = .ok (.aload_n 0, 1) := by decide +kernel
theorem dL_law_661 : decode cL_law 661 = .ok (.iload 4, 2) := by decide +kernel
theorem dL_law_663 : decode cL_law 663 = .ok (.iconst 1, 1) := by decide +kernel
theorem dL_law_664 : decode cL_law 664 = .ok (.iadd, 1) := by decide +kernel
theorem dL_law_665 : decode cL_law 665 = .ok (.iaload, 1) := by decide +kernel
theorem dL_law_666 : decode cL_law 666 = .ok (.aload_n 0, 1) := by decide +kernel
theorem dL_law_667 : decode cL_law 667 = .ok (.iload 4, 2) := by decide +kernel
theorem dL_law_669 : decode cL_law 669 = .ok (.iconst 2, 1) := by decide +kernel
theorem dL_law_670 : decode cL_law 670 = .ok (.iadd, 1) := by decide +kernel
theorem dL_law_671 : decode cL_law 671 = .ok (.iaload, 1) := by decide +kernel
theorem dL_law_672 : decode cL_law 672 = .ok (.aload_n 0, 1) := by decide +kernel
theorem dL_law_673 : decode cL_law 673 = .ok (.iload 4, 2) := by decide +kernel
theorem dL_law_675 : decode cL_law 675 = .ok (.iconst 3, 1) := by decide +kernel
theorem dL_law_676 : decode cL_law 676 = .ok (.iadd, 1) := by decide +kernel
theorem dL_law_677 : decode cL_law 677 = .ok (.iaload, 1) := by decide +kernel
theorem dL_law_678 : decode cL_law 678 = .ok (.aload_n 0, 1) := by decide +kernel
theorem dL_law_679 : decode cL_law 679 = .ok (.iload 4, 2) := by decide +kernel
theorem dL_law_681 : decode cL_law 681 = .ok (.iconst 4, 1) := by decide +kernel
theorem dL_law_682 : decode cL_law 682 = .ok (.iadd, 1) := by decide +kernel
theorem dL_law_683 : decode cL_law 683 = .ok (.iaload, 1) := by decide +kernel
theorem dL_law_684 : decode cL_law 684 = .ok (.invokevirtual 73, 3) := by decide +kernel
theorem dL_law_687 : decode cL_law 687 = .ok (.pop, 1) := by decide +kernel
theorem dL_law_688 : decode cL_law 688 = .ok (.goto 777, 3) := by decide +kernel
theorem dL_law_691 : decode cL_law 691 = .ok (.aload_n 1, 1) := by decide +kernel
theorem dL_law_692 : decode cL_law 692 = .ok (.aload_n 0, 1) := by decide +kernel
theorem dL_law_693 : decode cL_law 693 = .ok (.iload 4, 2) := by decide +kernel
theorem dL_law_695 : decode cL_law 695 = .ok (.iconst 1, 1) := by decide +kernel
theorem dL_law_696 : decode cL_law 696 = .ok (.iadd, 1) := by decide +kernel
theorem dL_law_697 : decode cL_law 697 = .ok (.iaload, 1) := by decide +kernel
theorem dL_law_698 : decode cL_law 698 = .ok (.aload_n 0, 1) := by decide +kernel
theorem dL_law_699 : decode cL_law 699 = .ok (.iload 4, 2) := by decide +kernel
theorem dL_law_701 : decode cL_law 701 = .ok (.iconst 2, 1) := by decide +kernel
theorem dL_law_702 : decode cL_law 702 = .ok (.iadd, 1) := by decide +kernel
theorem dL_law_703 : decode cL_law 703 = .ok (.iaload, 1) := by decide +kernel
theorem dL_law_704 : decode cL_law 704 = .ok (.aload_n 0, 1) := by decide +kernel
theorem dL_law_705 : decode cL_law 705 = .ok (.iload 4, 2) := by decide +kernel
theorem dL_law_707 : decode cL_law 707 = .ok (.iconst 3, 1) := by decide +kernel
theorem dL_law_708 : decode cL_law 708 = .ok (.iadd, 1) := by decide +kernel
theorem dL_law_709 : decode cL_law 709 = .ok (.iaload, 1) := by decide +kernel
theorem dL_law_710 : decode cL_law 710 = .ok (.invokevirtual 74, 3) := by decide +kernel
theorem dL_law_713 : decode cL_law 713 = .ok (.pop, 1) := by decide +kernel
theorem dL_law_714 : decode cL_law 714 = .ok (.aload_n 2, 1) := by decide +kernel
theorem dL_law_715 : decode cL_law 715 = .ok (.aload_n 0, 1) := by decide +kernel
theorem dL_law_716 : decode cL_law 716 = .ok (.iload 4, 2) := by decide +kernel
theorem dL_law_718 : decode cL_law 718 = .ok (.iconst 1, 1) := by decide +kernel
theorem dL_law_719 : decode cL_law 719 = .ok (.iadd, 1) := by decide +kernel
theorem dL_law_720 : decode cL_law 720 = .ok (.iaload, 1) := by decide +kernel
theorem dL_law_721 : decode cL_law 721 = .ok (.aload_n 0, 1) := by decide +kernel
theorem dL_law_722 : decode cL_law 722 = .ok (.iload 4, 2) := by decide +kernel
theorem dL_law_724 : decode cL_law 724 = .ok (.iconst 2, 1) := by decide +kernel
theorem dL_law_725 : decode cL_law 725 = .ok (.iadd, 1) := by decide +kernel
theorem dL_law_726 : decode cL_law 726 = .ok (.iaload, 1) := by decide +kernel
theorem dL_law_727 : decode cL_law 727 = .ok (.aload_n 0, 1) := by decide +kernel
theorem dL_law_728 : decode cL_law 728 = .ok (.iload 4, 2) := by decide +kernel
theorem dL_law_730 : decode cL_law 730 = .ok (.iconst 3, 1) := by decide +kernel
theorem dL_law_731 : decode cL_law 731 = .ok (.iadd, 1) := by decide +kernel
theorem dL_law_732 : decode cL_law 732 = .ok (.iaload, 1) := by decide +kernel
theorem dL_law_733 : decode cL_law 733 = .ok (.invokevirtual 77, 3) := by decide +kernel
theorem dL_law_736 : decode cL_law 736 = .ok (.pop, 1) := by decide +kernel
theorem dL_law_737 : decode cL_law 737 = .ok (.goto 728, 3) := by decide +kernel
theorem dL_law_740 : decode cL_law 740 = .ok (.aload_n 1, 1) := by decide +kernel
theorem dL_law_741 : decode cL_law 741 = .ok (.aload_n 0, 1) := by decide +kernel
theorem dL_law_742 : decode cL_law 742 = .ok (.iload 4, 2) := by decide +kernel
theorem dL_law_744 : decode cL_law 744 = .ok (.iconst 1, 1) := by decide +kernel
theorem dL_law_745 : decode cL_law 745 = .ok (.iadd, 1) := by decide +kernel
theorem dL_law_746 : decode cL_law 746 = .ok (.iaload, 1) := by decide +kernel
theorem dL_law_747 : decode cL_law 747 = .ok (.invokevirtual 78, 3) := by decide +kernel
theorem dL_law_750 : decode cL_law 750 = .ok (.pop, 1) := by decide +kernel
theorem dL_law_751 : decode cL_law 751 = .ok (.aload_n 2, 1) := by decide +kernel
theorem dL_law_752 : decode cL_law 752 = .ok (.aload_n 0, 1) := by decide +kernel
theorem dL_law_753 : decode cL_law 753 = .ok (.iload 4, 2) := by decide +kernel
theorem dL_law_755 : decode cL_law 755 = .ok (.iconst 1, 1) := by decide +kernel
theorem dL_law_756 : decode cL_law 756 = .ok (.iadd, 1) := by decide +kernel
theorem dL_law_757 : decode cL_law 757 = .ok (.iaload, 1) := by decide +kernel
theorem dL_law_758 : decode cL_law 758 = .ok (.invokevirtual 81, 3) := by decide +kernel
theorem dL_law_761 : decode cL_law 761 = .ok (.pop, 1) := by decide +kernel
theorem dL_law_762 : decode cL_law 762 = .ok (.goto 703, 3) := by decide +kernel
theorem dL_law_765 : decode cL_law 765 = .ok (.aload_n 1, 1) := by decide +kernel
theorem dL_law_766 : decode cL_law 766 = .ok (.invokevirtual 82, 3) := by decide +kernel
theorem dL_law_769 : decode cL_law 769 = .ok (.pop, 1) := by decide +kernel
theorem dL_law_770 : decode cL_law 770 = .ok (.aload_n 2, 1) := by decide +kernel
theorem dL_law_771 : decode cL_law 771 = .ok (.invokevirtual 86, 3) := by decide +kernel
theorem dL_law_774 : decode cL_law 774 = .ok (.pop, 1) := by decide +kernel
theorem dL_law_775 : decode cL_law 775 = .ok (.goto 690, 3) := by decide +kernel
theorem dL_law_778 : decode cL_law 778 = .ok (.aload_n 1, 1) := by decide +kernel
theorem dL_law_779 : decode cL_law 779 = .ok (.aload_n 0, 1) := by decide +kernel
theorem dL_law_780 : decode cL_law 780 = .ok (.iload 4, 2) := by decide +kernel
theorem dL_law_782 : decode cL_law 782 = .ok (.iconst 1, 1) := by decide +kernel
theorem dL_law_783 : decode cL_law 783 = .ok (.iadd, 1) := by decide +kernel
theorem dL_law_784 : decode cL_law 784 = .ok (.iaload, 1) := by decide +kernel
theorem dL_law_785 : decode cL_law 785 = .ok (.aload_n 0, 1) := by decide +kernel
theorem dL_law_786 : decode cL_law 786 = .ok (.iload 4, 2) := by decide +kernel
theorem dL_law_788 : decode cL_law 788 = .ok (.iconst 2, 1) := by decide +kernel
theorem dL_law_789 : decode cL_law 789 = .ok (.iadd, 1) := by decide +kernel
theorem dL_law_790 : decode cL_law 790 = .ok (.iaload, 1) := by decide +kernel
theorem dL_law_791 : decode cL_law 791 = .ok (.aload_n 0, 1) := by decide +kernel
theorem dL_law_792 : decode cL_law 792 = .ok (.iload 4, 2) := by decide +kernel
theorem dL_law_794 : decode cL_law 794 = .ok (.iconst 3, 1) := by decide +kernel
theorem dL_law_795 : decode cL_law 795 = .ok (.iadd, 1) := by decide +kernel
theorem dL_law_796 : decode cL_law 796 = .ok (.iaload, 1) := by decide +kernel
theorem dL_law_797 : decode cL_law 797 = .ok (.aload_n 0, 1) := by decide +kernel
theorem dL_law_798 : decode cL_law 798 = .ok (.iload 4, 2) := by decide +kernel
theorem dL_law_800 : decode cL_law 800 = .ok (.iconst 4, 1) := by decide +kernel
theorem dL_law_801 : decode cL_law 801 = .ok (.iadd, 1) := by decide +kernel
theorem dL_law_802 : decode cL_law 802 = .ok (.iaload, 1) := by decide +kernel
theorem dL_law_803 : decode cL_law 803 = .ok (.aload_n 0, 1) := by decide +kernel
theorem dL_law_804 : decode cL_law 804 = .ok (.iload 4, 2) := by decide +kernel
theorem dL_law_806 : decode cL_law 806 = .ok (.iconst 5, 1) := by decide +kernel
theorem dL_law_807 : decode cL_law 807 = .ok (.iadd, 1) := by decide +kernel
theorem dL_law_808 : decode cL_law 808 = .ok (.iaload, 1) := by decide +kernel
theorem dL_law_809 : decode cL_law 809 = .ok (.invokevirtual 87, 3) := by decide +kernel
theorem dL_law_812 : decode cL_law 812 = .ok (.pop, 1) := by decide +kernel
theorem dL_law_813 : decode cL_law 813 = .ok (.aload_n 2, 1) := by decide +kernel
theorem dL_law_814 : decode cL_law 814 = .ok (.aload_n 0, 1) := by decide +kernel
theorem dL_law_815 : decode cL_law 815 = .ok (.iload 4, 2) := by decide +kernel
theorem dL_law_817 : decode cL_law 817 = .ok (.iconst 1, 1) := by decide +kernel
theorem dL_law_818 : decode cL_law 818 = .ok (.iadd, 1) := by decide +kernel
theorem dL_law_819 : decode cL_law 819 = .ok (.iaload, 1) := by decide +kernel
theorem dL_law_820 : decode cL_law 820 = .ok (.aload_n 0, 1) := by decide +kernel
theorem dL_law_821 : decode cL_law 821 = .ok (.iload 4, 2) := by decide +kernel
theorem dL_law_823 : decode cL_law 823 = .ok (.iconst 2, 1) := by decide +kernel
theorem dL_law_824 : decode cL_law 824 = .ok (.iadd, 1) := by decide +kernel
theorem dL_law_825 : decode cL_law 825 = .ok (.iaload, 1) := by decide +kernel
theorem dL_law_826 : decode cL_law 826 = .ok (.aload_n 0, 1) := by decide +kernel
theorem dL_law_827 : decode cL_law 827 = .ok (.iload 4, 2) := by decide +kernel
theorem dL_law_829 : decode cL_law 829 = .ok (.iconst 3, 1) := by decide +kernel
theorem dL_law_830 : decode cL_law 830 = .ok (.iadd, 1) := by decide +kernel
theorem dL_law_831 : decode cL_law 831 = .ok (.iaload, 1) := by decide +kernel
theorem dL_law_832 : decode cL_law 832 = .ok (.aload_n 0, 1) := by decide +kernel
theorem dL_law_833 : decode cL_law 833 = .ok (.iload 4, 2) := by decide +kernel
theorem dL_law_835 : decode cL_law 835 = .ok (.iconst 4, 1) := by decide +kernel
theorem dL_law_836 : decode cL_law 836 = .ok (.iadd, 1) := by decide +kernel
theorem dL_law_837 : decode cL_law 837 = .ok (.iaload, 1) := by decide +kernel
theorem dL_law_838 : decode cL_law 838 = .ok (.aload_n 0, 1) := by decide +kernel
theorem dL_law_839 : decode cL_law 839 = .ok (.iload 4, 2) := by decide +kernel
theorem dL_law_841 : decode cL_law 841 = .ok (.iconst 5, 1) := by decide +kernel
theorem dL_law_842 : decode cL_law 842 = .ok (.iadd, 1) := by decide +kernel
theorem dL_law_843 : decode cL_law 843 = .ok (.iaload, 1) := by decide +kernel
theorem dL_law_844 : decode cL_law 844 = .ok (.invokevirtual 90, 3) := by decide +kernel
theorem dL_law_847 : decode cL_law 847 = .ok (.pop, 1) := by decide +kernel
theorem dL_law_848 : decode cL_law 848 = .ok (.goto 617, 3) := by decide +kernel
theorem dL_law_851 : decode cL_law 851 = .ok (.aload_n 1, 1) := by decide +kernel
theorem dL_law_852 : decode cL_law 852 = .ok (.aload_n 0, 1) := by decide +kernel
theorem dL_law_853 : decode cL_law 853 = .ok (.iload 4, 2) := by decide +kernel
theorem dL_law_855 : decode cL_law 855 = .ok (.iconst 1, 1) := by decide +kernel
theorem dL_law_856 : decode cL_law 856 = .ok (.iadd, 1) := by decide +kernel
theorem dL_law_857 : decode cL_law 857 = .ok (.iaload, 1) := by decide +kernel
theorem dL_law_858 : decode cL_law 858 = .ok (.aload_n 0, 1) := by decide +kernel
theorem dL_law_859 : decode cL_law 859 = .ok (.iload 4, 2) := by decide +kernel
theorem dL_law_861 : decode cL_law 861 = .ok (.iconst 2, 1) := by decide +kernel
theorem dL_law_862 : decode cL_law 862 = .ok (.iadd, 1) := by decide +kernel
theorem dL_law_863 : decode cL_law 863 = .ok (.iaload, 1) := by decide +kernel
theorem dL_law_864 : decode cL_law 864 = .ok (.invokevirtual 91, 3) := by decide +kernel
theorem dL_law_867 : decode cL_law 867 = .ok (.pop, 1) := by decide +kernel
theorem dL_law_868 : decode cL_law 868 = .ok (.aload_n 2, 1) := by decide +kernel
theorem dL_law_869 : decode cL_law 869 = .ok (.aload_n 0, 1) := by decide +kernel
theorem dL_law_870 : decode cL_law 870 = .ok (.iload 4, 2) := by decide +kernel
theorem dL_law_872 : decode cL_law 872 = .ok (.iconst 1, 1) := by decide +kernel
theorem dL_law_873 : decode cL_law 873 = .ok (.iadd, 1) := by decide +kernel
theorem dL_law_874 : decode cL_law 874 = .ok (.iaload, 1) := by decide +kernel
theorem dL_law_875 : decode cL_law 875 = .ok (.aload_n 0, 1) := by decide +kernel
theorem dL_law_876 : decode cL_law 876 = .ok (.iload 4, 2) := by decide +kernel
theorem dL_law_878 : decode cL_law 878 = .ok (.iconst 2, 1) := by decide +kernel
theorem dL_law_879 : decode cL_law 879 = .ok (.iadd, 1) := by decide +kernel
theorem dL_law_880 : decode cL_law 880 = .ok (.iaload, 1) := by decide +kernel
theorem dL_law_881 : decode cL_law 881 = .ok (.invokevirtual 94, 3) := by decide +kernel
theorem dL_law_884 : decode cL_law 884 = .ok (.pop, 1) := by decide +kernel
theorem dL_law_885 : decode cL_law 885 = .ok (.goto 580, 3) := by decide +kernel
theorem dL_law_888 : decode cL_law 888 = .ok (.aload_n 1, 1) := by decide +kernel
theorem dL_law_889 : decode cL_law 889 = .ok (.invokevirtual 95, 3) := by decide +kernel
theorem dL_law_892 : decode cL_law 892 = .ok (.pop, 1) := by decide +kernel
theorem dL_law_893 : decode cL_law 893 = .ok (.aload_n 2, 1) := by decide +kernel
theorem dL_law_894 : decode cL_law 894 = .ok (.invokevirtual 98, 3) := by decide +kernel
theorem dL_law_897 : decode cL_law 897 = .ok (.pop, 1) := by decide +kernel
theorem dL_law_898 : decode cL_law 898 = .ok (.goto 567, 3) := by decide +kernel
theorem dL_law_901 : decode cL_law 901 = .ok (.aload_n 1, 1) := by decide +kernel
theorem dL_law_902 : decode cL_law 902 = .ok (.invokevirtual 99, 3) := by decide +kernel
theorem dL_law_905 : decode cL_law 905 = .ok (.pop, 1) := by decide +kernel
theorem dL_law_906 : decode cL_law 906 = .ok (.aload_n 2, 1) := by decide +kernel
theorem dL_law_907 : decode cL_law 907 = .ok (.invokevirtual 102, 3) := by decide +kernel
theorem dL_law_910 : decode cL_law 910 = .ok (.pop, 1) := by decide +kernel
theorem dL_law_911 : decode cL_law 911 = .ok (.goto 554, 3) := by decide +kernel
theorem dL_law_914 : decode cL_law 914 = .ok (.aload_n 1, 1) := by decide +kernel
theorem dL_law_915 : decode cL_law 915 = .ok (.aload_n 0, 1) := by decide +kernel
theorem dL_law_916 : decode cL_law 916 = .ok (.iload 4, 2) := by decide +kernel
theorem dL_law_918 : decode cL_law 918 = .ok (.iconst 1, 1) := by decide +kernel
theorem dL_law_919 : decode cL_law 919 = .ok (.iadd, 1) := by decide +kernel
theorem dL_law_920 : decode cL_law 920 = .ok (.iaload, 1) := by decide +kernel
theorem dL_law_921 : decode cL_law 921 = .ok (.aload_n 0, 1) := by decide +kernel
theorem dL_law_922 : decode cL_law 922 = .ok (.iload 4, 2) := by decide +kernel
theorem dL_law_924 : decode cL_law 924 = .ok (.iconst 2, 1) := by decide +kernel
theorem dL_law_925 : decode cL_law 925 = .ok (.iadd, 1) := by decide +kernel
theorem dL_law_926 : decode cL_law 926 = .ok (.iaload, 1) := by decide +kernel
theorem dL_law_927 : decode cL_law 927 = .ok (.aload_n 3, 1) := by decide +kernel
theorem dL_law_928 : decode cL_law 928 = .ok (.invokestatic 103, 3) := by decide +kernel
theorem dL_law_931 : decode cL_law 931 = .ok (.istore 5, 2) := by decide +kernel
theorem dL_law_933 : decode cL_law 933 = .ok (.aload_n 2, 1) := by decide +kernel
theorem dL_law_934 : decode cL_law 934 = .ok (.aload_n 0, 1) := by decide +kernel
theorem dL_law_935 : decode cL_law 935 = .ok (.iload 4, 2) := by decide +kernel
theorem dL_law_937 : decode cL_law 937 = .ok (.iconst 1, 1) := by decide +kernel
theorem dL_law_938 : decode cL_law 938 = .ok (.iadd, 1) := by decide +kernel
theorem dL_law_939 : decode cL_law 939 = .ok (.iaload, 1) := by decide +kernel
theorem dL_law_940 : decode cL_law 940 = .ok (.aload_n 0, 1) := by decide +kernel
theorem dL_law_941 : decode cL_law 941 = .ok (.iload 4, 2) := by decide +kernel
theorem dL_law_943 : decode cL_law 943 = .ok (.iconst 2, 1) := by decide +kernel
theorem dL_law_944 : decode cL_law 944 = .ok (.iadd, 1) := by decide +kernel
theorem dL_law_945 : decode cL_law 945 = .ok (.iaload, 1) := by decide +kernel
theorem dL_law_946 : decode cL_law 946 = .ok (.invokevirtual 108, 3) := by decide +kernel
theorem dL_law_949 : decode cL_law 949 = .ok (.istore 6, 2) := by decide +kernel
theorem dL_law_951 : decode cL_law 951 = .ok (.goto 514, 3) := by decide +kernel
theorem dL_law_954 : decode cL_law 954 = .ok (.aload_n 1, 1) := by decide +kernel
theorem dL_law_955 : decode cL_law 955 = .ok (.aload_n 0, 1) := by decide +kernel
theorem dL_law_956 : decode cL_law 956 = .ok (.iload 4, 2) := by decide +kernel
theorem dL_law_958 : decode cL_law 958 = .ok (.iconst 1, 1) := by decide +kernel
theorem dL_law_959 : decode cL_law 959 = .ok (.iadd, 1) := by decide +kernel
theorem dL_law_960 : decode cL_law 960 = .ok (.iaload, 1) := by decide +kernel
theorem dL_law_961 : decode cL_law 961 = .ok (.aload_n 3, 1) := by decide +kernel
theorem dL_law_962 : decode cL_law 962 = .ok (.invokestatic 109, 3) := by decide +kernel
theorem dL_law_965 : decode cL_law 965 = .ok (.istore 5, 2) := by decide +kernel
theorem dL_law_967 : decode cL_law 967 = .ok (.aload_n 2, 1) := by decide +kernel
theorem dL_law_968 : decode cL_law 968 = .ok (.aload_n 0, 1) := by decide +kernel
theorem dL_law_969 : decode cL_law 969 = .ok (.iload 4, 2) := by decide +kernel
theorem dL_law_971 : decode cL_law 971 = .ok (.iconst 1, 1) := by decide +kernel
theorem dL_law_972 : decode cL_law 972 = .ok (.iadd, 1) := by decide +kernel
theorem dL_law_973 : decode cL_law 973 = .ok (.iaload, 1) := by decide +kernel
theorem dL_law_974 : decode cL_law 974 = .ok (.invokevirtual 112, 3) := by decide +kernel
theorem dL_law_977 : decode cL_law 977 = .ok (.istore 6, 2) := by decide +kernel
theorem dL_law_979 : decode cL_law 979 = .ok (.goto 486, 3) := by decide +kernel
theorem dL_law_982 : decode cL_law 982 = .ok (.aload_n 1, 1) := by decide +kernel
theorem dL_law_983 : decode cL_law 983 = .ok (.aload_n 0, 1) := by decide +kernel
theorem dL_law_984 : decode cL_law 984 = .ok (.iload 4, 2) := by decide +kernel
theorem dL_law_986 : decode cL_law 986 = .ok (.iconst 1, 1) := by decide +kernel
theorem dL_law_987 : decode cL_law 987 = .ok (.iadd, 1) := by decide +kernel
theorem dL_law_988 : decode cL_law 988 = .ok (.iaload, 1) := by decide +kernel
theorem dL_law_989 : decode cL_law 989 = .ok (.aload_n 0, 1) := by decide +kernel
theorem dL_law_990 : decode cL_law 990 = .ok (.iload 4, 2) := by decide +kernel
theorem dL_law_992 : decode cL_law 992 = .ok (.iconst 2, 1) := by decide +kernel
theorem dL_law_993 : decode cL_law 993 = .ok (.iadd, 1) := by decide +kernel
theorem dL_law_994 : decode cL_law 994 = .ok (.iaload, 1) := by decide +kernel
theorem dL_law_995 : decode cL_law 995 = .ok (.aload_n 0, 1) := by decide +kernel
theorem dL_law_996 : decode cL_law 996 = .ok (.iload 4, 2) := by decide +kernel
theorem dL_law_998 : decode cL_law 998 = .ok (.iconst 3, 1) := by decide +kernel
theorem dL_law_999 : decode cL_law 999 = .ok (.iadd, 1) := by decide +kernel
theorem dL_law_1000 : decode cL_law 1000 = .ok (.iaload, 1) := by decide +kernel
theorem dL_law_1001 : decode cL_law 1001 = .ok (.aload_n 0, 1) := by decide +kernel
theorem dL_law_1002 : decode cL_law 1002 = .ok (.iload 4, 2) := by decide +kernel
theorem dL_law_1004 : decode cL_law 1004 = .ok (.iconst 4, 1) := by decide +kernel
theorem dL_law_1005 : decode cL_law 1005 = .ok (.iadd, 1) := by decide +kernel
theorem dL_law_1006 : decode cL_law 1006 = .ok (.iaload, 1) := by decide +kernel
theorem dL_law_1007 : decode cL_law 1007 = .ok (.invokevirtual 113, 3) := by decide +kernel
theorem dL_law_1010 : decode cL_law 1010 = .ok (.pop, 1) := by decide +kernel
theorem dL_law_1011 : decode cL_law 1011 = .ok (.aload_n 2, 1) := by decide +kernel
theorem dL_law_1012 : decode cL_law 1012 = .ok (.aload_n 0, 1) := by decide +kernel
theorem dL_law_1013 : decode cL_law 1013 = .ok (.iload 4, 2) := by decide +kernel
theorem dL_law_1015 : decode cL_law 1015 = .ok (.iconst 1, 1) := by decide +kernel
theorem dL_law_1016 : decode cL_law 1016 = .ok (.iadd, 1) := by decide +kernel
theorem dL_law_1017 : decode cL_law 1017 = .ok (.iaload, 1) := by decide +kernel
theorem dL_law_1018 : decode cL_law 1018 = .ok (.aload_n 0, 1) := by decide +kernel
theorem dL_law_1019 : decode cL_law 1019 = .ok (.iload 4, 2) := by decide +kernel
theorem dL_law_1021 : decode cL_law 1021 = .ok (.iconst 2, 1) := by decide +kernel
theorem dL_law_1022 : decode cL_law 1022 = .ok (.iadd, 1) := by decide +kernel
theorem dL_law_1023 : decode cL_law 1023 = .ok (.iaload, 1) := by decide +kernel
theorem dL_law_1024 : decode cL_law 1024 = .ok (.aload_n 0, 1) := by decide +kernel
theorem dL_law_1025 : decode cL_law 1025 = .ok (.iload 4, 2) := by decide +kernel
theorem dL_law_1027 : decode cL_law 1027 = .ok (.iconst 3, 1) := by decide +kernel
theorem dL_law_1028 : decode cL_law 1028 = .ok (.iadd, 1) := by decide +kernel
theorem dL_law_1029 : decode cL_law 1029 = .ok (.iaload, 1) := by decide +kernel
theorem dL_law_1030 : decode cL_law 1030 = .ok (.aload_n 0, 1) := by decide +kernel
theorem dL_law_1031 : decode cL_law 1031 = .ok (.iload 4, 2) := by decide +kernel
theorem dL_law_1033 : decode cL_law 1033 = .ok (.iconst 4, 1) := by decide +kernel
theorem dL_law_1034 : decode cL_law 1034 = .ok (.iadd, 1) := by decide +kernel
theorem dL_law_1035 : decode cL_law 1035 = .ok (.iaload, 1) := by decide +kernel
theorem dL_law_1036 : decode cL_law 1036 = .ok (.invokevirtual 116, 3) := by decide +kernel
theorem dL_law_1039 : decode cL_law 1039 = .ok (.pop, 1) := by decide +kernel
theorem dL_law_1040 : decode cL_law 1040 = .ok (.goto 425, 3) := by decide +kernel
theorem dL_law_1043 : decode cL_law 1043 = .ok (.aload_n 1, 1) := by decide +kernel
theorem dL_law_1044 : decode cL_law 1044 = .ok (.aload_n 0, 1) := by decide +kernel
theorem dL_law_1045 : decode cL_law 1045 = .ok (.iload 4, 2) := by decide +kernel
theorem dL_law_1047 : decode cL_law 1047 = .ok (.iconst 1, 1) := by decide +kernel
theorem dL_law_1048 : decode cL_law 1048 = .ok (.iadd, 1) := by decide +kernel
theorem dL_law_1049 : decode cL_law 1049 = .ok (.iaload, 1) := by decide +kernel
theorem dL_law_1050 : decode cL_law 1050 = .ok (.invokevirtual 117, 3) := by decide +kernel
theorem dL_law_1053 : decode cL_law 1053 = .ok (.pop, 1) := by decide +kernel
theorem dL_law_1054 : decode cL_law 1054 = .ok (.aload_n 2, 1) := by decide +kernel
theorem dL_law_1055 : decode cL_law 1055 = .ok (.aload_n 0, 1) := by decide +kernel
theorem dL_law_1056 : decode cL_law 1056 = .ok (.iload 4, 2) := by decide +kernel
theorem dL_law_1058 : decode cL_law 1058 = .ok (.iconst 1, 1) := by decide +kernel
theorem dL_law_1059 : decode cL_law 1059 = .ok (.iadd, 1) := by decide +kernel
theorem dL_law_1060 : decode cL_law 1060 = .ok (.iaload, 1) := by decide +kernel
theorem dL_law_1061 : decode cL_law 1061 = .ok (.invokevirtual 120, 3) := by decide +kernel
theorem dL_law_1064 : decode cL_law 1064 = .ok (.pop, 1) := by decide +kernel
theorem dL_law_1065 : decode cL_law 1065 = .ok (.goto 400, 3) := by decide +kernel
theorem dL_law_1068 : decode cL_law 1068 = .ok (.aload_n 1, 1) := by decide +kernel
theorem dL_law_1069 : decode cL_law 1069 = .ok (.aload_n 0, 1) := by decide +kernel
theorem dL_law_1070 : decode cL_law 1070 = .ok (.iload 4, 2) := by decide +kernel
theorem dL_law_1072 : decode cL_law 1072 = .ok (.iconst 1, 1) := by decide +kernel
theorem dL_law_1073 : decode cL_law 1073 = .ok (.iadd, 1) := by decide +kernel
theorem dL_law_1074 : decode cL_law 1074 = .ok (.iaload, 1) := by decide +kernel
theorem dL_law_1075 : decode cL_law 1075 = .ok (.invokevirtual 121, 3) := by decide +kernel
theorem dL_law_1078 : decode cL_law 1078 = .ok (.pop, 1) := by decide +kernel
theorem dL_law_1079 : decode cL_law 1079 = .ok (.aload_n 2, 1) := by decide +kernel
theorem dL_law_1080 : decode cL_law 1080 = .ok (.aload_n 0, 1) := by decide +kernel
theorem dL_law_1081 : decode cL_law 1081 = .ok (.iload 4, 2) := by decide +kernel
theorem dL_law_1083 : decode cL_law 1083 = .ok (.iconst 1, 1) := by decide +kernel
theorem dL_law_1084 : decode cL_law 1084 = .ok (.iadd, 1) := by decide +kernel
theorem dL_law_1085 : decode cL_law 1085 = .ok (.iaload, 1) := by decide +kernel
theorem dL_law_1086 : decode cL_law 1086 = .ok (.invokevirtual 124, 3) := by decide +kernel
theorem dL_law_1089 : decode cL_law 1089 = .ok (.pop, 1) := by decide +kernel
theorem dL_law_1090 : decode cL_law 1090 = .ok (.goto 375, 3) := by decide +kernel
theorem dL_law_1093 : decode cL_law 1093 = .ok (.aload_n 1, 1) := by decide +kernel
theorem dL_law_1094 : decode cL_law 1094 = .ok (.aload_n 0, 1) := by decide +kernel
theorem dL_law_1095 : decode cL_law 1095 = .ok (.iload 4, 2) := by decide +kernel
theorem dL_law_1097 : decode cL_law 1097 = .ok (.iconst 1, 1) := by decide +kernel
theorem dL_law_1098 : decode cL_law 1098 = .ok (.iadd, 1) := by decide +kernel
theorem dL_law_1099 : decode cL_law 1099 = .ok (.iaload, 1) := by decide +kernel
theorem dL_law_1100 : decode cL_law 1100 = .ok (.aload_n 0, 1) := by decide +kernel
theorem dL_law_1101 : decode cL_law 1101 = .ok (.iload 4, 2) := by decide +kernel
theorem dL_law_1103 : decode cL_law 1103 = .ok (.iconst 2, 1) := by decide +kernel
theorem dL_law_1104 : decode cL_law 1104 = .ok (.iadd, 1) := by decide +kernel
theorem dL_law_1105 : decode cL_law 1105 = .ok (.iaload, 1) := by decide +kernel
theorem dL_law_1106 : decode cL_law 1106 = .ok (.aload_n 0, 1) := by decide +kernel
theorem dL_law_1107 : decode cL_law 1107 = .ok (.iload 4, 2) := by decide +kernel
theorem dL_law_1109 : decode cL_law 1109 = .ok (.iconst 3, 1) := by decide +kernel
theorem dL_law_1110 : decode cL_law 1110 = .ok (.iadd, 1) := by decide +kernel
theorem dL_law_1111 : decode cL_law 1111 = .ok (.iaload, 1) := by decide +kernel
theorem dL_law_1112 : decode cL_law 1112 = .ok (.aload_n 0, 1) := by decide +kernel
theorem dL_law_1113 : decode cL_law 1113 = .ok (.iload 4, 2) := by decide +kernel
theorem dL_law_1115 : decode cL_law 1115 = .ok (.iconst 4, 1) := by decide +kernel
theorem dL_law_1116 : decode cL_law 1116 = .ok (.iadd, 1) := by decide +kernel
theorem dL_law_1117 : decode cL_law 1117 = .ok (.iaload, 1) := by decide +kernel
theorem dL_law_1118 : decode cL_law 1118 = .ok (.aload_n 0, 1) := by decide +kernel
theorem dL_law_1119 : decode cL_law 1119 = .ok (.iload 4, 2) := by decide +kernel
theorem dL_law_1121 : decode cL_law 1121 = .ok (.iconst 5, 1) := by decide +kernel
theorem dL_law_1122 : decode cL_law 1122 = .ok (.iadd, 1) := by decide +kernel
theorem dL_law_1123 : decode cL_law 1123 = .ok (.iaload, 1) := by decide +kernel
theorem dL_law_1124 : decode cL_law 1124 = .ok (.invokevirtual 125, 3) := by decide +kernel
theorem dL_law_1127 : decode cL_law 1127 = .ok (.pop, 1) := by decide +kernel
theorem dL_law_1128 : decode cL_law 1128 = .ok (.aload_n 2, 1) := by decide +kernel
theorem dL_law_1129 : decode cL_law 1129 = .ok (.aload_n 0, 1) := by decide +kernel
theorem dL_law_1130 : decode cL_law 1130 = .ok (.iload 4, 2) := by decide +kernel
theorem dL_law_1132 : decode cL_law 1132 = .ok (.iconst 1, 1) := by decide +kernel
theorem dL_law_1133 : decode cL_law 1133 = .ok (.iadd, 1) := by decide +kernel
theorem dL_law_1134 : decode cL_law 1134 = .ok (.iaload, 1) := by decide +kernel
theorem dL_law_1135 : decode cL_law 1135 = .ok (.aload_n 0, 1) := by decide +kernel
theorem dL_law_1136 : decode cL_law 1136 = .ok (.iload 4, 2) := by decide +kernel
theorem dL_law_1138 : decode cL_law 1138 = .ok (.iconst 2, 1) := by decide +kernel
theorem dL_law_1139 : decode cL_law 1139 = .ok (.iadd, 1) := by decide +kernel
theorem dL_law_1140 : decode cL_law 1140 = .ok (.iaload, 1) := by decide +kernel
theorem dL_law_1141 : decode cL_law 1141 = .ok (.aload_n 0, 1) := by decide +kernel
theorem dL_law_1142 : decode cL_law 1142 = .ok (.iload 4, 2) := by decide +kernel
theorem dL_law_1144 : decode cL_law 1144 = .ok (.iconst 3, 1) := by decide +kernel
theorem dL_law_1145 : decode cL_law 1145 = .ok (.iadd, 1) := by decide +kernel
theorem dL_law_1146 : decode cL_law 1146 = .ok (.iaload, 1) := by decide +kernel
theorem dL_law_1147 : decode cL_law 1147 = .ok (.aload_n 0, 1) := by decide +kernel
theorem dL_law_1148 : decode cL_law 1148 = .ok (.iload 4, 2) := by decide +kernel
theorem dL_law_1150 : decode cL_law 1150 = .ok (.iconst 4, 1) := by decide +kernel
theorem dL_law_1151 : decode cL_law 1151 = .ok (.iadd, 1) := by decide +kernel
theorem dL_law_1152 : decode cL_law 1152 = .ok (.iaload, 1) := by decide +kernel
theorem dL_law_1153 : decode cL_law 1153 = .ok (.aload_n 0, 1) := by decide +kernel
theorem dL_law_1154 : decode cL_law 1154 = .ok (.iload 4, 2) := by decide +kernel
theorem dL_law_1156 : decode cL_law 1156 = .ok (.iconst 5, 1) := by decide +kernel
theorem dL_law_1157 : decode cL_law 1157 = .ok (.iadd, 1) := by decide +kernel
theorem dL_law_1158 : decode cL_law 1158 = .ok (.iaload, 1) := by decide +kernel
theorem dL_law_1159 : decode cL_law 1159 = .ok (.invokevirtual 128, 3) := by decide +kernel
theorem dL_law_1162 : decode cL_law 1162 = .ok (.pop, 1) := by decide +kernel
theorem dL_law_1163 : decode cL_law 1163 = .ok (.goto 302, 3) := by decide +kernel
theorem dL_law_1166 : decode cL_law 1166 = .ok (.aload_n 1, 1) := by decide +kernel
theorem dL_law_1167 : decode cL_law 1167 = .ok (.invokevirtual 129, 3) := by decide +kernel
theorem dL_law_1170 : decode cL_law 1170 = .ok (.pop2, 1) := by decide +kernel
theorem dL_law_1171 : decode cL_law 1171 = .ok (.aload_n 2, 1) := by decide +kernel
theorem dL_law_1172 : decode cL_law 1172 = .ok (.invokevirtual 133, 3) := by decide +kernel
theorem dL_law_1175 : decode cL_law 1175 = .ok (.pop2, 1) := by decide +kernel
theorem dL_law_1176 : decode cL_law 1176 = .ok (.goto 289, 3) := by decide +kernel
theorem dL_law_1179 : decode cL_law 1179 = .ok (.aload_n 1, 1) := by decide +kernel
theorem dL_law_1180 : decode cL_law 1180 = .ok (.invokevirtual 134, 3) := by decide +kernel
theorem dL_law_1183 : decode cL_law 1183 = .ok (.pop, 1) := by decide +kernel
theorem dL_law_1184 : decode cL_law 1184 = .ok (.aload_n 2, 1) := by decide +kernel
theorem dL_law_1185 : decode cL_law 1185 = .ok (.invokevirtual 137, 3) := by decide +kernel
theorem dL_law_1188 : decode cL_law 1188 = .ok (.pop, 1) := by decide +kernel
theorem dL_law_1189 : decode cL_law 1189 = .ok (.goto 276, 3) := by decide +kernel
theorem dL_law_1192 : decode cL_law 1192 = .ok (.aload_n 1, 1) := by decide +kernel
theorem dL_law_1193 : decode cL_law 1193 = .ok (.invokevirtual 138, 3) := by decide +kernel
theorem dL_law_1196 : decode cL_law 1196 = .ok (.pop, 1) := by decide +kernel
theorem dL_law_1197 : decode cL_law 1197 = .ok (.aload_n 2, 1) := by decide +kernel
theorem dL_law_1198 : decode cL_law 1198 = .ok (.invokevirtual 141, 3) := by decide +kernel
theorem dL_law_1201 : decode cL_law 1201 = .ok (.pop, 1) := by decide +kernel
theorem dL_law_1202 : decode cL_law 1202 = .ok (.goto 263, 3) := by decide +kernel
theorem dL_law_1205 : decode cL_law 1205 = .ok (.aload_n 1, 1) := by decide +kernel
theorem dL_law_1206 : decode cL_law 1206 = .ok (.aload_n 0, 1) := by decide +kernel
theorem dL_law_1207 : decode cL_law 1207 = .ok (.iload 4, 2) := by decide +kernel
theorem dL_law_1209 : decode cL_law 1209 = .ok (.iconst 1, 1) := by decide +kernel
theorem dL_law_1210 : decode cL_law 1210 = .ok (.iadd, 1) := by decide +kernel
theorem dL_law_1211 : decode cL_law 1211 = .ok (.iaload, 1) := by decide +kernel
theorem dL_law_1212 : decode cL_law 1212 = .ok (.aload_n 0, 1) := by decide +kernel
theorem dL_law_1213 : decode cL_law 1213 = .ok (.iload 4, 2) := by decide +kernel
theorem dL_law_1215 : decode cL_law 1215 = .ok (.iconst 2, 1) := by decide +kernel
theorem dL_law_1216 : decode cL_law 1216 = .ok (.iadd, 1) := by decide +kernel
theorem dL_law_1217 : decode cL_law 1217 = .ok (.iaload, 1) := by decide +kernel
theorem dL_law_1218 : decode cL_law 1218 = .ok (.aload_n 0, 1) := by decide +kernel
theorem dL_law_1219 : decode cL_law 1219 = .ok (.iload 4, 2) := by decide +kernel
theorem dL_law_1221 : decode cL_law 1221 = .ok (.iconst 3, 1) := by decide +kernel
theorem dL_law_1222 : decode cL_law 1222 = .ok (.iadd, 1) := by decide +kernel
theorem dL_law_1223 : decode cL_law 1223 = .ok (.iaload, 1) := by decide +kernel
theorem dL_law_1224 : decode cL_law 1224 = .ok (.invokevirtual 142, 3) := by decide +kernel
theorem dL_law_1227 : decode cL_law 1227 = .ok (.pop, 1) := by decide +kernel
theorem dL_law_1228 : decode cL_law 1228 = .ok (.aload_n 2, 1) := by decide +kernel
theorem dL_law_1229 : decode cL_law 1229 = .ok (.aload_n 0, 1) := by decide +kernel
theorem dL_law_1230 : decode cL_law 1230 = .ok (.iload 4, 2) := by decide +kernel
theorem dL_law_1232 : decode cL_law 1232 = .ok (.iconst 1, 1) := by decide +kernel
theorem dL_law_1233 : decode cL_law 1233 = .ok (.iadd, 1) := by decide +kernel
theorem dL_law_1234 : decode cL_law 1234 = .ok (.iaload, 1) := by decide +kernel
theorem dL_law_1235 : decode cL_law 1235 = .ok (.aload_n 0, 1) := by decide +kernel
theorem dL_law_1236 : decode cL_law 1236 = .ok (.iload 4, 2) := by decide +kernel
theorem dL_law_1238 : decode cL_law 1238 = .ok (.iconst 2, 1) := by decide +kernel
theorem dL_law_1239 : decode cL_law 1239 = .ok (.iadd, 1) := by decide +kernel
theorem dL_law_1240 : decode cL_law 1240 = .ok (.iaload, 1) := by decide +kernel
theorem dL_law_1241 : decode cL_law 1241 = .ok (.aload_n 0, 1) := by decide +kernel
theorem dL_law_1242 : decode cL_law 1242 = .ok (.iload 4, 2) := by decide +kernel
theorem dL_law_1244 : decode cL_law 1244 = .ok (.iconst 3, 1) := by decide +kernel
theorem dL_law_1245 : decode cL_law 1245 = .ok (.iadd, 1) := by decide +kernel
theorem dL_law_1246 : decode cL_law 1246 = .ok (.iaload, 1) := by decide +kernel
theorem dL_law_1247 : decode cL_law 1247 = .ok (.invokevirtual 146, 3) := by decide +kernel
theorem dL_law_1250 : decode cL_law 1250 = .ok (.pop, 1) := by decide +kernel
theorem dL_law_1251 : decode cL_law 1251 = .ok (.goto 214, 3) := by decide +kernel
theorem dL_law_1254 : decode cL_law 1254 = .ok (.aload_n 1, 1) := by decide +kernel
theorem dL_law_1255 : decode cL_law 1255 = .ok (.aload_n 0, 1) := by decide +kernel
theorem dL_law_1256 : decode cL_law 1256 = .ok (.iload 4, 2) := by decide +kernel
theorem dL_law_1258 : decode cL_law 1258 = .ok (.iconst 1, 1) := by decide +kernel
theorem dL_law_1259 : decode cL_law 1259 = .ok (.iadd, 1) := by decide +kernel
theorem dL_law_1260 : decode cL_law 1260 = .ok (.iaload, 1) := by decide +kernel
theorem dL_law_1261 : decode cL_law 1261 = .ok (.invokevirtual 147, 3) := by decide +kernel
theorem dL_law_1264 : decode cL_law 1264 = .ok (.pop, 1) := by decide +kernel
theorem dL_law_1265 : decode cL_law 1265 = .ok (.aload_n 2, 1) := by decide +kernel
theorem dL_law_1266 : decode cL_law 1266 = .ok (.aload_n 0, 1) := by decide +kernel
theorem dL_law_1267 : decode cL_law 1267 = .ok (.iload 4, 2) := by decide +kernel
theorem dL_law_1269 : decode cL_law 1269 = .ok (.iconst 1, 1) := by decide +kernel
theorem dL_law_1270 : decode cL_law 1270 = .ok (.iadd, 1) := by decide +kernel
theorem dL_law_1271 : decode cL_law 1271 = .ok (.iaload, 1) := by decide +kernel
theorem dL_law_1272 : decode cL_law 1272 = .ok (.invokevirtual 150, 3) := by decide +kernel
theorem dL_law_1275 : decode cL_law 1275 = .ok (.pop, 1) := by decide +kernel
theorem dL_law_1276 : decode cL_law 1276 = .ok (.goto 189, 3) := by decide +kernel
theorem dL_law_1279 : decode cL_law 1279 = .ok (.aload_n 1, 1) := by decide +kernel
theorem dL_law_1280 : decode cL_law 1280 = .ok (.aload_n 0, 1) := by decide +kernel
theorem dL_law_1281 : decode cL_law 1281 = .ok (.iload 4, 2) := by decide +kernel
theorem dL_law_1283 : decode cL_law 1283 = .ok (.iconst 1, 1) := by decide +kernel
theorem dL_law_1284 : decode cL_law 1284 = .ok (.iadd, 1) := by decide +kernel
theorem dL_law_1285 : decode cL_law 1285 = .ok (.iaload, 1) := by decide +kernel
theorem dL_law_1286 : decode cL_law 1286 = .ok (.invokevirtual 151, 3) := by decide +kernel
theorem dL_law_1289 : decode cL_law 1289 = .ok (.pop, 1) := by decide +kernel
theorem dL_law_1290 : decode cL_law 1290 = .ok (.aload_n 2, 1) := by decide +kernel
theorem dL_law_1291 : decode cL_law 1291 = .ok (.aload_n 0, 1) := by decide +kernel
theorem dL_law_1292 : decode cL_law 1292 = .ok (.iload 4, 2) := by decide +kernel
theorem dL_law_1294 : decode cL_law 1294 = .ok (.iconst 1, 1) := by decide +kernel
theorem dL_law_1295 : decode cL_law 1295 = .ok (.iadd, 1) := by decide +kernel
theorem dL_law_1296 : decode cL_law 1296 = .ok (.iaload, 1) := by decide +kernel
theorem dL_law_1297 : decode cL_law 1297 = .ok (.invokevirtual 154, 3) := by decide +kernel
theorem dL_law_1300 : decode cL_law 1300 = .ok (.pop, 1) := by decide +kernel
theorem dL_law_1301 : decode cL_law 1301 = .ok (.goto 164, 3) := by decide +kernel
theorem dL_law_1304 : decode cL_law 1304 = .ok (.aload_n 1, 1) := by decide +kernel
theorem dL_law_1305 : decode cL_law 1305 = .ok (.invokevirtual 155, 3) := by decide +kernel
theorem dL_law_1308 : decode cL_law 1308 = .ok (.pop, 1) := by decide +kernel
theorem dL_law_1309 : decode cL_law 1309 = .ok (.aload_n 2, 1) := by decide +kernel
theorem dL_law_1310 : decode cL_law 1310 = .ok (.invokevirtual 158, 3) := by decide +kernel
theorem dL_law_1313 : decode cL_law 1313 = .ok (.pop, 1) := by decide +kernel
theorem dL_law_1314 : decode cL_law 1314 = .ok (.goto 151, 3) := by decide +kernel
theorem dL_law_1317 : decode cL_law 1317 = .ok (.aload_n 1, 1) := by decide +kernel
theorem dL_law_1318 : decode cL_law 1318 = .ok (.aload_n 0, 1) := by decide +kernel
theorem dL_law_1319 : decode cL_law 1319 = .ok (.iload 4, 2) := by decide +kernel
theorem dL_law_1321 : decode cL_law 1321 = .ok (.iconst 1, 1) := by decide +kernel
theorem dL_law_1322 : decode cL_law 1322 = .ok (.iadd, 1) := by decide +kernel
theorem dL_law_1323 : decode cL_law 1323 = .ok (.iaload, 1) := by decide +kernel
theorem dL_law_1324 : decode cL_law 1324 = .ok (.invokevirtual 159, 3) := by decide +kernel
theorem dL_law_1327 : decode cL_law 1327 = .ok (.pop, 1) := by decide +kernel
theorem dL_law_1328 : decode cL_law 1328 = .ok (.aload_n 2, 1) := by decide +kernel
theorem dL_law_1329 : decode cL_law 1329 = .ok (.aload_n 0, 1) := by decide +kernel
theorem dL_law_1330 : decode cL_law 1330 = .ok (.iload 4, 2) := by decide +kernel
theorem dL_law_1332 : decode cL_law 1332 = .ok (.iconst 1, 1) := by decide +kernel
theorem dL_law_1333 : decode cL_law 1333 = .ok (.iadd, 1) := by decide +kernel
theorem dL_law_1334 : decode cL_law 1334 = .ok (.iaload, 1) := by decide +kernel
theorem dL_law_1335 : decode cL_law 1335 = .ok (.invokevirtual 162, 3) := by decide +kernel
theorem dL_law_1338 : decode cL_law 1338 = .ok (.pop, 1) := by decide +kernel
theorem dL_law_1339 : decode cL_law 1339 = .ok (.goto 126, 3) := by decide +kernel
theorem dL_law_1342 : decode cL_law 1342 = .ok (.aload_n 1, 1) := by decide +kernel
theorem dL_law_1343 : decode cL_law 1343 = .ok (.aload_n 0, 1) := by decide +kernel
theorem dL_law_1344 : decode cL_law 1344 = .ok (.iload 4, 2) := by decide +kernel
theorem dL_law_1346 : decode cL_law 1346 = .ok (.iconst 1, 1) := by decide +kernel
theorem dL_law_1347 : decode cL_law 1347 = .ok (.iadd, 1) := by decide +kernel
theorem dL_law_1348 : decode cL_law 1348 = .ok (.iaload, 1) := by decide +kernel
theorem dL_law_1349 : decode cL_law 1349 = .ok (.aload_n 0, 1) := by decide +kernel
theorem dL_law_1350 : decode cL_law 1350 = .ok (.iload 4, 2) := by decide +kernel
theorem dL_law_1352 : decode cL_law 1352 = .ok (.iconst 2, 1) := by decide +kernel
theorem dL_law_1353 : decode cL_law 1353 = .ok (.iadd, 1) := by decide +kernel
theorem dL_law_1354 : decode cL_law 1354 = .ok (.iaload, 1) := by decide +kernel
theorem dL_law_1355 : decode cL_law 1355 = .ok (.aload_n 0, 1) := by decide +kernel
theorem dL_law_1356 : decode cL_law 1356 = .ok (.iload 4, 2) := by decide +kernel
theorem dL_law_1358 : decode cL_law 1358 = .ok (.iconst 3, 1) := by decide +kernel
theorem dL_law_1359 : decode cL_law 1359 = .ok (.iadd, 1) := by decide +kernel
theorem dL_law_1360 : decode cL_law 1360 = .ok (.iaload, 1) := by decide +kernel
theorem dL_law_1361 : decode cL_law 1361 = .ok (.aload_n 0, 1) := by decide +kernel
theorem dL_law_1362 : decode cL_law 1362 = .ok (.iload 4, 2) := by decide +kernel
theorem dL_law_1364 : decode cL_law 1364 = .ok (.iconst 4, 1) := by decide +kernel
theorem dL_law_1365 : decode cL_law 1365 = .ok (.iadd, 1) := by decide +kernel
theorem dL_law_1366 : decode cL_law 1366 = .ok (.iaload, 1) := by decide +kernel
theorem dL_law_1367 : decode cL_law 1367 = .ok (.aload_n 0, 1) := by decide +kernel
theorem dL_law_1368 : decode cL_law 1368 = .ok (.iload 4, 2) := by decide +kernel
theorem dL_law_1370 : decode cL_law 1370 = .ok (.iconst 5, 1) := by decide +kernel
theorem dL_law_1371 : decode cL_law 1371 = .ok (.iadd, 1) := by decide +kernel
theorem dL_law_1372 : decode cL_law 1372 = .ok (.iaload, 1) := by decide +kernel
theorem dL_law_1373 : decode cL_law 1373 = .ok (.invokevirtual 163, 3) := by decide +kernel
theorem dL_law_1376 : decode cL_law 1376 = .ok (.pop, 1) := by decide +kernel
theorem dL_law_1377 : decode cL_law 1377 = .ok (.aload_n 2, 1) := by decide +kernel
theorem dL_law_1378 : decode cL_law 1378 = .ok (.aload_n 0, 1) := by decide +kernel
theorem dL_law_1379 : decode cL_law 1379 = .ok (.iload 4, 2) := by decide +kernel
theorem dL_law_1381 : decode cL_law 1381 = .ok (.iconst 1, 1) := by decide +kernel
theorem dL_law_1382 : decode cL_law 1382 = .ok (.iadd, 1) := by decide +kernel
theorem dL_law_1383 : decode cL_law 1383 = .ok (.iaload, 1) := by decide +kernel
theorem dL_law_1384 : decode cL_law 1384 = .ok (.aload_n 0, 1) := by decide +kernel
theorem dL_law_1385 : decode cL_law 1385 = .ok (.iload 4, 2) := by decide +kernel
theorem dL_law_1387 : decode cL_law 1387 = .ok (.iconst 2, 1) := by decide +kernel
theorem dL_law_1388 : decode cL_law 1388 = .ok (.iadd, 1) := by decide +kernel
theorem dL_law_1389 : decode cL_law 1389 = .ok (.iaload, 1) := by decide +kernel
theorem dL_law_1390 : decode cL_law 1390 = .ok (.aload_n 0, 1) := by decide +kernel
theorem dL_law_1391 : decode cL_law 1391 = .ok (.iload 4, 2) := by decide +kernel
theorem dL_law_1393 : decode cL_law 1393 = .ok (.iconst 3, 1) := by decide +kernel
theorem dL_law_1394 : decode cL_law 1394 = .ok (.iadd, 1) := by decide +kernel
theorem dL_law_1395 : decode cL_law 1395 = .ok (.iaload, 1) := by decide +kernel
theorem dL_law_1396 : decode cL_law 1396 = .ok (.aload_n 0, 1) := by decide +kernel
theorem dL_law_1397 : decode cL_law 1397 = .ok (.iload 4, 2) := by decide +kernel
theorem dL_law_1399 : decode cL_law 1399 = .ok (.iconst 4, 1) := by decide +kernel
theorem dL_law_1400 : decode cL_law 1400 = .ok (.iadd, 1) := by decide +kernel
theorem dL_law_1401 : decode cL_law 1401 = .ok (.iaload, 1) := by decide +kernel
theorem dL_law_1402 : decode cL_law 1402 = .ok (.aload_n 0, 1) := by decide +kernel
theorem dL_law_1403 : decode cL_law 1403 = .ok (.iload 4, 2) := by decide +kernel
theorem dL_law_1405 : decode cL_law 1405 = .ok (.iconst 5, 1) := by decide +kernel
theorem dL_law_1406 : decode cL_law 1406 = .ok (.iadd, 1) := by decide +kernel
theorem dL_law_1407 : decode cL_law 1407 = .ok (.iaload, 1) := by decide +kernel
theorem dL_law_1408 : decode cL_law 1408 = .ok (.invokevirtual 166, 3) := by decide +kernel
theorem dL_law_1411 : decode cL_law 1411 = .ok (.pop, 1) := by decide +kernel
theorem dL_law_1412 : decode cL_law 1412 = .ok (.goto 53, 3) := by decide +kernel
theorem dL_law_1415 : decode cL_law 1415 = .ok (.aload_n 1, 1) := by decide +kernel
theorem dL_law_1416 : decode cL_law 1416 = .ok (.aload_n 0, 1) := by decide +kernel
theorem dL_law_1417 : decode cL_law 1417 = .ok (.iload 4, 2) := by decide +kernel
theorem dL_law_1419 : decode cL_law 1419 = .ok (.iconst 1, 1) := by decide +kernel
theorem dL_law_1420 : decode cL_law 1420 = .ok (.iadd, 1) := by decide +kernel
theorem dL_law_1421 : decode cL_law 1421 = .ok (.iaload, 1) := by decide +kernel
theorem dL_law_1422 : decode cL_law 1422 = .ok (.invokevirtual 167, 3) := by decide +kernel
theorem dL_law_1425 : decode cL_law 1425 = .ok (.pop, 1) := by decide +kernel
theorem dL_law_1426 : decode cL_law 1426 = .ok (.aload_n 2, 1) := by decide +kernel
theorem dL_law_1427 : decode cL_law 1427 = .ok (.aload_n 0, 1) := by decide +kernel
theorem dL_law_1428 : decode cL_law 1428 = .ok (.iload 4, 2) := by decide +kernel
theorem dL_law_1430 : decode cL_law 1430 = .ok (.iconst 1, 1) := by decide +kernel
theorem dL_law_1431 : decode cL_law 1431 = .ok (.iadd, 1) := by decide +kernel
theorem dL_law_1432 : decode cL_law 1432 = .ok (.iaload, 1) := by decide +kernel
theorem dL_law_1433 : decode cL_law 1433 = .ok (.invokevirtual 170, 3) := by decide +kernel
theorem dL_law_1436 : decode cL_law 1436 = .ok (.pop, 1) := by decide +kernel
theorem dL_law_1437 : decode cL_law 1437 = .ok (.goto 28, 3) := by decide +kernel
theorem dL_law_1440 : decode cL_law 1440 = .ok (.aload_n 1, 1) := by decide +kernel
theorem dL_law_1441 : decode cL_law 1441 = .ok (.aload_n 0, 1) := by decide +kernel
theorem dL_law_1442 : decode cL_law 1442 = .ok (.iload 4, 2) := by decide +kernel
theorem dL_law_1444 : decode cL_law 1444 = .ok (.iconst 1, 1) := by decide +kernel
theorem dL_law_1445 : decode cL_law 1445 = .ok (.iadd, 1) := by decide +kernel
theorem dL_law_1446 : decode cL_law 1446 = .ok (.iaload, 1) := by decide +kernel
theorem dL_law_1447 : decode cL_law 1447 = .ok (.invokevirtual 171, 3) := by decide +kernel
theorem dL_law_1450 : decode cL_law 1450 = .ok (.pop, 1) := by decide +kernel
theorem dL_law_1451 : decode cL_law 1451 = .ok (.aload_n 2, 1) := by decide +kernel
theorem dL_law_1452 : decode cL_law 1452 = .ok (.aload_n 0, 1) := by decide +kernel
theorem dL_law_1453 : decode cL_law 1453 = .ok (.iload 4, 2) := by decide +kernel
theorem dL_law_1455 : decode cL_law 1455 = .ok (.iconst 1, 1) := by decide +kernel
theorem dL_law_1456 : decode cL_law 1456 = .ok (.iadd, 1) := by decide +kernel
theorem dL_law_1457 : decode cL_law 1457 = .ok (.iaload, 1) := by decide +kernel
theorem dL_law_1458 : decode cL_law 1458 = .ok (.invokevirtual 174, 3) := by decide +kernel
theorem dL_law_1461 : decode cL_law 1461 = .ok (.pop, 1) := by decide +kernel
theorem dL_law_1462 : decode cL_law 1462 = .ok (.goto 3, 3) := by decide +kernel
theorem dL_law_1465 : decode cL_law 1465 = .ok (.iinc 4 6, 3) := by decide +kernel
theorem dL_law_1468 : decode cL_law 1468 = .ok (.goto (-1445), 3) := by decide +kernel
theorem dL_law_1471 : decode cL_law 1471 = .ok (.iconst 1, 1) := by decide +kernel
theorem dL_law_1472 : decode cL_law 1472 = .ok (.ireturn, 1) := by decide +kernel
theorem li_L_19 : xLI RL 19 yX11_init cX11_init 1 0 := ⟨Or.inl m_1_7, m_1_8, m_1_2, m_1_9, rfl, by decide +kernel⟩
theorem li_L_22 : xLI RL 22 yX12_init cX12_init 1 0 := ⟨Or.inl m_7_22, m_7_23, m_1_5, m_8_0, rfl, by decide +kernel⟩
theorem lk_L_102 : xLV RL 102 yX12_close cX12_close 4 (some .int) 0 := ⟨m_40_16, m_40_17, m_40_18, m_1_5, m_40_19, by decide +kernel⟩
theorem lk_L_108 : xLV RL 108 yX12_of cX12_of 3 (some .int) 2 := ⟨m_42_3, m_42_4, m_42_5, m_1_5, m_42_6, by decide +kernel⟩
theorem lk_L_112 : xLV RL 112 yX12_coin cX12_coin 2 (some .int) 1 := ⟨m_42_18, m_42_19, m_42_20, m_1_5, m_42_21, by decide +kernel⟩
theorem lk_L_113 : xLV RL 113 yX11_counted cX11_counted 5 (some .int) 4 := ⟨m_42_22, m_43_0, m_43_1, m_1_2, m_43_2, by decide +kernel⟩
theorem lk_L_116 : xLV RL 116 yX12_counted cX12_counted 5 (some .int) 4 := ⟨m_43_9, m_43_10, m_43_11, m_1_5, m_43_12, by decide +kernel⟩
theorem lk_L_117 : xLV RL 117 yX11_falseCounts cX11_falseCounts 2 (some .int) 1 := ⟨m_43_14, m_43_15, m_43_16, m_1_2, m_43_17, by decide +kernel⟩
theorem lk_L_120 : xLV RL 120 yX12_falseCounts cX12_falseCounts 7 (some .int) 1 := ⟨m_44_6, m_44_7, m_44_8, m_1_5, m_44_9, by decide +kernel⟩
theorem lk_L_121 : xLV RL 121 yX11_shortOf cX11_shortOf 2 (some .int) 1 := ⟨m_44_18, m_44_19, m_44_20, m_1_2, m_44_21, by decide +kernel⟩
theorem lk_L_124 : xLV RL 124 yX12_shortOf cX12_shortOf 9 (some .int) 1 := ⟨m_45_17, m_45_18, m_45_19, m_1_5, m_45_20, by decide +kernel⟩
theorem lk_L_125 : xLV RL 125 yX11_best cX11_best 7 (some .int) 5 := ⟨m_46_1, m_46_2, m_46_3, m_1_2, m_46_4, by decide +kernel⟩
theorem lk_L_128 : xLV RL 128 yX12_best cX12_best 19 (some .int) 5 := ⟨m_47_0, m_47_1, m_47_2, m_1_5, m_47_3, by decide +kernel⟩
theorem lk_L_129 : xLV RL 129 yX11_expected cX11_expected 1 (some .long) 0 := ⟨m_47_5, m_47_6, m_47_7, m_1_2, m_47_8, by decide +kernel⟩
theorem lk_L_133 : xLV RL 133 yX12_expected cX12_expected 1 (some .long) 0 := ⟨m_47_10, m_47_11, m_47_12, m_1_5, m_47_13, by decide +kernel⟩
theorem lk_L_134 : xLV RL 134 yX11_tried cX11_tried 1 (some .int) 0 := ⟨m_47_14, m_47_15, m_47_16, m_1_2, m_47_17, by decide +kernel⟩
theorem lk_L_137 : xLV RL 137 yX12_tried cX12_tried 5 (some .int) 0 := ⟨m_48_3, m_48_4, m_48_5, m_1_5, m_48_6, by decide +kernel⟩
theorem lk_L_138 : xLV RL 138 yX11_triedEaten cX11_triedEaten 1 (some .int) 0 := ⟨m_48_12, m_48_13, m_48_14, m_1_2, m_48_15, by decide +kernel⟩
theorem lk_L_141 : xLV RL 141 yX12_triedEaten cX12_triedEaten 1 (some .int) 0 := ⟨m_48_16, m_48_17, m_48_18, m_1_5, m_48_19, by decide +kernel⟩
theorem lk_L_142 : xLV RL 142 yX11_parted cX11_parted 6 (some .int) 3 := ⟨m_48_20, m_48_21, m_48_22, m_1_2, m_48_23, by decide +kernel⟩
theorem lk_L_146 : xLV RL 146 yX12_parted cX12_parted 7 (some .int) 3 := ⟨m_51_16, m_51_17, m_51_18, m_1_5, m_51_19, by decide +kernel⟩
theorem lk_L_147 : xLV RL 147 yX11_partedAt cX11_partedAt 2 (some .int) 1 := ⟨m_52_16, m_52_17, m_52_18, m_1_2, m_52_19, by decide +kernel⟩
theorem lk_L_150 : xLV RL 150 yX12_partedAt cX12_partedAt 2 (some .int) 1 := ⟨m_52_22, m_52_23, m_53_0, m_1_5, m_53_1, by decide +kernel⟩
theorem lk_L_151 : xLV RL 151 yX11_peace cX11_peace 2 (some .int) 1 := ⟨m_53_2, m_53_3, m_53_4, m_1_2, m_53_5, by decide +kernel⟩
theorem lk_L_154 : xLV RL 154 yX12_peace cX12_peace 2 (some .int) 1 := ⟨m_53_10, m_53_11, m_53_12, m_1_5, m_53_13, by decide +kernel⟩
theorem lk_L_155 : xLV RL 155 yX11_truck cX11_truck 2 (some .int) 0 := ⟨m_53_14, m_53_15, m_53_16, m_1_2, m_53_17, by decide +kernel⟩
theorem lk_L_158 : xLV RL 158 yX12_truck cX12_truck 7 (some .int) 0 := ⟨m_55_10, m_55_11, m_55_12, m_1_5, m_55_13, by decide +kernel⟩
theorem lk_L_159 : xLV RL 159 yX11_truckAt cX11_truckAt 2 (some .int) 1 := ⟨m_56_2, m_56_3, m_56_4, m_1_2, m_56_5, by decide +kernel⟩
theorem lk_L_162 : xLV RL 162 yX12_truckAt cX12_truckAt 2 (some .int) 1 := ⟨m_56_8, m_56_9, m_56_10, m_1_5, m_56_11, by decide +kernel⟩
theorem lk_L_163 : xLV RL 163 yX11_strike cX11_strike 7 (some .int) 5 := ⟨m_56_12, m_56_13, m_56_14, m_1_2, m_56_15, by decide +kernel⟩
theorem lk_L_166 : xLV RL 166 yX12_strike cX12_strike 13 (some .int) 5 := ⟨m_57_5, m_57_6, m_57_7, m_1_5, m_57_8, by decide +kernel⟩
theorem lk_L_167 : xLV RL 167 yX11_struck cX11_struck 2 (some .int) 1 := ⟨m_57_12, m_57_13, m_57_14, m_1_2, m_57_15, by decide +kernel⟩
theorem lk_L_170 : xLV RL 170 yX12_struck cX12_struck 2 (some .int) 1 := ⟨m_57_16, m_57_17, m_57_18, m_1_5, m_57_19, by decide +kernel⟩
theorem lk_L_171 : xLV RL 171 yX11_count cX11_count 2 (some .int) 1 := ⟨m_57_20, m_57_21, m_57_22, m_1_2, m_57_23, by decide +kernel⟩
theorem lk_L_174 : xLV RL 174 yX12_count cX12_count 2 (some .int) 1 := ⟨m_58_0, m_58_1, m_58_2, m_1_5, m_58_3, by decide +kernel⟩
theorem lk_L_23 : xLV RL 23 yX11_feed cX11_feed 6 (some .int) 5 := ⟨m_10_16, m_10_17, m_10_18, m_1_2, m_10_19, by decide +kernel⟩
theorem lk_L_27 : xLV RL 27 yX12_feed cX12_feed 6 (some .int) 5 := ⟨m_11_1, m_11_2, m_11_3, m_1_5, m_11_4, by decide +kernel⟩
theorem lk_L_28 : xLV RL 28 yX11_end cX11_end 2 (some .boolean) 1 := ⟨m_11_11, m_11_12, m_11_13, m_1_2, m_11_14, by decide +kernel⟩
theorem lk_L_32 : xLV RL 32 yX12_end cX12_end 2 (some .boolean) 1 := ⟨m_11_15, m_11_16, m_11_17, m_1_5, m_11_18, by decide +kernel⟩
theorem lk_L_33 : xLV RL 33 yX11_boy cX11_boy 6 (some .int) 4 := ⟨m_11_19, m_11_20, m_11_21, m_1_2, m_11_22, by decide +kernel⟩
theorem lk_L_37 : xLV RL 37 yX12_boy cX12_boy 5 (some .int) 4 := ⟨m_15_7, m_15_8, m_15_9, m_1_5, m_15_10, by decide +kernel⟩
theorem lk_L_38 : xLV RL 38 yX11_badge cX11_badge 3 (some .boolean) 2 := ⟨m_15_15, m_15_16, m_15_17, m_1_2, m_15_18, by decide +kernel⟩
theorem lk_L_42 : xLV RL 42 yX12_badge cX12_badge 3 (some .boolean) 2 := ⟨m_16_18, m_16_19, m_16_20, m_1_5, m_16_21, by decide +kernel⟩
theorem lk_L_43 : xLV RL 43 yX11_owner cX11_owner 3 (some .boolean) 2 := ⟨m_17_2, m_17_3, m_17_4, m_1_2, m_17_5, by decide +kernel⟩
theorem lk_L_46 : xLV RL 46 yX12_owner cX12_owner 3 (some .boolean) 2 := ⟨m_17_10, m_17_11, m_17_12, m_1_5, m_17_13, by decide +kernel⟩
theorem lk_L_47 : xLV RL 47 yX11_weather cX11_weather 2 (some .boolean) 0 := ⟨m_17_17, m_17_18, m_17_19, m_1_2, m_17_20, by decide +kernel⟩
theorem lk_L_51 : xLV RL 51 yX12_weather cX12_weather 3 (some .boolean) 0 := ⟨m_18_7, m_18_8, m_18_9, m_1_5, m_18_10, by decide +kernel⟩
theorem lk_L_52 : xLV RL 52 yX11_sky cX11_sky 2 (some .int) 1 := ⟨m_18_16, m_18_17, m_18_18, m_1_2, m_18_19, by decide +kernel⟩
theorem lk_L_55 : xLV RL 55 yX12_sky cX12_sky 2 (some .int) 1 := ⟨m_18_21, m_18_22, m_18_23, m_1_5, m_19_0, by decide +kernel⟩
theorem lk_L_56 : xLV RL 56 yX11_headline cX11_headline 4 (some .boolean) 3 := ⟨m_19_8, m_19_9, m_19_10, m_1_2, m_19_11, by decide +kernel⟩
theorem lk_L_60 : xLV RL 60 yX12_headline cX12_headline 4 (some .boolean) 3 := ⟨m_19_19, m_19_20, m_19_21, m_1_5, m_19_22, by decide +kernel⟩
theorem lk_L_61 : xLV RL 61 yX11_table cX11_table 4 (some .boolean) 3 := ⟨m_20_3, m_20_4, m_20_5, m_1_2, m_20_6, by decide +kernel⟩
theorem lk_L_64 : xLV RL 64 yX12_table cX12_table 4 (some .boolean) 3 := ⟨m_20_12, m_20_13, m_20_14, m_1_5, m_20_15, by decide +kernel⟩
theorem lk_L_65 : xLV RL 65 yX11_want cX11_want 4 (some .boolean) 3 := ⟨m_20_16, m_20_17, m_20_18, m_1_2, m_20_19, by decide +kernel⟩
theorem lk_L_68 : xLV RL 68 yX12_want cX12_want 4 (some .boolean) 3 := ⟨m_20_21, m_20_22, m_20_23, m_1_5, m_21_0, by decide +kernel⟩
theorem lk_L_69 : xLV RL 69 yX11_asked cX11_asked 5 (some .int) 4 := ⟨m_21_1, m_21_2, m_21_3, m_1_2, m_21_4, by decide +kernel⟩
theorem lk_L_73 : xLV RL 73 yX12_asked cX12_asked 5 (some .int) 4 := ⟨m_21_9, m_21_10, m_21_11, m_1_5, m_21_12, by decide +kernel⟩
theorem lk_L_74 : xLV RL 74 yX11_minutes cX11_minutes 4 (some .boolean) 3 := ⟨m_21_17, m_21_18, m_21_19, m_1_2, m_21_20, by decide +kernel⟩
theorem lk_L_77 : xLV RL 77 yX12_minutes cX12_minutes 4 (some .boolean) 3 := ⟨m_21_22, m_21_23, m_22_0, m_1_5, m_22_1, by decide +kernel⟩
theorem lk_L_78 : xLV RL 78 yX11_terms cX11_terms 3 (some .int) 1 := ⟨m_22_7, m_22_8, m_22_9, m_1_2, m_22_10, by decide +kernel⟩
theorem lk_L_81 : xLV RL 81 yX12_terms cX12_terms 4 (some .int) 1 := ⟨m_28_3, m_28_4, m_28_5, m_1_5, m_28_6, by decide +kernel⟩
theorem lk_L_82 : xLV RL 82 yX11_fault cX11_fault 1 (some .int) 0 := ⟨m_32_9, m_32_10, m_32_11, m_1_2, m_32_12, by decide +kernel⟩
theorem lk_L_86 : xLV RL 86 yX12_fault cX12_fault 1 (some .int) 0 := ⟨m_32_13, m_32_14, m_32_15, m_1_5, m_32_16, by decide +kernel⟩
theorem lk_L_87 : xLV RL 87 yX11_bundle cX11_bundle 7 (some .int) 5 := ⟨m_32_17, m_32_18, m_32_19, m_1_2, m_32_20, by decide +kernel⟩
theorem lk_L_90 : xLV RL 90 yX12_bundle cX12_bundle 8 (some .int) 5 := ⟨m_36_1, m_36_2, m_36_3, m_1_5, m_36_4, by decide +kernel⟩
theorem lk_L_91 : xLV RL 91 yX11_told cX11_told 5 (some .int) 2 := ⟨m_37_4, m_37_5, m_37_6, m_1_2, m_37_7, by decide +kernel⟩
theorem lk_L_94 : xLV RL 94 yX12_told cX12_told 4 (some .int) 2 := ⟨m_37_18, m_37_19, m_37_20, m_1_5, m_37_21, by decide +kernel⟩
theorem lk_L_95 : xLV RL 95 yX11_why cX11_why 1 (some .int) 0 := ⟨m_38_2, m_38_3, m_38_4, m_1_2, m_38_5, by decide +kernel⟩
theorem lk_L_98 : xLV RL 98 yX12_why cX12_why 1 (some .int) 0 := ⟨m_38_6, m_38_7, m_38_8, m_1_5, m_38_9, by decide +kernel⟩
theorem lk_L_99 : xLV RL 99 yX11_close cX11_close 1 (some .int) 0 := ⟨m_38_10, m_38_11, m_38_12, m_1_2, m_38_13, by decide +kernel⟩
theorem nw_L_20 : xNw RL 20 13 RX12 TX12 91 tyX12 [.int 0, .null, .int 0, .int 0, .null, .null, .null, .null, .null, .null, .null, .null, .null, .null, .null, .null, .int 0, .int 0, .int 0, .int 0, .int 0, .int 0, .int 0, .int 0, .int 0, .int 0, .int 0, .int 0, .long 0, .null, .null, .null, .null, .null, .null, .null, .null, .null, .null, .int 0, .int 0, .int 0, .int 0, .int 0, .int 0, .null, .null, .int 0, .null, .null, .null, .null, .null, .null, .null, .null, .null, .null, .int 0, .int 0, .null, .null, .null, .null, .null, .null, .null, .null, .null, .int 0, .long 0, .int 0, .null, .null, .null, .null, .null, .null, .int 0, .int 0, .null, .null, .null, .null, .null, .null, .null, .int 0, .int 0, .int 0, .int 0] := ⟨by decide, rfl, inlX12, tyX12_ok, dfX12, m_1_3, m_1_4, m_1_5⟩
theorem nw_L_8 : xNw RL 8 12 RX11 TX11 18 tyX11 [.null, .null, .null, .null, .null, .null, .null, .null, .null, .null, .null, .null, .int 0, .int 0, .int 0, .int 0, .int 0, .int 0] := ⟨by decide, rfl, inlX11, tyX11_ok, dfX11, m_1_0, m_1_1, m_1_2⟩
theorem xPi_seal {S S1 : xT} {g : xG} {a q r ci : Nat} (h : xPi S g a) (hq : S q = some (r, 0)) (hS : S1 = xset S q (ci, 0)) (hr : 5000 ≤ r ∧ r < 5100) : xPi S1 g a := by
  obtain ⟨p, q', c, d, n, h1, h2, h3, h4, h5, h6, h7, h8, h9, h10, h11, h12, h13, h14, h15⟩ := h
  have ho : ∀ b, b ≠ q → S1 b = S b := fun b hb => by rw [hS]; exact xset_o hb
  exact ⟨p, q', c, d, n, xhs_seal ho hq h1 (by omega), h2, h3, h4, xhs_seal ho hq h5 (by omega), xhs_seal ho hq h6 (by omega), h7, h8, h9, xhs_seal ho hq h10 (by omega), xhs_seal ho hq h11 (by omega), h12, h13, h14, h15⟩
section XSR
variable {K : xCx} {E : xEn} {own : String} {cc : ByteArray} {Lw : List (Nat × Nat)} {nL rf rc rs rl : Nat} {pc : Nat} {lv : List (Nat × Value)} {st : List Value} {S : xT} {g : xG} {cells slots : Nat}
theorem X_scr (hK : xK K E own cc Lw nL rf rc rs rl) {b n : Nat} {xs : Nat → Int32} {j : Int} (hX : va_X b n xs K.2.2.2.2.1 K.2.2.2.2.1.heap) (hbl : b < K.2.2.2.2.1.heap.size) (hbA : ¬ E.2.2.1 ≤ b) (hn : n ≤ 3072) (q1 : 0 ≤ j) (q2 : j < n) (hd : decode cc pc = .ok (.iaload, 1)) (kk : ∀ z : Int, xs j.toNat = iI z → -2147483648 ≤ z → z ≤ 2147483647 → X K E (pc + 1) lv (.int (iI z) :: st) S g cells slots) : X K E pc lv (.int (iI j) :: .ref b :: st) S g cells slots := by
  intro H locs ls h1 h2 h3 h4 h5 h6
  refine va_sld (A := fun q => E.2.2.1 ≤ q) hK.1 hK.2.1 hX hbl hbA h5 (iI_in q1 q2 (by omega)) hd ?_
  rw [iI_clamp q1 (by omega)]
  exact X_anyi kk H locs ls h1 h2 h3 h4 h5 h6
theorem X_scrK (hK : xK K E own cc Lw nL rf rc rs rl) {b n : Nat} {xs : Nat → Int32} {j z : Int} (hX : va_X b n xs K.2.2.2.2.1 K.2.2.2.2.1.heap) (hbl : b < K.2.2.2.2.1.heap.size) (hbA : ¬ E.2.2.1 ≤ b) (hn : n ≤ 3072) (q1 : 0 ≤ j) (q2 : j < n) (e : xs j.toNat = iI z) (hd : decode cc pc = .ok (.iaload, 1)) (kk : X K E (pc + 1) lv (.int (iI z) :: st) S g cells slots) : X K E pc lv (.int (iI j) :: .ref b :: st) S g cells slots := by
  intro H locs ls h1 h2 h3 h4 h5 h6
  refine va_sld (A := fun q => E.2.2.1 ≤ q) hK.1 hK.2.1 hX hbl hbA h5 (iI_in q1 q2 (by omega)) hd ?_
  rw [iI_clamp q1 (by omega), e]
  exact kk H locs ls h1 h2 h3 h4 h5 h6
theorem X_sclen (hK : xK K E own cc Lw nL rf rc rs rl) {b n : Nat} {xs : Nat → Int32} (hX : va_X b n xs K.2.2.2.2.1 K.2.2.2.2.1.heap) (hbl : b < K.2.2.2.2.1.heap.size) (hbA : ¬ E.2.2.1 ≤ b) (hd : decode cc pc = .ok (.arraylength, 1)) (kk : X K E (pc + 1) lv (.int (iI (n : Int)) :: st) S g cells slots) : X K E pc lv (.ref b :: st) S g cells slots := by
  intro H locs ls h1 h2 h3 h4 h5 h6
  refine va_slen (A := fun q => E.2.2.1 ≤ q) hK.1 hK.2.1 hX hbl hbA h5 hd ?_
  rw [← Int32.ofInt_eq_ofNat]
  exact kk H locs ls h1 h2 h3 h4 h5 h6
end XSR
def xLW : List (Nat × Nat) := [(5010, 0), (5010, 1), (5012, 0), (5004, 0), (5004, 1), (11000, 0), (5004, 2), (11100, 0), (5004, 3), (5004, 4), (11400, 0), (5004, 5), (5004, 6), (11500, 0), (5006, 0), (5000, 0), (5000, 1), (5006, 1), (5006, 2), (5006, 3), (5006, 4), (5006, 5), (5006, 6), (5006, 7), (5012, 1), (5012, 2), (5005, 0), (5005, 1), (5005, 2), (5005, 3), (5012, 3), (5012, 4), (5011, 0), (5011, 1), (5011, 2), (5011, 3), (5011, 4), (5011, 5), (5011, 6), (5011, 7), (5012, 5), (5008, 0), (5008, 1), (5008, 2), (5008, 3), (5008, 4), (5008, 5), (5008, 6), (5012, 6), (5012, 7), (5003, 0), (5003, 1), (5003, 2), (5003, 3), (5012, 8), (5009, 0), (5009, 1), (5009, 2), (5009, 3), (5009, 4), (5009, 5), (5012, 9), (5007, 0), (5007, 1), (5007, 2), (5007, 3), (5007, 4), (5007, 5), (5007, 6), (5007, 7), (5007, 8), (5007, 9), (5012, 10), (5012, 11), (5012, 12), (5012, 13), (5012, 14), (5012, 15), (5012, 16), (5012, 17), (5013, 1), (5013, 4), (5013, 5), (5013, 6), (5013, 7), (5013, 8), (14600, 0), (5013, 9), (5013, 10), (5013, 11), (5013, 12), (15000, 0), (5013, 13), (15100, 0), (5013, 14), (5013, 15), (5013, 29), (5013, 30), (5013, 31), (5013, 32), (5013, 33), (5013, 34), (5013, 35), (5013, 36), (5013, 37), (5013, 38), (5013, 45), (5013, 46), (5013, 47), (5013, 48), (5013, 49), (5013, 50), (5013, 51), (5013, 52), (5013, 53), (5013, 54), (5013, 55), (5013, 56), (5013, 57), (5013, 59), (5013, 60), (5013, 61), (5013, 62), (5013, 63), (5013, 64), (5013, 65), (5013, 66), (5013, 67), (5013, 68), (5013, 71), (5013, 72), (5013, 73), (5013, 74), (5013, 75), (5013, 76), (5013, 77), (5013, 80), (5013, 81), (5013, 82), (5013, 83), (5013, 84), (5013, 85), (5013, 86), (5013, 89), (5013, 90), (13500, 0), (10, 1), (13, 0), (14100, 0), (13, 2), (5001, 5), (5001, 0), (5001, 1), (5001, 2), (5001, 4), (5001, 3), (0, 0), (0, 1), (0, 2), (10103, 0), (14200, 0), (19301, 0), (14300, 0), (14400, 0), (13, 16), (1, 4), (10700, 0), (14700, 0), (13, 17), (10800, 0), (14800, 0), (11200, 0), (14900, 0), (13, 18), (15200, 0), (12900, 0), (13000, 0), (8, 2), (8, 3), (8, 4), (8, 5), (8, 6), (11, 1), (11, 2), (14000, 0), (13600, 0), (13700, 0), (13800, 0), (13900, 0), (12, 13), (11, 0), (300, 0), (300, 1), (300, 2), (10303, 0), (12, 7), (13, 19), (13, 25), (13, 27), (13, 40), (13, 41), (13, 43), (13, 44), (13, 20), (13, 21), (13, 28), (13, 23), (13, 22), (13, 24), (15300, 0), (13, 26), (15500, 0), (15600, 0), (15700, 0), (15800, 0), (13, 42), (15900, 0), (16000, 0), (16100, 0), (16200, 0), (15400, 0), (13, 39), (5002, 7), (5002, 8), (5002, 9), (5002, 10), (5002, 0), (5002, 1), (5002, 2), (5002, 3), (5002, 4), (5002, 5), (5002, 6), (12000, 0), (2, 7), (1, 5), (100, 0), (100, 1), (100, 2), (10203, 0), (16300, 0), (13, 47), (19401, 0), (14500, 0), (16400, 0), (16500, 0), (16600, 0), (16700, 0), (16800, 0), (16900, 0), (17000, 0), (13, 58), (12, 14), (13, 59), (6, 5), (6, 6), (6, 7), (200, 0), (200, 2), (10403, 0), (200, 1), (2, 8), (2, 9), (2, 10), (12, 12), (19501, 0), (17400, 0), (17500, 0), (19601, 0), (13, 3), (17100, 0), (17200, 0), (17300, 0), (12802, 0), (11700, 0), (11800, 0), (11900, 0), (5, 3), (17600, 0), (17700, 0), (17800, 0), (17900, 0), (18000, 0), (13, 69), (3, 2), (10500, 0), (10600, 0), (3, 3), (13, 70), (12, 15), (13, 71), (7, 0), (12100, 0), (12200, 0), (12600, 0), (7, 9), (12500, 0), (12300, 0), (12, 10), (12, 11), (12400, 0), (12701, 0), (18600, 0), (18700, 0), (18100, 0), (18200, 0), (19701, 0), (18300, 0), (18500, 0), (13, 78), (13, 79), (18400, 0), (9, 4), (13100, 0), (13200, 0), (9, 3), (13400, 0), (9, 5), (13300, 0), (19100, 0), (19200, 0), (19000, 0), (13, 87), (13, 88), (18800, 0), (18900, 0), (12, 16), (12, 17), (13, 89), (13, 90)]
set_option maxHeartbeats 16000000 in
set_option maxRecDepth 100000 in
theorem law_X {K : xCx} {E : xEn} {b L : Nat} {xs : Nat → Int32} {S : xT} {g : xG} (hst : K.2.1.stackTraces = false) (hK : xK K E RL cL_law xLW 7 2048 601024 7293034 84000) (hts : ∀ w ∈ lw_tbl, w.before K.2.2.2.2.2.2.1 K.2.2.2.2.1 = true) (hT : tsr (fun q => E.2.2.1 ≤ q) K.2.2.2.2.1 K.2.2.2.2.1.heap) (hp3 : xP3 K.2.2.2.2.1) (hret : ∀ (pc : Nat) (lv : List (Nat × Value)) (S1 : xT) (g1 : xG) (cells slots : Nat), decode cL_law pc = .ok (.ireturn, 1) → cells ≤ 601024 → slots ≤ 7293034 → X K E pc lv [.int (iI 1)] S1 g1 cells slots) (hL : L ≤ 3072) (hX : va_X b L xs K.2.2.2.2.1 K.2.2.2.2.1.heap) (hbl : b < K.2.2.2.2.1.heap.size) (hbA : ¬ E.2.2.1 ≤ b) (hem : S (E.2.2.2.2.2.2.2 0) = some (20003, 0)) (hab : xAb S) (hsi : xSi S E.2.2.2.2.2.2.2) : X K E 0 [(0, .ref b)] [] S g 0 0 := by
  refine X_new hK nw_L_8 (by omega) (by omega) dL_law_0 (fun b1 S2 g3 zb1 nb1 hSb1 hg3 qb1 hs_b1 => ?_)
  have A4 : xLs S2 g3 := xLs_al (xAb.ls hab) (hg3 ▸ xM_new (L := []) xM.rf nb1) rfl qb1 (xNw2.one hSb1) (by decide)
  refine X_dup hK dL_law_3 rfl ?_
  refine X_callIU hK [] [.ref b1] li_L_19 (c_X11_init _ _ _ _ _ S2 g3 b1 hs_b1 (xSi.nw hsi (xNw2.one hSb1) (by decide)) (fun a9 t9 n9 h9 => ((xNw2.tr xNw2.rf (hSb1 ▸ xNw2.set (by decide)) (fun _ h => h)) a9 t9 n9 h9).elim (hab a9 t9 n9) (fun q9 => (show ∀ t8 ∈ [5012], t8 ≠ 0 ∧ t8 ≠ 100 ∧ t8 ≠ 200 ∧ t8 ≠ 300 by decide) t9 q9)) (qb1 _ _ hem)) dL_law_4 rfl rfl (by simp [Value.category]) (by decide) (by omega) (by omega) (by decide) (fun r5 S7 g6 dcr5 dsr5 pr5 qr5 hg6 => ?_)
  obtain ⟨wr5, rfl, k8, k9, k10, k11, k12, k13, k14, k15, k16, k17⟩ := pr5
  refine X_st [.ref b1] rfl ?_
  obtain ⟨b18, eb18, hs_b18, yb18⟩ := k14
  obtain ⟨b19, b20, b21, b22, eb19, hs_b19, zb19, eb20, hs_b20, zb20, eb21, hs_b21, zb21, eb22, hs_b22, zb22⟩ := yb18
  refine X_seal (ci := 12) zb1 (qr5 _ _ hs_b1) (by decide) k17 (fun a9 t9 n9 k9 _ _ _ c9 h9 => Or.inr (h9 ▸ xsl_raw t9 k9 (by omega))) (fun k9 => xsl_raw _ k9 (by omega)) (fun S23 hSy24 hs_y24 hoy24 => ?_)
  have hk25 := (xhs_seal hoy24 (qr5 _ _ hs_b1) (qr5 _ _ (qb1 _ _ hem)) (by decide))
  have hk26 := (xhs_seal hoy24 (qr5 _ _ hs_b1) hs_b18 (by decide))
  have hk27 := (xhs_seal hoy24 (qr5 _ _ hs_b1) hs_b19 (by decide))
  have hk28 := (xhs_seal hoy24 (qr5 _ _ hs_b1) hs_b20 (by decide))
  have hk29 := (xhs_seal hoy24 (qr5 _ _ hs_b1) hs_b21 (by decide))
  have hk30 := (xhs_seal hoy24 (qr5 _ _ hs_b1) hs_b22 (by decide))
  have pi31 : xPi S23 g6 b1 := xPi_of k11 (qr5 _ _ hs_b1) hSy24
  obtain ⟨b32, eb32, hs_b32, fb32⟩ := k16
  obtain ⟨b33, b34, b35, eb33, hs_b33, fb33, eb34, hs_b34, eb35, hs_b35, fb35, fb34⟩ := k15
  refine X_astoren hK (i := 1) [(1, .ref b1), (0, .ref b)] dL_law_7 rfl (by decide) rfl ?_
  refine X_new hK nw_L_20 (by omega) (by omega) dL_law_8 (fun b36 S37 g38 zb36 nb36 hSb36 hg38 qb36 hs_b36 => ?_)
  have A39 : xLs S37 g38 := xLs_al (xLs_seal k8 (qr5 _ _ hs_b1) hSy24 (by decide) (by decide)) (hg38 ▸ xM_new (L := []) xM.rf nb36) rfl qb36 (xNw2.one hSb36) (by decide)
  have hk40 := (qb36 _ _ (xhs_seal hoy24 (qr5 _ _ hs_b1) hs_b32 (by decide)))
  have hk41 := (qb36 _ _ (xhs_seal hoy24 (qr5 _ _ hs_b1) hs_b33 (by decide)))
  have hk42 := (qb36 _ _ (xhs_seal hoy24 (qr5 _ _ hs_b1) hs_b34 (by decide)))
  have hk43 := (qb36 _ _ (xhs_seal hoy24 (qr5 _ _ hs_b1) hs_b35 (by decide)))
  refine X_dup hK dL_law_11 rfl ?_
  refine X_callIU hK [] [.ref b36] li_L_22 (c_X12_init _ _ _ _ _ S37 g38 b36 hs_b36 (by rw [hg38, xrow_s]; rfl) (by rw [hg38, xrow_s]; rfl) (by rw [hg38, xrow_s]; rfl) (by rw [hg38, xrow_s]; rfl) (by rw [hg38, xrow_s]; rfl) (by rw [hg38, xrow_s]; rfl) (by rw [hg38, xrow_s]; rfl) (by rw [hg38, xrow_s]; rfl) (by rw [hg38, xrow_s]; rfl) (by rw [hg38, xrow_s]; rfl) (by rw [hg38, xrow_s]; rfl) (by rw [hg38, xrow_s]; rfl) (by rw [hg38, xrow_s]; rfl) (by rw [hg38, xrow_s]; rfl) (by rw [hg38, xrow_s]; rfl) (by rw [hg38, xrow_s]; rfl) (by rw [hg38, xrow_s]; rfl) (by rw [hg38, xrow_s]; rfl) (by rw [hg38, xrow_s]; rfl) (by rw [hg38, xrow_s]; rfl) (by rw [hg38, xrow_s]; rfl) (by rw [hg38, xrow_s]; rfl) (by rw [hg38, xrow_s]; rfl) (by rw [hg38, xrow_s]; rfl) (by rw [hg38, xrow_s]; rfl) (by rw [hg38, xrow_s]; rfl) (by rw [hg38, xrow_s]; rfl) (by rw [hg38, xrow_s]; rfl) (by rw [hg38, xrow_s]; rfl)) dL_law_12 rfl rfl (by simp [Value.category]) (by decide) (by omega) (by omega) (by decide) (fun r44 S46 g45 dcr44 dsr44 pr44 qr44 hg45 => ?_)
  obtain ⟨wr44, rfl, k47, k48, k49, k50, k51, k52, k53, k54, k55, k56⟩ := pr44
  have A57 : xLs S46 g45 := xLs_al A39 hg45 (by decide) qr44 wr44 (by decide)
  refine X_st [.ref b36] rfl ?_
  obtain ⟨b58, b59, b60, eb58, hs_b58, zb58, eb59, hs_b59, zb59, eb60, hs_b60, zb60⟩ := k54
  refine X_seal (ci := 13) zb36 (qr44 _ _ hs_b36) (by decide) k56 (fun a9 t9 n9 k9 _ _ _ c9 h9 => Or.inr (h9 ▸ xsl_raw t9 k9 (by omega))) (fun k9 => xsl_raw _ k9 (by omega)) (fun S61 hSy62 hs_y62 hoy62 => ?_)
  have hk63 := (xhs_seal hoy62 (qr44 _ _ hs_b36) (qr44 _ _ (qb36 _ _ hk25)) (by decide))
  have hk64 := (xhs_seal hoy62 (qr44 _ _ hs_b36) (qr44 _ _ (qb36 _ _ hs_y24)) (by decide))
  have hk65 := (xhs_seal hoy62 (qr44 _ _ hs_b36) (qr44 _ _ (qb36 _ _ hk26)) (by decide))
  have hk66 := (xhs_seal hoy62 (qr44 _ _ hs_b36) (qr44 _ _ (qb36 _ _ hk27)) (by decide))
  have hk67 := (xhs_seal hoy62 (qr44 _ _ hs_b36) (qr44 _ _ (qb36 _ _ hk28)) (by decide))
  have hk68 := (xhs_seal hoy62 (qr44 _ _ hs_b36) (qr44 _ _ (qb36 _ _ hk29)) (by decide))
  have hk69 := (xhs_seal hoy62 (qr44 _ _ hs_b36) (qr44 _ _ (qb36 _ _ hk30)) (by decide))
  have hk70 := (xhs_seal hoy62 (qr44 _ _ hs_b36) (qr44 _ _ hk40) (by decide))
  have hk71 := (xhs_seal hoy62 (qr44 _ _ hs_b36) (qr44 _ _ hk41) (by decide))
  have hk72 := (xhs_seal hoy62 (qr44 _ _ hs_b36) (qr44 _ _ hk42) (by decide))
  have hk73 := (xhs_seal hoy62 (qr44 _ _ hs_b36) (qr44 _ _ hk43) (by decide))
  have hk74 := (xhs_seal hoy62 (qr44 _ _ hs_b36) hs_b58 (by decide))
  have hk75 := (xhs_seal hoy62 (qr44 _ _ hs_b36) hs_b59 (by decide))
  have hk76 := (xhs_seal hoy62 (qr44 _ _ hs_b36) hs_b60 (by decide))
  have pi77 : xPi S61 g45 b1 := xPi_seal (xPi_m (xPi_m pi31 (hg38 ▸ xM_new (L := []) xM.rf nb36) qb36 (by decide)) hg45 qr44 (by decide)) (qr44 _ _ hs_b36) hSy62 (by decide)
  have mm78 := xMj.mp k55 (qr44 _ _ hs_b36) hSy62
  have tmm78 := k55.1
  refine X_knowr 13500 420 hk70 (by decide) sl_10_0 (fun b79 eb79 hs_b79 => ?_)
  refine X_knowr 14100 420 hs_y62 (by decide) sl_13_1 (fun b80 eb80 hs_b80 => ?_)
  refine X_knowr 14700 400 hs_y62 (by decide) sl_13_10 (fun b81 eb81 hs_b81 => ?_)
  refine X_astoren hK (i := 2) [(2, .ref b36), (1, .ref b1), (0, .ref b)] dL_law_15 rfl (by decide) rfl ?_
  refine X_iconst hK dL_law_16 ?_
  refine X_newa hK (ty := .long) 12802 2 (.long 0) rfl (fun _ => rfl) rfl (by decide) m_1_6 (by omega) ⟨by show _ * 8 ≤ _; omega, by omega⟩ (by omega) (by omega) (fun _ _ h9 => h9) (fun S9 k9 => by rw [sl_12802]; exact ⟨0, rfl⟩) dL_law_17 (fun b82 S83 g84 zb82 nb82 hSb82 hg84 qb82 hs_b82 => ?_)
  have A85 : xLs S83 g84 := xLs_al (xLs_seal A57 (qr44 _ _ hs_b36) hSy62 (by decide) (by decide)) (hg84 ▸ xM_new (L := []) xM.rf nb82) rfl qb82 (xNw2.one hSb82) (by decide)
  refine X_astoren hK (i := 3) [(3, .ref b82), (2, .ref b36), (1, .ref b1), (0, .ref b)] dL_law_19 rfl (by decide) rfl ?_
  refine X_iconst hK dL_law_20 ?_
  refine X_istore hK (i := 4) [(4, .int (iI 0)), (3, .ref b82), (2, .ref b36), (1, .ref b1), (0, .ref b)] dL_law_21 (by decide) rfl ?_
  have P9 : ∀ (n9 : Nat) (S86 : xT) (qS86 : xLe S83 S86) (g87 : xG) (i9 k9 t9 c9 b9 sh9 sp9 sm9 : Int) (hi9 : 0 ≤ i9 ∧ i9 ≤ 3072) (hk9 : 0 ≤ k9 ∧ k9 ≤ 420) (ht9 : 0 ≤ t9 ∧ t9 ≤ 400) (hc9 : 0 ≤ c9 ∧ c9 ≤ 60) (hb9 : 0 ≤ b9 ∧ b9 ≤ 40) (hsh9 : -2147483648 ≤ sh9 ∧ sh9 ≤ 2147483647) (hsp9 : -2147483648 ≤ sp9 ∧ sp9 ≤ 2147483647) (hsm9 : 0 ≤ sm9 ∧ sm9 ≤ 400) (al9 : xLs S86 g87) (si9 : xSi S86 E.2.2.2.2.2.2.2) (pi9 : xPi S86 g87 b1) (mp9 : xMp S86 g87 b36) (tw9 : xTw S86 g87 b36) (el09 : g87 b1 0 = .ref b32) (el19 : g87 b1 3 = .ref b33) (el29 : g87 b1 1 = .ref b34) (el39 : g87 b34 1 = .ref b35) (el49 : g87 b1 2 = .ref b18) (el59 : g87 b18 0 = .ref b19) (el69 : g87 b18 2 = .ref b20) (el79 : g87 b18 3 = .ref b21) (el89 : g87 b18 4 = .ref b22) (el99 : g87 b32 0 = .ref b79) (el109 : g87 b36 1 = .ref b80) (el119 : g87 b36 10 = .ref b81) (el129 : g87 b36 13 = .ref b58) (el139 : g87 b36 14 = .ref b59) (el149 : g87 b36 12 = .ref b60) (exk9 : g87 b32 1 = .int (iI k9)) (emk9 : g87 b36 2 = .int (iI k9)) (ext9 : g87 b1 12 = .int (iI t9)) (emt9 : g87 b36 3 = .int (iI t9)) (exc9 : g87 b33 3 = .int (iI c9)) (emc9 : g87 b36 69 = .int (iI c9)) (exb9 : g87 b35 2 = .int (iI b9)) (emb9 : g87 b36 16 = .int (iI b9)) (exsh9 : g87 b1 16 = .int (iI sh9)) (emsh9 : g87 b36 89 = .int (iI sh9)) (exsp9 : g87 b1 17 = .int (iI sp9)) (emsp9 : g87 b36 90 = .int (iI sp9)) (emsm9 : g87 b36 17 = .int (iI sm9)) (wn9 : xWn S86 g87 b22 b60) (wt9 : xTc (xv g87 b20) (xv g87 b58) 4) (ld9 : xTc (xv g87 b21) (xv g87 b59) 6) (sk9 : xSm (xv g87 b19) (xv g87 b81) sm9) (tc9 : xTc (xv g87 b79) (xv g87 b80) k9) (dc9 ds9 : Nat) (hdc9 : (dc9 : Int) ≤ 200 + 4 * i9) (hds9 : (ds9 : Int) ≤ 20000 + 1000 * i9) (hm9 : 4000 - i9 < (n9 : Int)), X K E 23 [(4, .int (iI i9)), (3, .ref b82), (2, .ref b36), (1, .ref b1), (0, .ref b)] [] S86 g87 dc9 ds9 := by
    intro n9
    induction n9 with
    | zero => intro S86 qS86 g87 i9 k9 t9 c9 b9 sh9 sp9 sm9 hi9 hk9 ht9 hc9 hb9 hsh9 hsp9 hsm9 al9 si9 pi9 mp9 tw9 el09 el19 el29 el39 el49 el59 el69 el79 el89 el99 el109 el119 el129 el139 el149 exk9 emk9 ext9 emt9 exc9 emc9 exb9 emb9 exsh9 emsh9 exsp9 emsp9 emsm9 wn9 wt9 ld9 sk9 tc9 dc9 ds9 hdc9 hds9 hm9; exact False.elim (by omega)
    | succ n9 ih9 =>
      intro S86 qS86 g87 i9 k9 t9 c9 b9 sh9 sp9 sm9 hi9 hk9 ht9 hc9 hb9 hsh9 hsp9 hsm9 al9 si9 pi9 mp9 tw9 el09 el19 el29 el39 el49 el59 el69 el79 el89 el99 el109 el119 el129 el139 el149 exk9 emk9 ext9 emt9 exc9 emc9 exb9 emb9 exsh9 emsh9 exsp9 emsp9 emsm9 wn9 wt9 ld9 sk9 tc9 dc9 ds9 hdc9 hds9 hm9
      refine X_iload hK (i := 4) 0 dL_law_23 rfl ?_
      refine X_aloadn hK (i := 0) 4 dL_law_25 rfl rfl ?_
      refine X_sclen hK hX hbl hbA dL_law_26 ?_
      refine X_bipush hK dL_law_27 (by decide) ?_
      refine X_isub hK dL_law_29 ?_
      refine X_icmp_gt hK 1471 (by omega) (by omega) dL_law_30 (by decide) (fun c88 => ?_) (fun c88 => ?_)
      · refine X_iconst hK dL_law_1471 ?_
        exact hret _ _ _ _ _ _ dL_law_1472 (by omega) (by omega)
      · refine X_aloadn hK (i := 0) 4 dL_law_33 rfl rfl ?_
        refine X_iload hK (i := 4) 0 dL_law_34 rfl ?_
        refine X_scr hK hX hbl hbA hL (by omega) (by omega) dL_law_36 (fun z89 ez89 lz89 uz89 => ?_)
        refine X_bipush hK dL_law_37 (by decide) ?_
        refine X_iand hK dL_law_39 (fun z90 ez90 lz90 uz90 => ?_)
        have bz90 := xandB ez90 ⟨lz90, uz90⟩ (by omega)
        rcases (show (z90 < 0 ∨ 34 < z90) ∨ z90 = 0 ∨ z90 = 1 ∨ z90 = 2 ∨ z90 = 3 ∨ z90 = 4 ∨ z90 = 5 ∨ z90 = 6 ∨ z90 = 7 ∨ z90 = 8 ∨ z90 = 9 ∨ z90 = 10 ∨ z90 = 11 ∨ z90 = 12 ∨ z90 = 13 ∨ z90 = 14 ∨ z90 = 15 ∨ z90 = 16 ∨ z90 = 17 ∨ z90 = 18 ∨ z90 = 19 ∨ z90 = 20 ∨ z90 = 21 ∨ z90 = 22 ∨ z90 = 23 ∨ z90 = 24 ∨ z90 = 25 ∨ z90 = 26 ∨ z90 = 27 ∨ z90 = 28 ∨ z90 = 29 ∨ z90 = 30 ∨ z90 = 31 ∨ z90 = 32 ∨ z90 = 33 ∨ z90 = 34 by omega) with c91 | c91 | c91 | c91 | c91 | c91 | c91 | c91 | c91 | c91 | c91 | c91 | c91 | c91 | c91 | c91 | c91 | c91 | c91 | c91 | c91 | c91 | c91 | c91 | c91 | c91 | c91 | c91 | c91 | c91 | c91 | c91 | c91 | c91 | c91 | c91
        · refine X_tableOut hK 1465 (by omega) c91 dL_law_40 (by decide) ?_
          refine X_iinc hK (i := 4) (z := i9) (n := 6) 0 [(4, .int (iI (i9 + 6))), (3, .ref b82), (2, .ref b36), (1, .ref b1), (0, .ref b)] dL_law_1465 rfl (by decide) rfl ?_
          refine X_goto hK 23 dL_law_1468 (by decide) ?_
          exact ih9 S86 qS86 g87 (i9 + 6) k9 t9 c9 b9 sh9 sp9 sm9 (by omega) (by omega) (by omega) (by omega) (by omega) (by omega) (by omega) (by omega) al9 si9 pi9 mp9 tw9 el09 el19 el29 el39 el49 el59 el69 el79 el89 el99 el109 el119 el129 el139 el149 exk9 emk9 ext9 emt9 exc9 emc9 exb9 emb9 exsh9 emsh9 exsp9 emsp9 emsm9 wn9 (by exact wt9) (by exact ld9) (by exact sk9) (by exact xTc.mono tc9 (by omega)) dc9 ds9 (by omega) (by omega) (by omega)
        · refine X_tableIn hK 196 0 (by decide) c91 (by decide) (by decide) dL_law_40 rfl (by decide) ?_
          refine X_aloadn hK (i := 1) 3 dL_law_196 rfl rfl ?_
          refine X_aloadn hK (i := 0) 4 dL_law_197 rfl rfl ?_
          refine X_iload hK (i := 4) 0 dL_law_198 rfl ?_
          refine X_iconst hK dL_law_200 ?_
          refine X_iadd hK dL_law_201 ?_
          refine X_scr hK hX hbl hbA hL (by omega) (by omega) dL_law_202 (fun z92 ez92 lz92 uz92 => ?_)
          refine X_aloadn hK (i := 0) 4 dL_law_203 rfl rfl ?_
          refine X_iload hK (i := 4) 0 dL_law_204 rfl ?_
          refine X_iconst hK dL_law_206 ?_
          refine X_iadd hK dL_law_207 ?_
          refine X_scr hK hX hbl hbA hL (by omega) (by omega) dL_law_208 (fun z93 ez93 lz93 uz93 => ?_)
          refine X_aloadn hK (i := 0) 4 dL_law_209 rfl rfl ?_
          refine X_iload hK (i := 4) 0 dL_law_210 rfl ?_
          refine X_iconst hK dL_law_212 ?_
          refine X_iadd hK dL_law_213 ?_
          refine X_scr hK hX hbl hbA hL (by omega) (by omega) dL_law_214 (fun z94 ez94 lz94 uz94 => ?_)
          refine X_aloadn hK (i := 0) 4 dL_law_215 rfl rfl ?_
          refine X_iload hK (i := 4) 0 dL_law_216 rfl ?_
          refine X_iconst hK dL_law_218 ?_
          refine X_iadd hK dL_law_219 ?_
          refine X_scr hK hX hbl hbA hL (by omega) (by omega) dL_law_220 (fun z95 ez95 lz95 uz95 => ?_)
          refine X_aloadn hK (i := 0) 4 dL_law_221 rfl rfl ?_
          refine X_iload hK (i := 4) 0 dL_law_222 rfl ?_
          refine X_iconst hK dL_law_224 ?_
          refine X_iadd hK dL_law_225 ?_
          refine X_scr hK hX hbl hbA hL (by omega) (by omega) dL_law_226 (fun z96 ez96 lz96 uz96 => ?_)
          refine X_callV hK [.int (iI z92), .int (iI z93), .int (iI z94), .int (iI z95), .int (iI z96)] [] lk_L_23 (c_X11_feed _ _ _ _ _ S86 g87 b1 z92 z93 z94 z95 z96 b32 k9 b79 (qS86 _ _ (qb82 _ _ hk64)) (by omega) (by omega) (by omega) (by omega) (by omega) el09 (qS86 _ _ (qb82 _ _ hk70)) (by omega) exk9 el99 (qS86 _ _ (qb82 _ _ hs_b79))) (qS86 _ _ (qb82 _ _ hk64)) ⟨by decide, rfl⟩ dL_law_227 rfl rfl (by simp [Value.category]) (by decide) (by omega) (by omega) (by decide) (fun r97 S99 g98 pr97 qr97 hg98 => ?_)
          obtain ⟨rfl, z100, rfl, lz100, uz100, k101, k102, k103⟩ := pr97
          refine X_st [.int (iI z100)] rfl ?_
          refine X_pop hK dL_law_230 rfl ?_
          refine X_aloadn hK (i := 2) 2 dL_law_231 rfl rfl ?_
          refine X_aloadn hK (i := 0) 4 dL_law_232 rfl rfl ?_
          refine X_iload hK (i := 4) 0 dL_law_233 rfl ?_
          refine X_iconst hK dL_law_235 ?_
          refine X_iadd hK dL_law_236 ?_
          refine X_scrK hK hX hbl hbA hL (by omega) (by omega) ez92 dL_law_237 ?_
          refine X_aloadn hK (i := 0) 4 dL_law_238 rfl rfl ?_
          refine X_iload hK (i := 4) 0 dL_law_239 rfl ?_
          refine X_iconst hK dL_law_241 ?_
          refine X_iadd hK dL_law_242 ?_
          refine X_scrK hK hX hbl hbA hL (by omega) (by omega) ez93 dL_law_243 ?_
          refine X_aloadn hK (i := 0) 4 dL_law_244 rfl rfl ?_
          refine X_iload hK (i := 4) 0 dL_law_245 rfl ?_
          refine X_iconst hK dL_law_247 ?_
          refine X_iadd hK dL_law_248 ?_
          refine X_scrK hK hX hbl hbA hL (by omega) (by omega) ez94 dL_law_249 ?_
          refine X_aloadn hK (i := 0) 4 dL_law_250 rfl rfl ?_
          refine X_iload hK (i := 4) 0 dL_law_251 rfl ?_
          refine X_iconst hK dL_law_253 ?_
          refine X_iadd hK dL_law_254 ?_
          refine X_scrK hK hX hbl hbA hL (by omega) (by omega) ez95 dL_law_255 ?_
          refine X_aloadn hK (i := 0) 4 dL_law_256 rfl rfl ?_
          refine X_iload hK (i := 4) 0 dL_law_257 rfl ?_
          refine X_iconst hK dL_law_259 ?_
          refine X_iadd hK dL_law_260 ?_
          refine X_scrK hK hX hbl hbA hL (by omega) (by omega) ez96 dL_law_261 ?_
          refine X_callV hK [.int (iI z92), .int (iI z93), .int (iI z94), .int (iI z95), .int (iI z96)] [] lk_L_27 (c_X12_feed _ _ _ _ _ S86 g98 b36 z92 z93 z94 z95 z96 k9 b80 (qS86 _ _ (qb82 _ _ hs_y62)) (by omega) (by omega) (by omega) (by omega) (by omega) (by omega) ((hg98 b36 13 0 2 (qS86 _ _ (qb82 _ _ hs_y62)) (by decide)).trans emk9) ((hg98 b36 13 0 1 (qS86 _ _ (qb82 _ _ hs_y62)) (by decide)).trans el109) (qS86 _ _ (qb82 _ _ hs_b80))) (qS86 _ _ (qb82 _ _ hs_y62)) ⟨by decide, rfl⟩ dL_law_262 rfl rfl (by simp [Value.category]) (by decide) (by omega) (by omega) (by decide) (fun r104 S106 g105 pr104 qr104 hg105 => ?_)
          obtain ⟨rfl, z107, rfl, lz107, uz107, k108, k109, k110⟩ := pr104
          refine X_st [.int (iI z107)] rfl ?_
          refine X_pop hK dL_law_265 rfl ?_
          refine X_goto hK 1465 dL_law_266 (by decide) ?_
          refine X_iinc hK (i := 4) (z := i9) (n := 6) 0 [(4, .int (iI (i9 + 6))), (3, .ref b82), (2, .ref b36), (1, .ref b1), (0, .ref b)] dL_law_1465 rfl (by decide) rfl ?_
          refine X_goto hK 23 dL_law_1468 (by decide) ?_
          exact ih9 S86 qS86 g105 (i9 + 6) (if k9 ≤ 400 then k9 + 20 else k9) t9 c9 b9 sh9 sp9 sm9 (by omega) (by first | omega | (split <;> omega)) (by omega) (by omega) (by omega) (by omega) (by omega) (by omega) (xLs_mod (xLs_mod al9 hg98 (by decide)) hg105 (by decide)) si9 (xPi_m (xPi_m pi9 hg98 xLe.rf (by decide)) hg105 xLe.rf (by decide)) (xMp_m (xMp_m mp9 hg98 xLe.rf (by decide)) hg105 xLe.rf (by decide)) (xTw_m (xTw_m tw9 hg98 xLe.rf (by decide)) hg105 xLe.rf (by decide)) ((hg105 b1 12 0 0 (qS86 _ _ (qb82 _ _ hk64)) (by decide)).trans ((hg98 b1 12 0 0 (qS86 _ _ (qb82 _ _ hk64)) (by decide)).trans el09)) ((hg105 b1 12 0 3 (qS86 _ _ (qb82 _ _ hk64)) (by decide)).trans ((hg98 b1 12 0 3 (qS86 _ _ (qb82 _ _ hk64)) (by decide)).trans el19)) ((hg105 b1 12 0 1 (qS86 _ _ (qb82 _ _ hk64)) (by decide)).trans ((hg98 b1 12 0 1 (qS86 _ _ (qb82 _ _ hk64)) (by decide)).trans el29)) ((hg105 b34 6 0 1 (qS86 _ _ (qb82 _ _ hk72)) (by decide)).trans ((hg98 b34 6 0 1 (qS86 _ _ (qb82 _ _ hk72)) (by decide)).trans el39)) ((hg105 b1 12 0 2 (qS86 _ _ (qb82 _ _ hk64)) (by decide)).trans ((hg98 b1 12 0 2 (qS86 _ _ (qb82 _ _ hk64)) (by decide)).trans el49)) ((hg105 b18 4 0 0 (qS86 _ _ (qb82 _ _ hk65)) (by decide)).trans ((hg98 b18 4 0 0 (qS86 _ _ (qb82 _ _ hk65)) (by decide)).trans el59)) ((hg105 b18 4 0 2 (qS86 _ _ (qb82 _ _ hk65)) (by decide)).trans ((hg98 b18 4 0 2 (qS86 _ _ (qb82 _ _ hk65)) (by decide)).trans el69)) ((hg105 b18 4 0 3 (qS86 _ _ (qb82 _ _ hk65)) (by decide)).trans ((hg98 b18 4 0 3 (qS86 _ _ (qb82 _ _ hk65)) (by decide)).trans el79)) ((hg105 b18 4 0 4 (qS86 _ _ (qb82 _ _ hk65)) (by decide)).trans ((hg98 b18 4 0 4 (qS86 _ _ (qb82 _ _ hk65)) (by decide)).trans el89)) ((hg105 b32 10 0 0 (qS86 _ _ (qb82 _ _ hk70)) (by decide)).trans ((hg98 b32 10 0 0 (qS86 _ _ (qb82 _ _ hk70)) (by decide)).trans el99)) ((hg105 b36 13 0 1 (qS86 _ _ (qb82 _ _ hs_y62)) (by decide)).trans ((hg98 b36 13 0 1 (qS86 _ _ (qb82 _ _ hs_y62)) (by decide)).trans el109)) ((hg105 b36 13 0 10 (qS86 _ _ (qb82 _ _ hs_y62)) (by decide)).trans ((hg98 b36 13 0 10 (qS86 _ _ (qb82 _ _ hs_y62)) (by decide)).trans el119)) ((hg105 b36 13 0 13 (qS86 _ _ (qb82 _ _ hs_y62)) (by decide)).trans ((hg98 b36 13 0 13 (qS86 _ _ (qb82 _ _ hs_y62)) (by decide)).trans el129)) ((hg105 b36 13 0 14 (qS86 _ _ (qb82 _ _ hs_y62)) (by decide)).trans ((hg98 b36 13 0 14 (qS86 _ _ (qb82 _ _ hs_y62)) (by decide)).trans el139)) ((hg105 b36 13 0 12 (qS86 _ _ (qb82 _ _ hs_y62)) (by decide)).trans ((hg98 b36 13 0 12 (qS86 _ _ (qb82 _ _ hs_y62)) (by decide)).trans el149)) ((hg105 b32 10 0 1 (qS86 _ _ (qb82 _ _ hk70)) (by decide)).trans k101) k108 ((hg105 b1 12 0 12 (qS86 _ _ (qb82 _ _ hk64)) (by decide)).trans ((hg98 b1 12 0 12 (qS86 _ _ (qb82 _ _ hk64)) (by decide)).trans ext9)) ((hg105 b36 13 0 3 (qS86 _ _ (qb82 _ _ hs_y62)) (by decide)).trans ((hg98 b36 13 0 3 (qS86 _ _ (qb82 _ _ hs_y62)) (by decide)).trans emt9)) ((hg105 b33 5 0 3 (qS86 _ _ (qb82 _ _ hk71)) (by decide)).trans ((hg98 b33 5 0 3 (qS86 _ _ (qb82 _ _ hk71)) (by decide)).trans exc9)) ((hg105 b36 13 0 69 (qS86 _ _ (qb82 _ _ hs_y62)) (by decide)).trans ((hg98 b36 13 0 69 (qS86 _ _ (qb82 _ _ hs_y62)) (by decide)).trans emc9)) ((hg105 b35 0 0 2 (qS86 _ _ (qb82 _ _ hk73)) (by decide)).trans ((hg98 b35 0 0 2 (qS86 _ _ (qb82 _ _ hk73)) (by decide)).trans exb9)) ((hg105 b36 13 0 16 (qS86 _ _ (qb82 _ _ hs_y62)) (by decide)).trans ((hg98 b36 13 0 16 (qS86 _ _ (qb82 _ _ hs_y62)) (by decide)).trans emb9)) ((hg105 b1 12 0 16 (qS86 _ _ (qb82 _ _ hk64)) (by decide)).trans ((hg98 b1 12 0 16 (qS86 _ _ (qb82 _ _ hk64)) (by decide)).trans exsh9)) ((hg105 b36 13 0 89 (qS86 _ _ (qb82 _ _ hs_y62)) (by decide)).trans ((hg98 b36 13 0 89 (qS86 _ _ (qb82 _ _ hs_y62)) (by decide)).trans emsh9)) ((hg105 b1 12 0 17 (qS86 _ _ (qb82 _ _ hk64)) (by decide)).trans ((hg98 b1 12 0 17 (qS86 _ _ (qb82 _ _ hk64)) (by decide)).trans exsp9)) ((hg105 b36 13 0 90 (qS86 _ _ (qb82 _ _ hs_y62)) (by decide)).trans ((hg98 b36 13 0 90 (qS86 _ _ (qb82 _ _ hs_y62)) (by decide)).trans emsp9)) ((hg105 b36 13 0 17 (qS86 _ _ (qb82 _ _ hs_y62)) (by decide)).trans ((hg98 b36 13 0 17 (qS86 _ _ (qb82 _ _ hs_y62)) (by decide)).trans emsm9)) (xWn.m (xWn.m wn9 (qS86 _ _ (qb82 _ _ hk69)) (qS86 _ _ (qb82 _ _ hk76)) hg98 xLe.rf (by decide)) (qS86 _ _ (qb82 _ _ hk69)) (qS86 _ _ (qb82 _ _ hk76)) hg105 xLe.rf (by decide)) (by rw [(Eq.trans (xv_m hg105 (qS86 _ _ (qb82 _ _ hk67)) (by decide) (by decide)) (xv_m hg98 (qS86 _ _ (qb82 _ _ hk67)) (by decide) (by decide))), (Eq.trans (xv_m hg105 (qS86 _ _ (qb82 _ _ hk74)) (by decide) (by decide)) (xv_m hg98 (qS86 _ _ (qb82 _ _ hk74)) (by decide) (by decide)))]; exact wt9) (by rw [(Eq.trans (xv_m hg105 (qS86 _ _ (qb82 _ _ hk68)) (by decide) (by decide)) (xv_m hg98 (qS86 _ _ (qb82 _ _ hk68)) (by decide) (by decide))), (Eq.trans (xv_m hg105 (qS86 _ _ (qb82 _ _ hk75)) (by decide) (by decide)) (xv_m hg98 (qS86 _ _ (qb82 _ _ hk75)) (by decide) (by decide)))]; exact ld9) (by rw [(Eq.trans (xv_m hg105 (qS86 _ _ (qb82 _ _ hk66)) (by decide) (by decide)) (xv_m hg98 (qS86 _ _ (qb82 _ _ hk66)) (by decide) (by decide))), (Eq.trans (xv_m hg105 (qS86 _ _ (qb82 _ _ hs_b81)) (by decide) (by decide)) (xv_m hg98 (qS86 _ _ (qb82 _ _ hs_b81)) (by decide) (by decide)))]; exact sk9) (by rw [(xv_m hg105 (qS86 _ _ (qb82 _ _ hs_b79)) (by decide) (by decide))]; exact xTc.feed tc9 k103 (by rw [← (xv_m hg98 (qS86 _ _ (qb82 _ _ hs_b80)) (by decide) (by decide))]; exact k110)) dc9 ds9 (by omega) (by omega) (by omega)
        · refine X_tableIn hK 269 1 (by decide) c91 (by decide) (by decide) dL_law_40 rfl (by decide) ?_
          refine X_aloadn hK (i := 1) 3 dL_law_269 rfl rfl ?_
          refine X_aloadn hK (i := 0) 4 dL_law_270 rfl rfl ?_
          refine X_iload hK (i := 4) 0 dL_law_271 rfl ?_
          refine X_iconst hK dL_law_273 ?_
          refine X_iadd hK dL_law_274 ?_
          refine X_scr hK hX hbl hbA hL (by omega) (by omega) dL_law_275 (fun z111 ez111 lz111 uz111 => ?_)
          refine X_callV hK [.int (iI z111)] [] lk_L_28 (c_X11_end _ _ _ _ _ S86 g87 b1 z111 b32 k9 (qS86 _ _ (qb82 _ _ hk64)) (by omega) el09 (qS86 _ _ (qb82 _ _ hk70)) (by omega) exk9) (qS86 _ _ (qb82 _ _ hk64)) ⟨by decide, rfl⟩ dL_law_276 rfl rfl (by simp [Value.category]) (by decide) (by omega) (by omega) (by decide) (fun r112 S114 g113 pr112 qr112 hg113 => ?_)
          obtain ⟨rfl, z115, rfl, lz115, uz115, k116, k117⟩ := pr112
          refine X_st [.int (iI z115)] rfl ?_
          refine X_pop hK dL_law_279 rfl ?_
          refine X_aloadn hK (i := 2) 2 dL_law_280 rfl rfl ?_
          refine X_aloadn hK (i := 0) 4 dL_law_281 rfl rfl ?_
          refine X_iload hK (i := 4) 0 dL_law_282 rfl ?_
          refine X_iconst hK dL_law_284 ?_
          refine X_iadd hK dL_law_285 ?_
          refine X_scrK hK hX hbl hbA hL (by omega) (by omega) ez111 dL_law_286 ?_
          refine X_callV hK [.int (iI z111)] [] lk_L_32 (c_X12_end _ _ _ _ _ S86 g113 b36 z111 k9 (qS86 _ _ (qb82 _ _ hs_y62)) (by omega) (by omega) ((hg113 b36 13 0 2 (qS86 _ _ (qb82 _ _ hs_y62)) (by decide)).trans emk9)) (qS86 _ _ (qb82 _ _ hs_y62)) ⟨by decide, rfl⟩ dL_law_287 rfl rfl (by simp [Value.category]) (by decide) (by omega) (by omega) (by decide) (fun r118 S120 g119 pr118 qr118 hg119 => ?_)
          obtain ⟨rfl, z121, rfl, lz121, uz121, k122, k123⟩ := pr118
          refine X_st [.int (iI z121)] rfl ?_
          refine X_pop hK dL_law_290 rfl ?_
          refine X_goto hK 1465 dL_law_291 (by decide) ?_
          refine X_iinc hK (i := 4) (z := i9) (n := 6) 0 [(4, .int (iI (i9 + 6))), (3, .ref b82), (2, .ref b36), (1, .ref b1), (0, .ref b)] dL_law_1465 rfl (by decide) rfl ?_
          refine X_goto hK 23 dL_law_1468 (by decide) ?_
          exact ih9 S86 qS86 g119 (i9 + 6) (if 0 ≤ z111 ∧ z111 ≤ k9 then z111 else k9) t9 c9 b9 sh9 sp9 sm9 (by omega) (by first | omega | (split <;> omega)) (by omega) (by omega) (by omega) (by omega) (by omega) (by omega) (xLs_mod (xLs_mod al9 hg113 (by decide)) hg119 (by decide)) si9 (xPi_m (xPi_m pi9 hg113 xLe.rf (by decide)) hg119 xLe.rf (by decide)) (xMp_m (xMp_m mp9 hg113 xLe.rf (by decide)) hg119 xLe.rf (by decide)) (xTw_m (xTw_m tw9 hg113 xLe.rf (by decide)) hg119 xLe.rf (by decide)) ((hg119 b1 12 0 0 (qS86 _ _ (qb82 _ _ hk64)) (by decide)).trans ((hg113 b1 12 0 0 (qS86 _ _ (qb82 _ _ hk64)) (by decide)).trans el09)) ((hg119 b1 12 0 3 (qS86 _ _ (qb82 _ _ hk64)) (by decide)).trans ((hg113 b1 12 0 3 (qS86 _ _ (qb82 _ _ hk64)) (by decide)).trans el19)) ((hg119 b1 12 0 1 (qS86 _ _ (qb82 _ _ hk64)) (by decide)).trans ((hg113 b1 12 0 1 (qS86 _ _ (qb82 _ _ hk64)) (by decide)).trans el29)) ((hg119 b34 6 0 1 (qS86 _ _ (qb82 _ _ hk72)) (by decide)).trans ((hg113 b34 6 0 1 (qS86 _ _ (qb82 _ _ hk72)) (by decide)).trans el39)) ((hg119 b1 12 0 2 (qS86 _ _ (qb82 _ _ hk64)) (by decide)).trans ((hg113 b1 12 0 2 (qS86 _ _ (qb82 _ _ hk64)) (by decide)).trans el49)) ((hg119 b18 4 0 0 (qS86 _ _ (qb82 _ _ hk65)) (by decide)).trans ((hg113 b18 4 0 0 (qS86 _ _ (qb82 _ _ hk65)) (by decide)).trans el59)) ((hg119 b18 4 0 2 (qS86 _ _ (qb82 _ _ hk65)) (by decide)).trans ((hg113 b18 4 0 2 (qS86 _ _ (qb82 _ _ hk65)) (by decide)).trans el69)) ((hg119 b18 4 0 3 (qS86 _ _ (qb82 _ _ hk65)) (by decide)).trans ((hg113 b18 4 0 3 (qS86 _ _ (qb82 _ _ hk65)) (by decide)).trans el79)) ((hg119 b18 4 0 4 (qS86 _ _ (qb82 _ _ hk65)) (by decide)).trans ((hg113 b18 4 0 4 (qS86 _ _ (qb82 _ _ hk65)) (by decide)).trans el89)) ((hg119 b32 10 0 0 (qS86 _ _ (qb82 _ _ hk70)) (by decide)).trans ((hg113 b32 10 0 0 (qS86 _ _ (qb82 _ _ hk70)) (by decide)).trans el99)) ((hg119 b36 13 0 1 (qS86 _ _ (qb82 _ _ hs_y62)) (by decide)).trans ((hg113 b36 13 0 1 (qS86 _ _ (qb82 _ _ hs_y62)) (by decide)).trans el109)) ((hg119 b36 13 0 10 (qS86 _ _ (qb82 _ _ hs_y62)) (by decide)).trans ((hg113 b36 13 0 10 (qS86 _ _ (qb82 _ _ hs_y62)) (by decide)).trans el119)) ((hg119 b36 13 0 13 (qS86 _ _ (qb82 _ _ hs_y62)) (by decide)).trans ((hg113 b36 13 0 13 (qS86 _ _ (qb82 _ _ hs_y62)) (by decide)).trans el129)) ((hg119 b36 13 0 14 (qS86 _ _ (qb82 _ _ hs_y62)) (by decide)).trans ((hg113 b36 13 0 14 (qS86 _ _ (qb82 _ _ hs_y62)) (by decide)).trans el139)) ((hg119 b36 13 0 12 (qS86 _ _ (qb82 _ _ hs_y62)) (by decide)).trans ((hg113 b36 13 0 12 (qS86 _ _ (qb82 _ _ hs_y62)) (by decide)).trans el149)) ((hg119 b32 10 0 1 (qS86 _ _ (qb82 _ _ hk70)) (by decide)).trans k116) k122 ((hg119 b1 12 0 12 (qS86 _ _ (qb82 _ _ hk64)) (by decide)).trans ((hg113 b1 12 0 12 (qS86 _ _ (qb82 _ _ hk64)) (by decide)).trans ext9)) ((hg119 b36 13 0 3 (qS86 _ _ (qb82 _ _ hs_y62)) (by decide)).trans ((hg113 b36 13 0 3 (qS86 _ _ (qb82 _ _ hs_y62)) (by decide)).trans emt9)) ((hg119 b33 5 0 3 (qS86 _ _ (qb82 _ _ hk71)) (by decide)).trans ((hg113 b33 5 0 3 (qS86 _ _ (qb82 _ _ hk71)) (by decide)).trans exc9)) ((hg119 b36 13 0 69 (qS86 _ _ (qb82 _ _ hs_y62)) (by decide)).trans ((hg113 b36 13 0 69 (qS86 _ _ (qb82 _ _ hs_y62)) (by decide)).trans emc9)) ((hg119 b35 0 0 2 (qS86 _ _ (qb82 _ _ hk73)) (by decide)).trans ((hg113 b35 0 0 2 (qS86 _ _ (qb82 _ _ hk73)) (by decide)).trans exb9)) ((hg119 b36 13 0 16 (qS86 _ _ (qb82 _ _ hs_y62)) (by decide)).trans ((hg113 b36 13 0 16 (qS86 _ _ (qb82 _ _ hs_y62)) (by decide)).trans emb9)) ((hg119 b1 12 0 16 (qS86 _ _ (qb82 _ _ hk64)) (by decide)).trans ((hg113 b1 12 0 16 (qS86 _ _ (qb82 _ _ hk64)) (by decide)).trans exsh9)) ((hg119 b36 13 0 89 (qS86 _ _ (qb82 _ _ hs_y62)) (by decide)).trans ((hg113 b36 13 0 89 (qS86 _ _ (qb82 _ _ hs_y62)) (by decide)).trans emsh9)) ((hg119 b1 12 0 17 (qS86 _ _ (qb82 _ _ hk64)) (by decide)).trans ((hg113 b1 12 0 17 (qS86 _ _ (qb82 _ _ hk64)) (by decide)).trans exsp9)) ((hg119 b36 13 0 90 (qS86 _ _ (qb82 _ _ hs_y62)) (by decide)).trans ((hg113 b36 13 0 90 (qS86 _ _ (qb82 _ _ hs_y62)) (by decide)).trans emsp9)) ((hg119 b36 13 0 17 (qS86 _ _ (qb82 _ _ hs_y62)) (by decide)).trans ((hg113 b36 13 0 17 (qS86 _ _ (qb82 _ _ hs_y62)) (by decide)).trans emsm9)) (xWn.m (xWn.m wn9 (qS86 _ _ (qb82 _ _ hk69)) (qS86 _ _ (qb82 _ _ hk76)) hg113 xLe.rf (by decide)) (qS86 _ _ (qb82 _ _ hk69)) (qS86 _ _ (qb82 _ _ hk76)) hg119 xLe.rf (by decide)) (by rw [(Eq.trans (xv_m hg119 (qS86 _ _ (qb82 _ _ hk67)) (by decide) (by decide)) (xv_m hg113 (qS86 _ _ (qb82 _ _ hk67)) (by decide) (by decide))), (Eq.trans (xv_m hg119 (qS86 _ _ (qb82 _ _ hk74)) (by decide) (by decide)) (xv_m hg113 (qS86 _ _ (qb82 _ _ hk74)) (by decide) (by decide)))]; exact wt9) (by rw [(Eq.trans (xv_m hg119 (qS86 _ _ (qb82 _ _ hk68)) (by decide) (by decide)) (xv_m hg113 (qS86 _ _ (qb82 _ _ hk68)) (by decide) (by decide))), (Eq.trans (xv_m hg119 (qS86 _ _ (qb82 _ _ hk75)) (by decide) (by decide)) (xv_m hg113 (qS86 _ _ (qb82 _ _ hk75)) (by decide) (by decide)))]; exact ld9) (by rw [(Eq.trans (xv_m hg119 (qS86 _ _ (qb82 _ _ hk66)) (by decide) (by decide)) (xv_m hg113 (qS86 _ _ (qb82 _ _ hk66)) (by decide) (by decide))), (Eq.trans (xv_m hg119 (qS86 _ _ (qb82 _ _ hs_b81)) (by decide) (by decide)) (xv_m hg113 (qS86 _ _ (qb82 _ _ hs_b81)) (by decide) (by decide)))]; exact sk9) (by rw [(Eq.trans (xv_m hg119 (qS86 _ _ (qb82 _ _ hs_b79)) (by decide) (by decide)) (xv_m hg113 (qS86 _ _ (qb82 _ _ hs_b79)) (by decide) (by decide))), (Eq.trans (xv_m hg119 (qS86 _ _ (qb82 _ _ hs_b80)) (by decide) (by decide)) (xv_m hg113 (qS86 _ _ (qb82 _ _ hs_b80)) (by decide) (by decide)))]; exact xTc.mono tc9 (by omega)) dc9 ds9 (by omega) (by omega) (by omega)
        · refine X_tableIn hK 294 2 (by decide) c91 (by decide) (by decide) dL_law_40 rfl (by decide) ?_
          refine X_aloadn hK (i := 1) 3 dL_law_294 rfl rfl ?_
          refine X_aloadn hK (i := 0) 4 dL_law_295 rfl rfl ?_
          refine X_iload hK (i := 4) 0 dL_law_296 rfl ?_
          refine X_iconst hK dL_law_298 ?_
          refine X_iadd hK dL_law_299 ?_
          refine X_scr hK hX hbl hbA hL (by omega) (by omega) dL_law_300 (fun z124 ez124 lz124 uz124 => ?_)
          refine X_aloadn hK (i := 0) 4 dL_law_301 rfl rfl ?_
          refine X_iload hK (i := 4) 0 dL_law_302 rfl ?_
          refine X_iconst hK dL_law_304 ?_
          refine X_iadd hK dL_law_305 ?_
          refine X_scr hK hX hbl hbA hL (by omega) (by omega) dL_law_306 (fun z125 ez125 lz125 uz125 => ?_)
          refine X_if_eq hK 314 (by omega) dL_law_307 (by decide) (fun c126 => ?_) (fun c126 => ?_)
          · refine X_iconst hK dL_law_314 ?_
            refine X_aloadn hK (i := 0) 4 dL_law_315 rfl rfl ?_
            refine X_iload hK (i := 4) 0 dL_law_316 rfl ?_
            refine X_iconst hK dL_law_318 ?_
            refine X_iadd hK dL_law_319 ?_
            refine X_scr hK hX hbl hbA hL (by omega) (by omega) dL_law_320 (fun z127 ez127 lz127 uz127 => ?_)
            refine X_aloadn hK (i := 0) 4 dL_law_321 rfl rfl ?_
            refine X_iload hK (i := 4) 0 dL_law_322 rfl ?_
            refine X_iconst hK dL_law_324 ?_
            refine X_iadd hK dL_law_325 ?_
            refine X_scr hK hX hbl hbA hL (by omega) (by omega) dL_law_326 (fun z128 ez128 lz128 uz128 => ?_)
            refine X_callVU hK [.int (iI z124), .int (iI 0), .int (iI z127), .int (iI z128)] [] lk_L_33 (c_X11_boy _ _ _ _ _ S86 g87 b1 z124 0 z127 z128 b34 b35 b9 (qS86 _ _ (qb82 _ _ hk64)) (by omega) (by omega) (by omega) (by omega) el29 (qS86 _ _ (qb82 _ _ hk72)) el39 (qS86 _ _ (qb82 _ _ hk73)) (by omega) exb9 al9 si9) (qS86 _ _ (qb82 _ _ hk64)) ⟨by decide, rfl⟩ dL_law_327 rfl rfl (by simp [Value.category]) (by decide) (by omega) (by omega) (by decide) (fun r129 S131 g130 dcr129 dsr129 pr129 qr129 hg130 => ?_)
            obtain ⟨wr129, z132, rfl, lz132, uz132, k133, k134, k135, k136, k137⟩ := pr129
            refine X_st [.int (iI z132)] rfl ?_
            refine X_aloadn hK (i := 2) 2 dL_law_330 rfl rfl ?_
            refine X_aloadn hK (i := 0) 4 dL_law_331 rfl rfl ?_
            refine X_iload hK (i := 4) 0 dL_law_332 rfl ?_
            refine X_iconst hK dL_law_334 ?_
            refine X_iadd hK dL_law_335 ?_
            refine X_scrK hK hX hbl hbA hL (by omega) (by omega) ez124 dL_law_336 ?_
            refine X_aloadn hK (i := 0) 4 dL_law_337 rfl rfl ?_
            refine X_iload hK (i := 4) 0 dL_law_338 rfl ?_
            refine X_iconst hK dL_law_340 ?_
            refine X_iadd hK dL_law_341 ?_
            refine X_scrK hK hX hbl hbA hL (by omega) (by omega) ez125 dL_law_342 ?_
            refine X_if_eq hK 350 (by omega) dL_law_343 (by decide) (fun c138 => ?_) (fun c138 => False.elim (by omega))
            refine X_iconst hK dL_law_350 ?_
            refine X_aloadn hK (i := 0) 4 dL_law_351 rfl rfl ?_
            refine X_iload hK (i := 4) 0 dL_law_352 rfl ?_
            refine X_iconst hK dL_law_354 ?_
            refine X_iadd hK dL_law_355 ?_
            refine X_scrK hK hX hbl hbA hL (by omega) (by omega) ez127 dL_law_356 ?_
            refine X_aloadn hK (i := 0) 4 dL_law_357 rfl rfl ?_
            refine X_iload hK (i := 4) 0 dL_law_358 rfl ?_
            refine X_iconst hK dL_law_360 ?_
            refine X_iadd hK dL_law_361 ?_
            refine X_scrK hK hX hbl hbA hL (by omega) (by omega) ez128 dL_law_362 ?_
            refine X_callV hK [.int (iI z124), .int (iI 0), .int (iI z127), .int (iI z128)] [.int (iI z132)] lk_L_37 (c_X12_boy _ _ _ _ _ S131 g130 b36 z124 0 z127 z128 b9 (qr129 _ _ (qS86 _ _ (qb82 _ _ hs_y62))) (by omega) (by omega) (by omega) (by omega) (by omega) ((hg130 b36 13 0 16 (qS86 _ _ (qb82 _ _ hs_y62)) (by decide)).trans emb9)) (qr129 _ _ (qS86 _ _ (qb82 _ _ hs_y62))) ⟨by decide, rfl⟩ dL_law_363 rfl rfl (by simp [Value.category]) (by decide) (by omega) (by omega) (by decide) (fun r139 S141 g140 pr139 qr139 hg140 => ?_)
            obtain ⟨rfl, z142, rfl, lz142, uz142, k143, k144⟩ := pr139
            refine X_st [.int (iI z142), .int (iI z132)] rfl ?_
            refine X_icmp_eq hK 1465 (by omega) (by omega) dL_law_366 (by decide) (fun c145 => ?_) (fun c145 => False.elim (by omega))
            refine X_iinc hK (i := 4) (z := i9) (n := 6) 0 [(4, .int (iI (i9 + 6))), (3, .ref b82), (2, .ref b36), (1, .ref b1), (0, .ref b)] dL_law_1465 rfl (by decide) rfl ?_
            refine X_goto hK 23 dL_law_1468 (by decide) ?_
            exact ih9 S131 (xLe.tr qS86 qr129) g140 (i9 + 6) k9 t9 c9 (if b9 < 40 ∧ 6 ≤ z124 ∧ z124 ≤ 18 ∧ -1 ≤ z127 ∧ z127 ≤ 399 ∧ 0 ≤ z128 ∧ z128 ≤ 99 then b9 + 1 else b9) sh9 sp9 sm9 (by omega) (by omega) (by omega) (by omega) (by first | omega | (split <;> omega)) (by omega) (by omega) (by omega) (xLs_mod k133 hg140 (by decide)) k134 (xPi_m (xPi_m pi9 hg130 qr129 (by decide)) hg140 xLe.rf (by decide)) (xMp_m (xMp_m mp9 hg130 qr129 (by decide)) hg140 xLe.rf (by decide)) (xTw_m (xTw_m tw9 hg130 qr129 (by decide)) hg140 xLe.rf (by decide)) ((hg140 b1 12 0 0 (qr129 _ _ (qS86 _ _ (qb82 _ _ hk64))) (by decide)).trans ((hg130 b1 12 0 0 (qS86 _ _ (qb82 _ _ hk64)) (by decide)).trans el09)) ((hg140 b1 12 0 3 (qr129 _ _ (qS86 _ _ (qb82 _ _ hk64))) (by decide)).trans ((hg130 b1 12 0 3 (qS86 _ _ (qb82 _ _ hk64)) (by decide)).trans el19)) ((hg140 b1 12 0 1 (qr129 _ _ (qS86 _ _ (qb82 _ _ hk64))) (by decide)).trans ((hg130 b1 12 0 1 (qS86 _ _ (qb82 _ _ hk64)) (by decide)).trans el29)) ((hg140 b34 6 0 1 (qr129 _ _ (qS86 _ _ (qb82 _ _ hk72))) (by decide)).trans ((hg130 b34 6 0 1 (qS86 _ _ (qb82 _ _ hk72)) (by decide)).trans el39)) ((hg140 b1 12 0 2 (qr129 _ _ (qS86 _ _ (qb82 _ _ hk64))) (by decide)).trans ((hg130 b1 12 0 2 (qS86 _ _ (qb82 _ _ hk64)) (by decide)).trans el49)) ((hg140 b18 4 0 0 (qr129 _ _ (qS86 _ _ (qb82 _ _ hk65))) (by decide)).trans ((hg130 b18 4 0 0 (qS86 _ _ (qb82 _ _ hk65)) (by decide)).trans el59)) ((hg140 b18 4 0 2 (qr129 _ _ (qS86 _ _ (qb82 _ _ hk65))) (by decide)).trans ((hg130 b18 4 0 2 (qS86 _ _ (qb82 _ _ hk65)) (by decide)).trans el69)) ((hg140 b18 4 0 3 (qr129 _ _ (qS86 _ _ (qb82 _ _ hk65))) (by decide)).trans ((hg130 b18 4 0 3 (qS86 _ _ (qb82 _ _ hk65)) (by decide)).trans el79)) ((hg140 b18 4 0 4 (qr129 _ _ (qS86 _ _ (qb82 _ _ hk65))) (by decide)).trans ((hg130 b18 4 0 4 (qS86 _ _ (qb82 _ _ hk65)) (by decide)).trans el89)) ((hg140 b32 10 0 0 (qr129 _ _ (qS86 _ _ (qb82 _ _ hk70))) (by decide)).trans ((hg130 b32 10 0 0 (qS86 _ _ (qb82 _ _ hk70)) (by decide)).trans el99)) ((hg140 b36 13 0 1 (qr129 _ _ (qS86 _ _ (qb82 _ _ hs_y62))) (by decide)).trans ((hg130 b36 13 0 1 (qS86 _ _ (qb82 _ _ hs_y62)) (by decide)).trans el109)) ((hg140 b36 13 0 10 (qr129 _ _ (qS86 _ _ (qb82 _ _ hs_y62))) (by decide)).trans ((hg130 b36 13 0 10 (qS86 _ _ (qb82 _ _ hs_y62)) (by decide)).trans el119)) ((hg140 b36 13 0 13 (qr129 _ _ (qS86 _ _ (qb82 _ _ hs_y62))) (by decide)).trans ((hg130 b36 13 0 13 (qS86 _ _ (qb82 _ _ hs_y62)) (by decide)).trans el129)) ((hg140 b36 13 0 14 (qr129 _ _ (qS86 _ _ (qb82 _ _ hs_y62))) (by decide)).trans ((hg130 b36 13 0 14 (qS86 _ _ (qb82 _ _ hs_y62)) (by decide)).trans el139)) ((hg140 b36 13 0 12 (qr129 _ _ (qS86 _ _ (qb82 _ _ hs_y62))) (by decide)).trans ((hg130 b36 13 0 12 (qS86 _ _ (qb82 _ _ hs_y62)) (by decide)).trans el149)) ((hg140 b32 10 0 1 (qr129 _ _ (qS86 _ _ (qb82 _ _ hk70))) (by decide)).trans ((hg130 b32 10 0 1 (qS86 _ _ (qb82 _ _ hk70)) (by decide)).trans exk9)) ((hg140 b36 13 0 2 (qr129 _ _ (qS86 _ _ (qb82 _ _ hs_y62))) (by decide)).trans ((hg130 b36 13 0 2 (qS86 _ _ (qb82 _ _ hs_y62)) (by decide)).trans emk9)) ((hg140 b1 12 0 12 (qr129 _ _ (qS86 _ _ (qb82 _ _ hk64))) (by decide)).trans ((hg130 b1 12 0 12 (qS86 _ _ (qb82 _ _ hk64)) (by decide)).trans ext9)) ((hg140 b36 13 0 3 (qr129 _ _ (qS86 _ _ (qb82 _ _ hs_y62))) (by decide)).trans ((hg130 b36 13 0 3 (qS86 _ _ (qb82 _ _ hs_y62)) (by decide)).trans emt9)) ((hg140 b33 5 0 3 (qr129 _ _ (qS86 _ _ (qb82 _ _ hk71))) (by decide)).trans ((hg130 b33 5 0 3 (qS86 _ _ (qb82 _ _ hk71)) (by decide)).trans exc9)) ((hg140 b36 13 0 69 (qr129 _ _ (qS86 _ _ (qb82 _ _ hs_y62))) (by decide)).trans ((hg130 b36 13 0 69 (qS86 _ _ (qb82 _ _ hs_y62)) (by decide)).trans emc9)) ((hg140 b35 0 0 2 (qr129 _ _ (qS86 _ _ (qb82 _ _ hk73))) (by decide)).trans k137) k144 ((hg140 b1 12 0 16 (qr129 _ _ (qS86 _ _ (qb82 _ _ hk64))) (by decide)).trans ((hg130 b1 12 0 16 (qS86 _ _ (qb82 _ _ hk64)) (by decide)).trans exsh9)) ((hg140 b36 13 0 89 (qr129 _ _ (qS86 _ _ (qb82 _ _ hs_y62))) (by decide)).trans ((hg130 b36 13 0 89 (qS86 _ _ (qb82 _ _ hs_y62)) (by decide)).trans emsh9)) ((hg140 b1 12 0 17 (qr129 _ _ (qS86 _ _ (qb82 _ _ hk64))) (by decide)).trans ((hg130 b1 12 0 17 (qS86 _ _ (qb82 _ _ hk64)) (by decide)).trans exsp9)) ((hg140 b36 13 0 90 (qr129 _ _ (qS86 _ _ (qb82 _ _ hs_y62))) (by decide)).trans ((hg130 b36 13 0 90 (qS86 _ _ (qb82 _ _ hs_y62)) (by decide)).trans emsp9)) ((hg140 b36 13 0 17 (qr129 _ _ (qS86 _ _ (qb82 _ _ hs_y62))) (by decide)).trans ((hg130 b36 13 0 17 (qS86 _ _ (qb82 _ _ hs_y62)) (by decide)).trans emsm9)) (xWn.m (xWn.m wn9 (qS86 _ _ (qb82 _ _ hk69)) (qS86 _ _ (qb82 _ _ hk76)) hg130 qr129 (by decide)) (qr129 _ _ (qS86 _ _ (qb82 _ _ hk69))) (qr129 _ _ (qS86 _ _ (qb82 _ _ hk76))) hg140 xLe.rf (by decide)) (by rw [(Eq.trans (xv_m hg140 (qr129 _ _ (qS86 _ _ (qb82 _ _ hk67))) (by decide) (by decide)) (xv_m hg130 (qS86 _ _ (qb82 _ _ hk67)) (by decide) (by decide))), (Eq.trans (xv_m hg140 (qr129 _ _ (qS86 _ _ (qb82 _ _ hk74))) (by decide) (by decide)) (xv_m hg130 (qS86 _ _ (qb82 _ _ hk74)) (by decide) (by decide)))]; exact wt9) (by rw [(Eq.trans (xv_m hg140 (qr129 _ _ (qS86 _ _ (qb82 _ _ hk68))) (by decide) (by decide)) (xv_m hg130 (qS86 _ _ (qb82 _ _ hk68)) (by decide) (by decide))), (Eq.trans (xv_m hg140 (qr129 _ _ (qS86 _ _ (qb82 _ _ hk75))) (by decide) (by decide)) (xv_m hg130 (qS86 _ _ (qb82 _ _ hk75)) (by decide) (by decide)))]; exact ld9) (by rw [(Eq.trans (xv_m hg140 (qr129 _ _ (qS86 _ _ (qb82 _ _ hk66))) (by decide) (by decide)) (xv_m hg130 (qS86 _ _ (qb82 _ _ hk66)) (by decide) (by decide))), (Eq.trans (xv_m hg140 (qr129 _ _ (qS86 _ _ (qb82 _ _ hs_b81))) (by decide) (by decide)) (xv_m hg130 (qS86 _ _ (qb82 _ _ hs_b81)) (by decide) (by decide)))]; exact sk9) (by rw [(Eq.trans (xv_m hg140 (qr129 _ _ (qS86 _ _ (qb82 _ _ hs_b79))) (by decide) (by decide)) (xv_m hg130 (qS86 _ _ (qb82 _ _ hs_b79)) (by decide) (by decide))), (Eq.trans (xv_m hg140 (qr129 _ _ (qS86 _ _ (qb82 _ _ hs_b80))) (by decide) (by decide)) (xv_m hg130 (qS86 _ _ (qb82 _ _ hs_b80)) (by decide) (by decide)))]; exact xTc.mono tc9 (by omega)) (dc9 + dcr129) (ds9 + dsr129) (by omega) (by omega) (by omega)
          · refine X_iconst hK dL_law_310 ?_
            refine X_goto hK 315 dL_law_311 (by decide) ?_
            refine X_aloadn hK (i := 0) 4 dL_law_315 rfl rfl ?_
            refine X_iload hK (i := 4) 0 dL_law_316 rfl ?_
            refine X_iconst hK dL_law_318 ?_
            refine X_iadd hK dL_law_319 ?_
            refine X_scr hK hX hbl hbA hL (by omega) (by omega) dL_law_320 (fun z146 ez146 lz146 uz146 => ?_)
            refine X_aloadn hK (i := 0) 4 dL_law_321 rfl rfl ?_
            refine X_iload hK (i := 4) 0 dL_law_322 rfl ?_
            refine X_iconst hK dL_law_324 ?_
            refine X_iadd hK dL_law_325 ?_
            refine X_scr hK hX hbl hbA hL (by omega) (by omega) dL_law_326 (fun z147 ez147 lz147 uz147 => ?_)
            refine X_callVU hK [.int (iI z124), .int (iI 1), .int (iI z146), .int (iI z147)] [] lk_L_33 (c_X11_boy _ _ _ _ _ S86 g87 b1 z124 1 z146 z147 b34 b35 b9 (qS86 _ _ (qb82 _ _ hk64)) (by omega) (by omega) (by omega) (by omega) el29 (qS86 _ _ (qb82 _ _ hk72)) el39 (qS86 _ _ (qb82 _ _ hk73)) (by omega) exb9 al9 si9) (qS86 _ _ (qb82 _ _ hk64)) ⟨by decide, rfl⟩ dL_law_327 rfl rfl (by simp [Value.category]) (by decide) (by omega) (by omega) (by decide) (fun r148 S150 g149 dcr148 dsr148 pr148 qr148 hg149 => ?_)
            obtain ⟨wr148, z151, rfl, lz151, uz151, k152, k153, k154, k155, k156⟩ := pr148
            refine X_st [.int (iI z151)] rfl ?_
            refine X_aloadn hK (i := 2) 2 dL_law_330 rfl rfl ?_
            refine X_aloadn hK (i := 0) 4 dL_law_331 rfl rfl ?_
            refine X_iload hK (i := 4) 0 dL_law_332 rfl ?_
            refine X_iconst hK dL_law_334 ?_
            refine X_iadd hK dL_law_335 ?_
            refine X_scrK hK hX hbl hbA hL (by omega) (by omega) ez124 dL_law_336 ?_
            refine X_aloadn hK (i := 0) 4 dL_law_337 rfl rfl ?_
            refine X_iload hK (i := 4) 0 dL_law_338 rfl ?_
            refine X_iconst hK dL_law_340 ?_
            refine X_iadd hK dL_law_341 ?_
            refine X_scrK hK hX hbl hbA hL (by omega) (by omega) ez125 dL_law_342 ?_
            refine X_if_eq hK 350 (by omega) dL_law_343 (by decide) (fun c157 => ?_) (fun c157 => ?_)
            · refine X_iconst hK dL_law_350 ?_
              refine X_aloadn hK (i := 0) 4 dL_law_351 rfl rfl ?_
              refine X_iload hK (i := 4) 0 dL_law_352 rfl ?_
              refine X_iconst hK dL_law_354 ?_
              refine X_iadd hK dL_law_355 ?_
              refine X_scrK hK hX hbl hbA hL (by omega) (by omega) ez146 dL_law_356 ?_
              refine X_aloadn hK (i := 0) 4 dL_law_357 rfl rfl ?_
              refine X_iload hK (i := 4) 0 dL_law_358 rfl ?_
              refine X_iconst hK dL_law_360 ?_
              refine X_iadd hK dL_law_361 ?_
              refine X_scrK hK hX hbl hbA hL (by omega) (by omega) ez147 dL_law_362 ?_
              refine X_callV hK [.int (iI z124), .int (iI 0), .int (iI z146), .int (iI z147)] [.int (iI z151)] lk_L_37 (c_X12_boy _ _ _ _ _ S150 g149 b36 z124 0 z146 z147 b9 (qr148 _ _ (qS86 _ _ (qb82 _ _ hs_y62))) (by omega) (by omega) (by omega) (by omega) (by omega) ((hg149 b36 13 0 16 (qS86 _ _ (qb82 _ _ hs_y62)) (by decide)).trans emb9)) (qr148 _ _ (qS86 _ _ (qb82 _ _ hs_y62))) ⟨by decide, rfl⟩ dL_law_363 rfl rfl (by simp [Value.category]) (by decide) (by omega) (by omega) (by decide) (fun r158 S160 g159 pr158 qr158 hg159 => ?_)
              obtain ⟨rfl, z161, rfl, lz161, uz161, k162, k163⟩ := pr158
              refine X_st [.int (iI z161), .int (iI z151)] rfl ?_
              refine X_icmp_eq hK 1465 (by omega) (by omega) dL_law_366 (by decide) (fun c164 => ?_) (fun c164 => False.elim (by omega))
              refine X_iinc hK (i := 4) (z := i9) (n := 6) 0 [(4, .int (iI (i9 + 6))), (3, .ref b82), (2, .ref b36), (1, .ref b1), (0, .ref b)] dL_law_1465 rfl (by decide) rfl ?_
              refine X_goto hK 23 dL_law_1468 (by decide) ?_
              exact ih9 S150 (xLe.tr qS86 qr148) g159 (i9 + 6) k9 t9 c9 (if b9 < 40 ∧ 6 ≤ z124 ∧ z124 ≤ 18 ∧ -1 ≤ z146 ∧ z146 ≤ 399 ∧ 0 ≤ z147 ∧ z147 ≤ 99 then b9 + 1 else b9) sh9 sp9 sm9 (by omega) (by omega) (by omega) (by omega) (by first | omega | (split <;> omega)) (by omega) (by omega) (by omega) (xLs_mod k152 hg159 (by decide)) k153 (xPi_m (xPi_m pi9 hg149 qr148 (by decide)) hg159 xLe.rf (by decide)) (xMp_m (xMp_m mp9 hg149 qr148 (by decide)) hg159 xLe.rf (by decide)) (xTw_m (xTw_m tw9 hg149 qr148 (by decide)) hg159 xLe.rf (by decide)) ((hg159 b1 12 0 0 (qr148 _ _ (qS86 _ _ (qb82 _ _ hk64))) (by decide)).trans ((hg149 b1 12 0 0 (qS86 _ _ (qb82 _ _ hk64)) (by decide)).trans el09)) ((hg159 b1 12 0 3 (qr148 _ _ (qS86 _ _ (qb82 _ _ hk64))) (by decide)).trans ((hg149 b1 12 0 3 (qS86 _ _ (qb82 _ _ hk64)) (by decide)).trans el19)) ((hg159 b1 12 0 1 (qr148 _ _ (qS86 _ _ (qb82 _ _ hk64))) (by decide)).trans ((hg149 b1 12 0 1 (qS86 _ _ (qb82 _ _ hk64)) (by decide)).trans el29)) ((hg159 b34 6 0 1 (qr148 _ _ (qS86 _ _ (qb82 _ _ hk72))) (by decide)).trans ((hg149 b34 6 0 1 (qS86 _ _ (qb82 _ _ hk72)) (by decide)).trans el39)) ((hg159 b1 12 0 2 (qr148 _ _ (qS86 _ _ (qb82 _ _ hk64))) (by decide)).trans ((hg149 b1 12 0 2 (qS86 _ _ (qb82 _ _ hk64)) (by decide)).trans el49)) ((hg159 b18 4 0 0 (qr148 _ _ (qS86 _ _ (qb82 _ _ hk65))) (by decide)).trans ((hg149 b18 4 0 0 (qS86 _ _ (qb82 _ _ hk65)) (by decide)).trans el59)) ((hg159 b18 4 0 2 (qr148 _ _ (qS86 _ _ (qb82 _ _ hk65))) (by decide)).trans ((hg149 b18 4 0 2 (qS86 _ _ (qb82 _ _ hk65)) (by decide)).trans el69)) ((hg159 b18 4 0 3 (qr148 _ _ (qS86 _ _ (qb82 _ _ hk65))) (by decide)).trans ((hg149 b18 4 0 3 (qS86 _ _ (qb82 _ _ hk65)) (by decide)).trans el79)) ((hg159 b18 4 0 4 (qr148 _ _ (qS86 _ _ (qb82 _ _ hk65))) (by decide)).trans ((hg149 b18 4 0 4 (qS86 _ _ (qb82 _ _ hk65)) (by decide)).trans el89)) ((hg159 b32 10 0 0 (qr148 _ _ (qS86 _ _ (qb82 _ _ hk70))) (by decide)).trans ((hg149 b32 10 0 0 (qS86 _ _ (qb82 _ _ hk70)) (by decide)).trans el99)) ((hg159 b36 13 0 1 (qr148 _ _ (qS86 _ _ (qb82 _ _ hs_y62))) (by decide)).trans ((hg149 b36 13 0 1 (qS86 _ _ (qb82 _ _ hs_y62)) (by decide)).trans el109)) ((hg159 b36 13 0 10 (qr148 _ _ (qS86 _ _ (qb82 _ _ hs_y62))) (by decide)).trans ((hg149 b36 13 0 10 (qS86 _ _ (qb82 _ _ hs_y62)) (by decide)).trans el119)) ((hg159 b36 13 0 13 (qr148 _ _ (qS86 _ _ (qb82 _ _ hs_y62))) (by decide)).trans ((hg149 b36 13 0 13 (qS86 _ _ (qb82 _ _ hs_y62)) (by decide)).trans el129)) ((hg159 b36 13 0 14 (qr148 _ _ (qS86 _ _ (qb82 _ _ hs_y62))) (by decide)).trans ((hg149 b36 13 0 14 (qS86 _ _ (qb82 _ _ hs_y62)) (by decide)).trans el139)) ((hg159 b36 13 0 12 (qr148 _ _ (qS86 _ _ (qb82 _ _ hs_y62))) (by decide)).trans ((hg149 b36 13 0 12 (qS86 _ _ (qb82 _ _ hs_y62)) (by decide)).trans el149)) ((hg159 b32 10 0 1 (qr148 _ _ (qS86 _ _ (qb82 _ _ hk70))) (by decide)).trans ((hg149 b32 10 0 1 (qS86 _ _ (qb82 _ _ hk70)) (by decide)).trans exk9)) ((hg159 b36 13 0 2 (qr148 _ _ (qS86 _ _ (qb82 _ _ hs_y62))) (by decide)).trans ((hg149 b36 13 0 2 (qS86 _ _ (qb82 _ _ hs_y62)) (by decide)).trans emk9)) ((hg159 b1 12 0 12 (qr148 _ _ (qS86 _ _ (qb82 _ _ hk64))) (by decide)).trans ((hg149 b1 12 0 12 (qS86 _ _ (qb82 _ _ hk64)) (by decide)).trans ext9)) ((hg159 b36 13 0 3 (qr148 _ _ (qS86 _ _ (qb82 _ _ hs_y62))) (by decide)).trans ((hg149 b36 13 0 3 (qS86 _ _ (qb82 _ _ hs_y62)) (by decide)).trans emt9)) ((hg159 b33 5 0 3 (qr148 _ _ (qS86 _ _ (qb82 _ _ hk71))) (by decide)).trans ((hg149 b33 5 0 3 (qS86 _ _ (qb82 _ _ hk71)) (by decide)).trans exc9)) ((hg159 b36 13 0 69 (qr148 _ _ (qS86 _ _ (qb82 _ _ hs_y62))) (by decide)).trans ((hg149 b36 13 0 69 (qS86 _ _ (qb82 _ _ hs_y62)) (by decide)).trans emc9)) ((hg159 b35 0 0 2 (qr148 _ _ (qS86 _ _ (qb82 _ _ hk73))) (by decide)).trans k156) k163 ((hg159 b1 12 0 16 (qr148 _ _ (qS86 _ _ (qb82 _ _ hk64))) (by decide)).trans ((hg149 b1 12 0 16 (qS86 _ _ (qb82 _ _ hk64)) (by decide)).trans exsh9)) ((hg159 b36 13 0 89 (qr148 _ _ (qS86 _ _ (qb82 _ _ hs_y62))) (by decide)).trans ((hg149 b36 13 0 89 (qS86 _ _ (qb82 _ _ hs_y62)) (by decide)).trans emsh9)) ((hg159 b1 12 0 17 (qr148 _ _ (qS86 _ _ (qb82 _ _ hk64))) (by decide)).trans ((hg149 b1 12 0 17 (qS86 _ _ (qb82 _ _ hk64)) (by decide)).trans exsp9)) ((hg159 b36 13 0 90 (qr148 _ _ (qS86 _ _ (qb82 _ _ hs_y62))) (by decide)).trans ((hg149 b36 13 0 90 (qS86 _ _ (qb82 _ _ hs_y62)) (by decide)).trans emsp9)) ((hg159 b36 13 0 17 (qr148 _ _ (qS86 _ _ (qb82 _ _ hs_y62))) (by decide)).trans ((hg149 b36 13 0 17 (qS86 _ _ (qb82 _ _ hs_y62)) (by decide)).trans emsm9)) (xWn.m (xWn.m wn9 (qS86 _ _ (qb82 _ _ hk69)) (qS86 _ _ (qb82 _ _ hk76)) hg149 qr148 (by decide)) (qr148 _ _ (qS86 _ _ (qb82 _ _ hk69))) (qr148 _ _ (qS86 _ _ (qb82 _ _ hk76))) hg159 xLe.rf (by decide)) (by rw [(Eq.trans (xv_m hg159 (qr148 _ _ (qS86 _ _ (qb82 _ _ hk67))) (by decide) (by decide)) (xv_m hg149 (qS86 _ _ (qb82 _ _ hk67)) (by decide) (by decide))), (Eq.trans (xv_m hg159 (qr148 _ _ (qS86 _ _ (qb82 _ _ hk74))) (by decide) (by decide)) (xv_m hg149 (qS86 _ _ (qb82 _ _ hk74)) (by decide) (by decide)))]; exact wt9) (by rw [(Eq.trans (xv_m hg159 (qr148 _ _ (qS86 _ _ (qb82 _ _ hk68))) (by decide) (by decide)) (xv_m hg149 (qS86 _ _ (qb82 _ _ hk68)) (by decide) (by decide))), (Eq.trans (xv_m hg159 (qr148 _ _ (qS86 _ _ (qb82 _ _ hk75))) (by decide) (by decide)) (xv_m hg149 (qS86 _ _ (qb82 _ _ hk75)) (by decide) (by decide)))]; exact ld9) (by rw [(Eq.trans (xv_m hg159 (qr148 _ _ (qS86 _ _ (qb82 _ _ hk66))) (by decide) (by decide)) (xv_m hg149 (qS86 _ _ (qb82 _ _ hk66)) (by decide) (by decide))), (Eq.trans (xv_m hg159 (qr148 _ _ (qS86 _ _ (qb82 _ _ hs_b81))) (by decide) (by decide)) (xv_m hg149 (qS86 _ _ (qb82 _ _ hs_b81)) (by decide) (by decide)))]; exact sk9) (by rw [(Eq.trans (xv_m hg159 (qr148 _ _ (qS86 _ _ (qb82 _ _ hs_b79))) (by decide) (by decide)) (xv_m hg149 (qS86 _ _ (qb82 _ _ hs_b79)) (by decide) (by decide))), (Eq.trans (xv_m hg159 (qr148 _ _ (qS86 _ _ (qb82 _ _ hs_b80))) (by decide) (by decide)) (xv_m hg149 (qS86 _ _ (qb82 _ _ hs_b80)) (by decide) (by decide)))]; exact xTc.mono tc9 (by omega)) (dc9 + dcr148) (ds9 + dsr148) (by omega) (by omega) (by omega)
            · refine X_iconst hK dL_law_346 ?_
              refine X_goto hK 351 dL_law_347 (by decide) ?_
              refine X_aloadn hK (i := 0) 4 dL_law_351 rfl rfl ?_
              refine X_iload hK (i := 4) 0 dL_law_352 rfl ?_
              refine X_iconst hK dL_law_354 ?_
              refine X_iadd hK dL_law_355 ?_
              refine X_scrK hK hX hbl hbA hL (by omega) (by omega) ez146 dL_law_356 ?_
              refine X_aloadn hK (i := 0) 4 dL_law_357 rfl rfl ?_
              refine X_iload hK (i := 4) 0 dL_law_358 rfl ?_
              refine X_iconst hK dL_law_360 ?_
              refine X_iadd hK dL_law_361 ?_
              refine X_scrK hK hX hbl hbA hL (by omega) (by omega) ez147 dL_law_362 ?_
              refine X_callV hK [.int (iI z124), .int (iI 1), .int (iI z146), .int (iI z147)] [.int (iI z151)] lk_L_37 (c_X12_boy _ _ _ _ _ S150 g149 b36 z124 1 z146 z147 b9 (qr148 _ _ (qS86 _ _ (qb82 _ _ hs_y62))) (by omega) (by omega) (by omega) (by omega) (by omega) ((hg149 b36 13 0 16 (qS86 _ _ (qb82 _ _ hs_y62)) (by decide)).trans emb9)) (qr148 _ _ (qS86 _ _ (qb82 _ _ hs_y62))) ⟨by decide, rfl⟩ dL_law_363 rfl rfl (by simp [Value.category]) (by decide) (by omega) (by omega) (by decide) (fun r165 S167 g166 pr165 qr165 hg166 => ?_)
              obtain ⟨rfl, z168, rfl, lz168, uz168, k169, k170⟩ := pr165
              refine X_st [.int (iI z168), .int (iI z151)] rfl ?_
              refine X_icmp_eq hK 1465 (by omega) (by omega) dL_law_366 (by decide) (fun c171 => ?_) (fun c171 => False.elim (by omega))
              refine X_iinc hK (i := 4) (z := i9) (n := 6) 0 [(4, .int (iI (i9 + 6))), (3, .ref b82), (2, .ref b36), (1, .ref b1), (0, .ref b)] dL_law_1465 rfl (by decide) rfl ?_
              refine X_goto hK 23 dL_law_1468 (by decide) ?_
              exact ih9 S150 (xLe.tr qS86 qr148) g166 (i9 + 6) k9 t9 c9 (if b9 < 40 ∧ 6 ≤ z124 ∧ z124 ≤ 18 ∧ -1 ≤ z146 ∧ z146 ≤ 399 ∧ 0 ≤ z147 ∧ z147 ≤ 99 then b9 + 1 else b9) sh9 sp9 sm9 (by omega) (by omega) (by omega) (by omega) (by first | omega | (split <;> omega)) (by omega) (by omega) (by omega) (xLs_mod k152 hg166 (by decide)) k153 (xPi_m (xPi_m pi9 hg149 qr148 (by decide)) hg166 xLe.rf (by decide)) (xMp_m (xMp_m mp9 hg149 qr148 (by decide)) hg166 xLe.rf (by decide)) (xTw_m (xTw_m tw9 hg149 qr148 (by decide)) hg166 xLe.rf (by decide)) ((hg166 b1 12 0 0 (qr148 _ _ (qS86 _ _ (qb82 _ _ hk64))) (by decide)).trans ((hg149 b1 12 0 0 (qS86 _ _ (qb82 _ _ hk64)) (by decide)).trans el09)) ((hg166 b1 12 0 3 (qr148 _ _ (qS86 _ _ (qb82 _ _ hk64))) (by decide)).trans ((hg149 b1 12 0 3 (qS86 _ _ (qb82 _ _ hk64)) (by decide)).trans el19)) ((hg166 b1 12 0 1 (qr148 _ _ (qS86 _ _ (qb82 _ _ hk64))) (by decide)).trans ((hg149 b1 12 0 1 (qS86 _ _ (qb82 _ _ hk64)) (by decide)).trans el29)) ((hg166 b34 6 0 1 (qr148 _ _ (qS86 _ _ (qb82 _ _ hk72))) (by decide)).trans ((hg149 b34 6 0 1 (qS86 _ _ (qb82 _ _ hk72)) (by decide)).trans el39)) ((hg166 b1 12 0 2 (qr148 _ _ (qS86 _ _ (qb82 _ _ hk64))) (by decide)).trans ((hg149 b1 12 0 2 (qS86 _ _ (qb82 _ _ hk64)) (by decide)).trans el49)) ((hg166 b18 4 0 0 (qr148 _ _ (qS86 _ _ (qb82 _ _ hk65))) (by decide)).trans ((hg149 b18 4 0 0 (qS86 _ _ (qb82 _ _ hk65)) (by decide)).trans el59)) ((hg166 b18 4 0 2 (qr148 _ _ (qS86 _ _ (qb82 _ _ hk65))) (by decide)).trans ((hg149 b18 4 0 2 (qS86 _ _ (qb82 _ _ hk65)) (by decide)).trans el69)) ((hg166 b18 4 0 3 (qr148 _ _ (qS86 _ _ (qb82 _ _ hk65))) (by decide)).trans ((hg149 b18 4 0 3 (qS86 _ _ (qb82 _ _ hk65)) (by decide)).trans el79)) ((hg166 b18 4 0 4 (qr148 _ _ (qS86 _ _ (qb82 _ _ hk65))) (by decide)).trans ((hg149 b18 4 0 4 (qS86 _ _ (qb82 _ _ hk65)) (by decide)).trans el89)) ((hg166 b32 10 0 0 (qr148 _ _ (qS86 _ _ (qb82 _ _ hk70))) (by decide)).trans ((hg149 b32 10 0 0 (qS86 _ _ (qb82 _ _ hk70)) (by decide)).trans el99)) ((hg166 b36 13 0 1 (qr148 _ _ (qS86 _ _ (qb82 _ _ hs_y62))) (by decide)).trans ((hg149 b36 13 0 1 (qS86 _ _ (qb82 _ _ hs_y62)) (by decide)).trans el109)) ((hg166 b36 13 0 10 (qr148 _ _ (qS86 _ _ (qb82 _ _ hs_y62))) (by decide)).trans ((hg149 b36 13 0 10 (qS86 _ _ (qb82 _ _ hs_y62)) (by decide)).trans el119)) ((hg166 b36 13 0 13 (qr148 _ _ (qS86 _ _ (qb82 _ _ hs_y62))) (by decide)).trans ((hg149 b36 13 0 13 (qS86 _ _ (qb82 _ _ hs_y62)) (by decide)).trans el129)) ((hg166 b36 13 0 14 (qr148 _ _ (qS86 _ _ (qb82 _ _ hs_y62))) (by decide)).trans ((hg149 b36 13 0 14 (qS86 _ _ (qb82 _ _ hs_y62)) (by decide)).trans el139)) ((hg166 b36 13 0 12 (qr148 _ _ (qS86 _ _ (qb82 _ _ hs_y62))) (by decide)).trans ((hg149 b36 13 0 12 (qS86 _ _ (qb82 _ _ hs_y62)) (by decide)).trans el149)) ((hg166 b32 10 0 1 (qr148 _ _ (qS86 _ _ (qb82 _ _ hk70))) (by decide)).trans ((hg149 b32 10 0 1 (qS86 _ _ (qb82 _ _ hk70)) (by decide)).trans exk9)) ((hg166 b36 13 0 2 (qr148 _ _ (qS86 _ _ (qb82 _ _ hs_y62))) (by decide)).trans ((hg149 b36 13 0 2 (qS86 _ _ (qb82 _ _ hs_y62)) (by decide)).trans emk9)) ((hg166 b1 12 0 12 (qr148 _ _ (qS86 _ _ (qb82 _ _ hk64))) (by decide)).trans ((hg149 b1 12 0 12 (qS86 _ _ (qb82 _ _ hk64)) (by decide)).trans ext9)) ((hg166 b36 13 0 3 (qr148 _ _ (qS86 _ _ (qb82 _ _ hs_y62))) (by decide)).trans ((hg149 b36 13 0 3 (qS86 _ _ (qb82 _ _ hs_y62)) (by decide)).trans emt9)) ((hg166 b33 5 0 3 (qr148 _ _ (qS86 _ _ (qb82 _ _ hk71))) (by decide)).trans ((hg149 b33 5 0 3 (qS86 _ _ (qb82 _ _ hk71)) (by decide)).trans exc9)) ((hg166 b36 13 0 69 (qr148 _ _ (qS86 _ _ (qb82 _ _ hs_y62))) (by decide)).trans ((hg149 b36 13 0 69 (qS86 _ _ (qb82 _ _ hs_y62)) (by decide)).trans emc9)) ((hg166 b35 0 0 2 (qr148 _ _ (qS86 _ _ (qb82 _ _ hk73))) (by decide)).trans k156) k170 ((hg166 b1 12 0 16 (qr148 _ _ (qS86 _ _ (qb82 _ _ hk64))) (by decide)).trans ((hg149 b1 12 0 16 (qS86 _ _ (qb82 _ _ hk64)) (by decide)).trans exsh9)) ((hg166 b36 13 0 89 (qr148 _ _ (qS86 _ _ (qb82 _ _ hs_y62))) (by decide)).trans ((hg149 b36 13 0 89 (qS86 _ _ (qb82 _ _ hs_y62)) (by decide)).trans emsh9)) ((hg166 b1 12 0 17 (qr148 _ _ (qS86 _ _ (qb82 _ _ hk64))) (by decide)).trans ((hg149 b1 12 0 17 (qS86 _ _ (qb82 _ _ hk64)) (by decide)).trans exsp9)) ((hg166 b36 13 0 90 (qr148 _ _ (qS86 _ _ (qb82 _ _ hs_y62))) (by decide)).trans ((hg149 b36 13 0 90 (qS86 _ _ (qb82 _ _ hs_y62)) (by decide)).trans emsp9)) ((hg166 b36 13 0 17 (qr148 _ _ (qS86 _ _ (qb82 _ _ hs_y62))) (by decide)).trans ((hg149 b36 13 0 17 (qS86 _ _ (qb82 _ _ hs_y62)) (by decide)).trans emsm9)) (xWn.m (xWn.m wn9 (qS86 _ _ (qb82 _ _ hk69)) (qS86 _ _ (qb82 _ _ hk76)) hg149 qr148 (by decide)) (qr148 _ _ (qS86 _ _ (qb82 _ _ hk69))) (qr148 _ _ (qS86 _ _ (qb82 _ _ hk76))) hg166 xLe.rf (by decide)) (by rw [(Eq.trans (xv_m hg166 (qr148 _ _ (qS86 _ _ (qb82 _ _ hk67))) (by decide) (by decide)) (xv_m hg149 (qS86 _ _ (qb82 _ _ hk67)) (by decide) (by decide))), (Eq.trans (xv_m hg166 (qr148 _ _ (qS86 _ _ (qb82 _ _ hk74))) (by decide) (by decide)) (xv_m hg149 (qS86 _ _ (qb82 _ _ hk74)) (by decide) (by decide)))]; exact wt9) (by rw [(Eq.trans (xv_m hg166 (qr148 _ _ (qS86 _ _ (qb82 _ _ hk68))) (by decide) (by decide)) (xv_m hg149 (qS86 _ _ (qb82 _ _ hk68)) (by decide) (by decide))), (Eq.trans (xv_m hg166 (qr148 _ _ (qS86 _ _ (qb82 _ _ hk75))) (by decide) (by decide)) (xv_m hg149 (qS86 _ _ (qb82 _ _ hk75)) (by decide) (by decide)))]; exact ld9) (by rw [(Eq.trans (xv_m hg166 (qr148 _ _ (qS86 _ _ (qb82 _ _ hk66))) (by decide) (by decide)) (xv_m hg149 (qS86 _ _ (qb82 _ _ hk66)) (by decide) (by decide))), (Eq.trans (xv_m hg166 (qr148 _ _ (qS86 _ _ (qb82 _ _ hs_b81))) (by decide) (by decide)) (xv_m hg149 (qS86 _ _ (qb82 _ _ hs_b81)) (by decide) (by decide)))]; exact sk9) (by rw [(Eq.trans (xv_m hg166 (qr148 _ _ (qS86 _ _ (qb82 _ _ hs_b79))) (by decide) (by decide)) (xv_m hg149 (qS86 _ _ (qb82 _ _ hs_b79)) (by decide) (by decide))), (Eq.trans (xv_m hg166 (qr148 _ _ (qS86 _ _ (qb82 _ _ hs_b80))) (by decide) (by decide)) (xv_m hg149 (qS86 _ _ (qb82 _ _ hs_b80)) (by decide) (by decide)))]; exact xTc.mono tc9 (by omega)) (dc9 + dcr148) (ds9 + dsr148) (by omega) (by omega) (by omega)
        · refine X_tableIn hK 371 3 (by decide) c91 (by decide) (by decide) dL_law_40 rfl (by decide) ?_
          refine X_aloadn hK (i := 1) 3 dL_law_371 rfl rfl ?_
          refine X_aloadn hK (i := 0) 4 dL_law_372 rfl rfl ?_
          refine X_iload hK (i := 4) 0 dL_law_373 rfl ?_
          refine X_iconst hK dL_law_375 ?_
          refine X_iadd hK dL_law_376 ?_
          refine X_scr hK hX hbl hbA hL (by omega) (by omega) dL_law_377 (fun z172 ez172 lz172 uz172 => ?_)
          refine X_aloadn hK (i := 0) 4 dL_law_378 rfl rfl ?_
          refine X_iload hK (i := 4) 0 dL_law_379 rfl ?_
          refine X_iconst hK dL_law_381 ?_
          refine X_iadd hK dL_law_382 ?_
          refine X_scr hK hX hbl hbA hL (by omega) (by omega) dL_law_383 (fun z173 ez173 lz173 uz173 => ?_)
          refine X_callV hK [.int (iI z172), .int (iI z173)] [] lk_L_38 (c_X11_badge _ _ _ _ _ S86 g87 b1 z172 z173 b34 b35 b9 (qS86 _ _ (qb82 _ _ hk64)) (by omega) (by omega) el29 (qS86 _ _ (qb82 _ _ hk72)) el39 (qS86 _ _ (qb82 _ _ hk73)) (by omega) exb9 al9) (qS86 _ _ (qb82 _ _ hk64)) ⟨by decide, rfl⟩ dL_law_384 rfl rfl (by simp [Value.category]) (by decide) (by omega) (by omega) (by decide) (fun r174 S176 g175 pr174 qr174 hg175 => ?_)
          obtain ⟨rfl, z177, rfl, lz177, uz177, k178⟩ := pr174
          refine X_st [.int (iI z177)] rfl ?_
          refine X_pop hK dL_law_387 rfl ?_
          refine X_aloadn hK (i := 2) 2 dL_law_388 rfl rfl ?_
          refine X_aloadn hK (i := 0) 4 dL_law_389 rfl rfl ?_
          refine X_iload hK (i := 4) 0 dL_law_390 rfl ?_
          refine X_iconst hK dL_law_392 ?_
          refine X_iadd hK dL_law_393 ?_
          refine X_scrK hK hX hbl hbA hL (by omega) (by omega) ez172 dL_law_394 ?_
          refine X_aloadn hK (i := 0) 4 dL_law_395 rfl rfl ?_
          refine X_iload hK (i := 4) 0 dL_law_396 rfl ?_
          refine X_iconst hK dL_law_398 ?_
          refine X_iadd hK dL_law_399 ?_
          refine X_scrK hK hX hbl hbA hL (by omega) (by omega) ez173 dL_law_400 ?_
          refine X_callV hK [.int (iI z172), .int (iI z173)] [] lk_L_42 (c_X12_badge _ _ _ _ _ S86 g175 b36 z172 z173 b9 (qS86 _ _ (qb82 _ _ hs_y62)) (by omega) (by omega) (by omega) ((hg175 b36 13 0 16 (qS86 _ _ (qb82 _ _ hs_y62)) (by decide)).trans emb9)) (qS86 _ _ (qb82 _ _ hs_y62)) ⟨by decide, rfl⟩ dL_law_401 rfl rfl (by simp [Value.category]) (by decide) (by omega) (by omega) (by decide) (fun r179 S181 g180 pr179 qr179 hg180 => ?_)
          obtain ⟨rfl, z182, rfl, lz182, uz182, k183⟩ := pr179
          refine X_st [.int (iI z182)] rfl ?_
          refine X_pop hK dL_law_404 rfl ?_
          refine X_goto hK 1465 dL_law_405 (by decide) ?_
          refine X_iinc hK (i := 4) (z := i9) (n := 6) 0 [(4, .int (iI (i9 + 6))), (3, .ref b82), (2, .ref b36), (1, .ref b1), (0, .ref b)] dL_law_1465 rfl (by decide) rfl ?_
          refine X_goto hK 23 dL_law_1468 (by decide) ?_
          exact ih9 S86 qS86 g180 (i9 + 6) k9 t9 c9 b9 sh9 sp9 sm9 (by omega) (by omega) (by omega) (by omega) (by omega) (by omega) (by omega) (by omega) (xLs_mod (xLs_mod al9 hg175 (by decide)) hg180 (by decide)) si9 (xPi_m (xPi_m pi9 hg175 xLe.rf (by decide)) hg180 xLe.rf (by decide)) (xMp_m (xMp_m mp9 hg175 xLe.rf (by decide)) hg180 xLe.rf (by decide)) (xTw_m (xTw_m tw9 hg175 xLe.rf (by decide)) hg180 xLe.rf (by decide)) ((hg180 b1 12 0 0 (qS86 _ _ (qb82 _ _ hk64)) (by decide)).trans ((hg175 b1 12 0 0 (qS86 _ _ (qb82 _ _ hk64)) (by decide)).trans el09)) ((hg180 b1 12 0 3 (qS86 _ _ (qb82 _ _ hk64)) (by decide)).trans ((hg175 b1 12 0 3 (qS86 _ _ (qb82 _ _ hk64)) (by decide)).trans el19)) ((hg180 b1 12 0 1 (qS86 _ _ (qb82 _ _ hk64)) (by decide)).trans ((hg175 b1 12 0 1 (qS86 _ _ (qb82 _ _ hk64)) (by decide)).trans el29)) ((hg180 b34 6 0 1 (qS86 _ _ (qb82 _ _ hk72)) (by decide)).trans ((hg175 b34 6 0 1 (qS86 _ _ (qb82 _ _ hk72)) (by decide)).trans el39)) ((hg180 b1 12 0 2 (qS86 _ _ (qb82 _ _ hk64)) (by decide)).trans ((hg175 b1 12 0 2 (qS86 _ _ (qb82 _ _ hk64)) (by decide)).trans el49)) ((hg180 b18 4 0 0 (qS86 _ _ (qb82 _ _ hk65)) (by decide)).trans ((hg175 b18 4 0 0 (qS86 _ _ (qb82 _ _ hk65)) (by decide)).trans el59)) ((hg180 b18 4 0 2 (qS86 _ _ (qb82 _ _ hk65)) (by decide)).trans ((hg175 b18 4 0 2 (qS86 _ _ (qb82 _ _ hk65)) (by decide)).trans el69)) ((hg180 b18 4 0 3 (qS86 _ _ (qb82 _ _ hk65)) (by decide)).trans ((hg175 b18 4 0 3 (qS86 _ _ (qb82 _ _ hk65)) (by decide)).trans el79)) ((hg180 b18 4 0 4 (qS86 _ _ (qb82 _ _ hk65)) (by decide)).trans ((hg175 b18 4 0 4 (qS86 _ _ (qb82 _ _ hk65)) (by decide)).trans el89)) ((hg180 b32 10 0 0 (qS86 _ _ (qb82 _ _ hk70)) (by decide)).trans ((hg175 b32 10 0 0 (qS86 _ _ (qb82 _ _ hk70)) (by decide)).trans el99)) ((hg180 b36 13 0 1 (qS86 _ _ (qb82 _ _ hs_y62)) (by decide)).trans ((hg175 b36 13 0 1 (qS86 _ _ (qb82 _ _ hs_y62)) (by decide)).trans el109)) ((hg180 b36 13 0 10 (qS86 _ _ (qb82 _ _ hs_y62)) (by decide)).trans ((hg175 b36 13 0 10 (qS86 _ _ (qb82 _ _ hs_y62)) (by decide)).trans el119)) ((hg180 b36 13 0 13 (qS86 _ _ (qb82 _ _ hs_y62)) (by decide)).trans ((hg175 b36 13 0 13 (qS86 _ _ (qb82 _ _ hs_y62)) (by decide)).trans el129)) ((hg180 b36 13 0 14 (qS86 _ _ (qb82 _ _ hs_y62)) (by decide)).trans ((hg175 b36 13 0 14 (qS86 _ _ (qb82 _ _ hs_y62)) (by decide)).trans el139)) ((hg180 b36 13 0 12 (qS86 _ _ (qb82 _ _ hs_y62)) (by decide)).trans ((hg175 b36 13 0 12 (qS86 _ _ (qb82 _ _ hs_y62)) (by decide)).trans el149)) ((hg180 b32 10 0 1 (qS86 _ _ (qb82 _ _ hk70)) (by decide)).trans ((hg175 b32 10 0 1 (qS86 _ _ (qb82 _ _ hk70)) (by decide)).trans exk9)) ((hg180 b36 13 0 2 (qS86 _ _ (qb82 _ _ hs_y62)) (by decide)).trans ((hg175 b36 13 0 2 (qS86 _ _ (qb82 _ _ hs_y62)) (by decide)).trans emk9)) ((hg180 b1 12 0 12 (qS86 _ _ (qb82 _ _ hk64)) (by decide)).trans ((hg175 b1 12 0 12 (qS86 _ _ (qb82 _ _ hk64)) (by decide)).trans ext9)) ((hg180 b36 13 0 3 (qS86 _ _ (qb82 _ _ hs_y62)) (by decide)).trans ((hg175 b36 13 0 3 (qS86 _ _ (qb82 _ _ hs_y62)) (by decide)).trans emt9)) ((hg180 b33 5 0 3 (qS86 _ _ (qb82 _ _ hk71)) (by decide)).trans ((hg175 b33 5 0 3 (qS86 _ _ (qb82 _ _ hk71)) (by decide)).trans exc9)) ((hg180 b36 13 0 69 (qS86 _ _ (qb82 _ _ hs_y62)) (by decide)).trans ((hg175 b36 13 0 69 (qS86 _ _ (qb82 _ _ hs_y62)) (by decide)).trans emc9)) ((hg180 b35 0 0 2 (qS86 _ _ (qb82 _ _ hk73)) (by decide)).trans ((hg175 b35 0 0 2 (qS86 _ _ (qb82 _ _ hk73)) (by decide)).trans exb9)) ((hg180 b36 13 0 16 (qS86 _ _ (qb82 _ _ hs_y62)) (by decide)).trans ((hg175 b36 13 0 16 (qS86 _ _ (qb82 _ _ hs_y62)) (by decide)).trans emb9)) ((hg180 b1 12 0 16 (qS86 _ _ (qb82 _ _ hk64)) (by decide)).trans ((hg175 b1 12 0 16 (qS86 _ _ (qb82 _ _ hk64)) (by decide)).trans exsh9)) ((hg180 b36 13 0 89 (qS86 _ _ (qb82 _ _ hs_y62)) (by decide)).trans ((hg175 b36 13 0 89 (qS86 _ _ (qb82 _ _ hs_y62)) (by decide)).trans emsh9)) ((hg180 b1 12 0 17 (qS86 _ _ (qb82 _ _ hk64)) (by decide)).trans ((hg175 b1 12 0 17 (qS86 _ _ (qb82 _ _ hk64)) (by decide)).trans exsp9)) ((hg180 b36 13 0 90 (qS86 _ _ (qb82 _ _ hs_y62)) (by decide)).trans ((hg175 b36 13 0 90 (qS86 _ _ (qb82 _ _ hs_y62)) (by decide)).trans emsp9)) ((hg180 b36 13 0 17 (qS86 _ _ (qb82 _ _ hs_y62)) (by decide)).trans ((hg175 b36 13 0 17 (qS86 _ _ (qb82 _ _ hs_y62)) (by decide)).trans emsm9)) (xWn.m (xWn.m wn9 (qS86 _ _ (qb82 _ _ hk69)) (qS86 _ _ (qb82 _ _ hk76)) hg175 xLe.rf (by decide)) (qS86 _ _ (qb82 _ _ hk69)) (qS86 _ _ (qb82 _ _ hk76)) hg180 xLe.rf (by decide)) (by rw [(Eq.trans (xv_m hg180 (qS86 _ _ (qb82 _ _ hk67)) (by decide) (by decide)) (xv_m hg175 (qS86 _ _ (qb82 _ _ hk67)) (by decide) (by decide))), (Eq.trans (xv_m hg180 (qS86 _ _ (qb82 _ _ hk74)) (by decide) (by decide)) (xv_m hg175 (qS86 _ _ (qb82 _ _ hk74)) (by decide) (by decide)))]; exact wt9) (by rw [(Eq.trans (xv_m hg180 (qS86 _ _ (qb82 _ _ hk68)) (by decide) (by decide)) (xv_m hg175 (qS86 _ _ (qb82 _ _ hk68)) (by decide) (by decide))), (Eq.trans (xv_m hg180 (qS86 _ _ (qb82 _ _ hk75)) (by decide) (by decide)) (xv_m hg175 (qS86 _ _ (qb82 _ _ hk75)) (by decide) (by decide)))]; exact ld9) (by rw [(Eq.trans (xv_m hg180 (qS86 _ _ (qb82 _ _ hk66)) (by decide) (by decide)) (xv_m hg175 (qS86 _ _ (qb82 _ _ hk66)) (by decide) (by decide))), (Eq.trans (xv_m hg180 (qS86 _ _ (qb82 _ _ hs_b81)) (by decide) (by decide)) (xv_m hg175 (qS86 _ _ (qb82 _ _ hs_b81)) (by decide) (by decide)))]; exact sk9) (by rw [(Eq.trans (xv_m hg180 (qS86 _ _ (qb82 _ _ hs_b79)) (by decide) (by decide)) (xv_m hg175 (qS86 _ _ (qb82 _ _ hs_b79)) (by decide) (by decide))), (Eq.trans (xv_m hg180 (qS86 _ _ (qb82 _ _ hs_b80)) (by decide) (by decide)) (xv_m hg175 (qS86 _ _ (qb82 _ _ hs_b80)) (by decide) (by decide)))]; exact xTc.mono tc9 (by omega)) dc9 ds9 (by omega) (by omega) (by omega)
        · refine X_tableIn hK 408 4 (by decide) c91 (by decide) (by decide) dL_law_40 rfl (by decide) ?_
          refine X_aloadn hK (i := 1) 3 dL_law_408 rfl rfl ?_
          refine X_aloadn hK (i := 0) 4 dL_law_409 rfl rfl ?_
          refine X_iload hK (i := 4) 0 dL_law_410 rfl ?_
          refine X_iconst hK dL_law_412 ?_
          refine X_iadd hK dL_law_413 ?_
          refine X_scr hK hX hbl hbA hL (by omega) (by omega) dL_law_414 (fun z184 ez184 lz184 uz184 => ?_)
          refine X_aloadn hK (i := 0) 4 dL_law_415 rfl rfl ?_
          refine X_iload hK (i := 4) 0 dL_law_416 rfl ?_
          refine X_iconst hK dL_law_418 ?_
          refine X_iadd hK dL_law_419 ?_
          refine X_scr hK hX hbl hbA hL (by omega) (by omega) dL_law_420 (fun z185 ez185 lz185 uz185 => ?_)
          refine X_callV hK [.int (iI z184), .int (iI z185)] [] lk_L_43 (c_X11_owner _ _ _ _ _ S86 g87 b1 z184 z185 b34 b35 b9 (qS86 _ _ (qb82 _ _ hk64)) (by omega) (by omega) el29 (qS86 _ _ (qb82 _ _ hk72)) el39 (qS86 _ _ (qb82 _ _ hk73)) (by omega) exb9 al9) (qS86 _ _ (qb82 _ _ hk64)) ⟨by decide, rfl⟩ dL_law_421 rfl rfl (by simp [Value.category]) (by decide) (by omega) (by omega) (by decide) (fun r186 S188 g187 pr186 qr186 hg187 => ?_)
          obtain ⟨rfl, z189, rfl, lz189, uz189, k190⟩ := pr186
          refine X_st [.int (iI z189)] rfl ?_
          refine X_pop hK dL_law_424 rfl ?_
          refine X_aloadn hK (i := 2) 2 dL_law_425 rfl rfl ?_
          refine X_aloadn hK (i := 0) 4 dL_law_426 rfl rfl ?_
          refine X_iload hK (i := 4) 0 dL_law_427 rfl ?_
          refine X_iconst hK dL_law_429 ?_
          refine X_iadd hK dL_law_430 ?_
          refine X_scrK hK hX hbl hbA hL (by omega) (by omega) ez184 dL_law_431 ?_
          refine X_aloadn hK (i := 0) 4 dL_law_432 rfl rfl ?_
          refine X_iload hK (i := 4) 0 dL_law_433 rfl ?_
          refine X_iconst hK dL_law_435 ?_
          refine X_iadd hK dL_law_436 ?_
          refine X_scrK hK hX hbl hbA hL (by omega) (by omega) ez185 dL_law_437 ?_
          refine X_callV hK [.int (iI z184), .int (iI z185)] [] lk_L_46 (c_X12_owner _ _ _ _ _ S86 g187 b36 z184 z185 b9 (qS86 _ _ (qb82 _ _ hs_y62)) (by omega) (by omega) (by omega) ((hg187 b36 13 0 16 (qS86 _ _ (qb82 _ _ hs_y62)) (by decide)).trans emb9)) (qS86 _ _ (qb82 _ _ hs_y62)) ⟨by decide, rfl⟩ dL_law_438 rfl rfl (by simp [Value.category]) (by decide) (by omega) (by omega) (by decide) (fun r191 S193 g192 pr191 qr191 hg192 => ?_)
          obtain ⟨rfl, z194, rfl, lz194, uz194, k195⟩ := pr191
          refine X_st [.int (iI z194)] rfl ?_
          refine X_pop hK dL_law_441 rfl ?_
          refine X_goto hK 1465 dL_law_442 (by decide) ?_
          refine X_iinc hK (i := 4) (z := i9) (n := 6) 0 [(4, .int (iI (i9 + 6))), (3, .ref b82), (2, .ref b36), (1, .ref b1), (0, .ref b)] dL_law_1465 rfl (by decide) rfl ?_
          refine X_goto hK 23 dL_law_1468 (by decide) ?_
          exact ih9 S86 qS86 g192 (i9 + 6) k9 t9 c9 b9 sh9 sp9 sm9 (by omega) (by omega) (by omega) (by omega) (by omega) (by omega) (by omega) (by omega) (xLs_mod (xLs_mod al9 hg187 (by decide)) hg192 (by decide)) si9 (xPi_m (xPi_m pi9 hg187 xLe.rf (by decide)) hg192 xLe.rf (by decide)) (xMp_m (xMp_m mp9 hg187 xLe.rf (by decide)) hg192 xLe.rf (by decide)) (xTw_m (xTw_m tw9 hg187 xLe.rf (by decide)) hg192 xLe.rf (by decide)) ((hg192 b1 12 0 0 (qS86 _ _ (qb82 _ _ hk64)) (by decide)).trans ((hg187 b1 12 0 0 (qS86 _ _ (qb82 _ _ hk64)) (by decide)).trans el09)) ((hg192 b1 12 0 3 (qS86 _ _ (qb82 _ _ hk64)) (by decide)).trans ((hg187 b1 12 0 3 (qS86 _ _ (qb82 _ _ hk64)) (by decide)).trans el19)) ((hg192 b1 12 0 1 (qS86 _ _ (qb82 _ _ hk64)) (by decide)).trans ((hg187 b1 12 0 1 (qS86 _ _ (qb82 _ _ hk64)) (by decide)).trans el29)) ((hg192 b34 6 0 1 (qS86 _ _ (qb82 _ _ hk72)) (by decide)).trans ((hg187 b34 6 0 1 (qS86 _ _ (qb82 _ _ hk72)) (by decide)).trans el39)) ((hg192 b1 12 0 2 (qS86 _ _ (qb82 _ _ hk64)) (by decide)).trans ((hg187 b1 12 0 2 (qS86 _ _ (qb82 _ _ hk64)) (by decide)).trans el49)) ((hg192 b18 4 0 0 (qS86 _ _ (qb82 _ _ hk65)) (by decide)).trans ((hg187 b18 4 0 0 (qS86 _ _ (qb82 _ _ hk65)) (by decide)).trans el59)) ((hg192 b18 4 0 2 (qS86 _ _ (qb82 _ _ hk65)) (by decide)).trans ((hg187 b18 4 0 2 (qS86 _ _ (qb82 _ _ hk65)) (by decide)).trans el69)) ((hg192 b18 4 0 3 (qS86 _ _ (qb82 _ _ hk65)) (by decide)).trans ((hg187 b18 4 0 3 (qS86 _ _ (qb82 _ _ hk65)) (by decide)).trans el79)) ((hg192 b18 4 0 4 (qS86 _ _ (qb82 _ _ hk65)) (by decide)).trans ((hg187 b18 4 0 4 (qS86 _ _ (qb82 _ _ hk65)) (by decide)).trans el89)) ((hg192 b32 10 0 0 (qS86 _ _ (qb82 _ _ hk70)) (by decide)).trans ((hg187 b32 10 0 0 (qS86 _ _ (qb82 _ _ hk70)) (by decide)).trans el99)) ((hg192 b36 13 0 1 (qS86 _ _ (qb82 _ _ hs_y62)) (by decide)).trans ((hg187 b36 13 0 1 (qS86 _ _ (qb82 _ _ hs_y62)) (by decide)).trans el109)) ((hg192 b36 13 0 10 (qS86 _ _ (qb82 _ _ hs_y62)) (by decide)).trans ((hg187 b36 13 0 10 (qS86 _ _ (qb82 _ _ hs_y62)) (by decide)).trans el119)) ((hg192 b36 13 0 13 (qS86 _ _ (qb82 _ _ hs_y62)) (by decide)).trans ((hg187 b36 13 0 13 (qS86 _ _ (qb82 _ _ hs_y62)) (by decide)).trans el129)) ((hg192 b36 13 0 14 (qS86 _ _ (qb82 _ _ hs_y62)) (by decide)).trans ((hg187 b36 13 0 14 (qS86 _ _ (qb82 _ _ hs_y62)) (by decide)).trans el139)) ((hg192 b36 13 0 12 (qS86 _ _ (qb82 _ _ hs_y62)) (by decide)).trans ((hg187 b36 13 0 12 (qS86 _ _ (qb82 _ _ hs_y62)) (by decide)).trans el149)) ((hg192 b32 10 0 1 (qS86 _ _ (qb82 _ _ hk70)) (by decide)).trans ((hg187 b32 10 0 1 (qS86 _ _ (qb82 _ _ hk70)) (by decide)).trans exk9)) ((hg192 b36 13 0 2 (qS86 _ _ (qb82 _ _ hs_y62)) (by decide)).trans ((hg187 b36 13 0 2 (qS86 _ _ (qb82 _ _ hs_y62)) (by decide)).trans emk9)) ((hg192 b1 12 0 12 (qS86 _ _ (qb82 _ _ hk64)) (by decide)).trans ((hg187 b1 12 0 12 (qS86 _ _ (qb82 _ _ hk64)) (by decide)).trans ext9)) ((hg192 b36 13 0 3 (qS86 _ _ (qb82 _ _ hs_y62)) (by decide)).trans ((hg187 b36 13 0 3 (qS86 _ _ (qb82 _ _ hs_y62)) (by decide)).trans emt9)) ((hg192 b33 5 0 3 (qS86 _ _ (qb82 _ _ hk71)) (by decide)).trans ((hg187 b33 5 0 3 (qS86 _ _ (qb82 _ _ hk71)) (by decide)).trans exc9)) ((hg192 b36 13 0 69 (qS86 _ _ (qb82 _ _ hs_y62)) (by decide)).trans ((hg187 b36 13 0 69 (qS86 _ _ (qb82 _ _ hs_y62)) (by decide)).trans emc9)) ((hg192 b35 0 0 2 (qS86 _ _ (qb82 _ _ hk73)) (by decide)).trans ((hg187 b35 0 0 2 (qS86 _ _ (qb82 _ _ hk73)) (by decide)).trans exb9)) ((hg192 b36 13 0 16 (qS86 _ _ (qb82 _ _ hs_y62)) (by decide)).trans ((hg187 b36 13 0 16 (qS86 _ _ (qb82 _ _ hs_y62)) (by decide)).trans emb9)) ((hg192 b1 12 0 16 (qS86 _ _ (qb82 _ _ hk64)) (by decide)).trans ((hg187 b1 12 0 16 (qS86 _ _ (qb82 _ _ hk64)) (by decide)).trans exsh9)) ((hg192 b36 13 0 89 (qS86 _ _ (qb82 _ _ hs_y62)) (by decide)).trans ((hg187 b36 13 0 89 (qS86 _ _ (qb82 _ _ hs_y62)) (by decide)).trans emsh9)) ((hg192 b1 12 0 17 (qS86 _ _ (qb82 _ _ hk64)) (by decide)).trans ((hg187 b1 12 0 17 (qS86 _ _ (qb82 _ _ hk64)) (by decide)).trans exsp9)) ((hg192 b36 13 0 90 (qS86 _ _ (qb82 _ _ hs_y62)) (by decide)).trans ((hg187 b36 13 0 90 (qS86 _ _ (qb82 _ _ hs_y62)) (by decide)).trans emsp9)) ((hg192 b36 13 0 17 (qS86 _ _ (qb82 _ _ hs_y62)) (by decide)).trans ((hg187 b36 13 0 17 (qS86 _ _ (qb82 _ _ hs_y62)) (by decide)).trans emsm9)) (xWn.m (xWn.m wn9 (qS86 _ _ (qb82 _ _ hk69)) (qS86 _ _ (qb82 _ _ hk76)) hg187 xLe.rf (by decide)) (qS86 _ _ (qb82 _ _ hk69)) (qS86 _ _ (qb82 _ _ hk76)) hg192 xLe.rf (by decide)) (by rw [(Eq.trans (xv_m hg192 (qS86 _ _ (qb82 _ _ hk67)) (by decide) (by decide)) (xv_m hg187 (qS86 _ _ (qb82 _ _ hk67)) (by decide) (by decide))), (Eq.trans (xv_m hg192 (qS86 _ _ (qb82 _ _ hk74)) (by decide) (by decide)) (xv_m hg187 (qS86 _ _ (qb82 _ _ hk74)) (by decide) (by decide)))]; exact wt9) (by rw [(Eq.trans (xv_m hg192 (qS86 _ _ (qb82 _ _ hk68)) (by decide) (by decide)) (xv_m hg187 (qS86 _ _ (qb82 _ _ hk68)) (by decide) (by decide))), (Eq.trans (xv_m hg192 (qS86 _ _ (qb82 _ _ hk75)) (by decide) (by decide)) (xv_m hg187 (qS86 _ _ (qb82 _ _ hk75)) (by decide) (by decide)))]; exact ld9) (by rw [(Eq.trans (xv_m hg192 (qS86 _ _ (qb82 _ _ hk66)) (by decide) (by decide)) (xv_m hg187 (qS86 _ _ (qb82 _ _ hk66)) (by decide) (by decide))), (Eq.trans (xv_m hg192 (qS86 _ _ (qb82 _ _ hs_b81)) (by decide) (by decide)) (xv_m hg187 (qS86 _ _ (qb82 _ _ hs_b81)) (by decide) (by decide)))]; exact sk9) (by rw [(Eq.trans (xv_m hg192 (qS86 _ _ (qb82 _ _ hs_b79)) (by decide) (by decide)) (xv_m hg187 (qS86 _ _ (qb82 _ _ hs_b79)) (by decide) (by decide))), (Eq.trans (xv_m hg192 (qS86 _ _ (qb82 _ _ hs_b80)) (by decide) (by decide)) (xv_m hg187 (qS86 _ _ (qb82 _ _ hs_b80)) (by decide) (by decide)))]; exact xTc.mono tc9 (by omega)) dc9 ds9 (by omega) (by omega) (by omega)
        · refine X_tableIn hK 445 5 (by decide) c91 (by decide) (by decide) dL_law_40 rfl (by decide) ?_
          refine X_aloadn hK (i := 1) 3 dL_law_445 rfl rfl ?_
          refine X_callV hK [] [] lk_L_47 (c_X11_weather _ _ _ _ _ S86 g87 b1 b32 k9 b79 b18 b19 (qS86 _ _ (qb82 _ _ hk64)) el09 (qS86 _ _ (qb82 _ _ hk70)) (by omega) exk9 el99 (qS86 _ _ (qb82 _ _ hs_b79)) el49 (qS86 _ _ (qb82 _ _ hk65)) el59 (qS86 _ _ (qb82 _ _ hk66))) (qS86 _ _ (qb82 _ _ hk64)) ⟨by decide, rfl⟩ dL_law_446 rfl rfl (by simp [Value.category]) (by decide) (by omega) (by omega) (by decide) (fun r196 S198 g197 pr196 qr196 hg197 => ?_)
          obtain ⟨rfl, z199, rfl, lz199, uz199, k200, k201, k202⟩ := pr196
          refine X_st [.int (iI z199)] rfl ?_
          refine X_pop hK dL_law_449 rfl ?_
          refine X_aloadn hK (i := 2) 2 dL_law_450 rfl rfl ?_
          refine X_callV hK [] [] lk_L_51 (c3_weather _ _ _ _ _ S86 g197 b36 k9 b80 sm9 b81 (qS86 _ _ (qb82 _ _ hs_y62)) (by omega) ((hg197 b36 13 0 2 (qS86 _ _ (qb82 _ _ hs_y62)) (by decide)).trans emk9) ((hg197 b36 13 0 1 (qS86 _ _ (qb82 _ _ hs_y62)) (by decide)).trans el109) (qS86 _ _ (qb82 _ _ hs_b80)) (by omega) ((hg197 b36 13 0 17 (qS86 _ _ (qb82 _ _ hs_y62)) (by decide)).trans emsm9) ((hg197 b36 13 0 10 (qS86 _ _ (qb82 _ _ hs_y62)) (by decide)).trans el119) (qS86 _ _ (qb82 _ _ hs_b81))) (qS86 _ _ (qb82 _ _ hs_y62)) ⟨by decide, rfl⟩ dL_law_451 rfl rfl (by simp [Value.category]) (by decide) (by omega) (by omega) (by decide) (fun r203 S205 g204 pr203 qr203 hg204 => ?_)
          obtain ⟨rfl, z206, rfl, lz206, uz206, k207, k208, k209⟩ := pr203
          refine X_st [.int (iI z206)] rfl ?_
          have hq9 : z199 = z206 := xbeq k201 k208 (by rw [(xv_m hg197 (qS86 _ _ (qb82 _ _ hs_b80)) (by decide) (by decide)), tc9.wk]) (by omega) (by omega)
          obtain ⟨z210, lz210, uz210, ez210, iz210⟩ : ∃ s8 : Int, 0 ≤ s8 ∧ s8 ≤ 400 ∧ g204 b36 17 = .int (iI s8) ∧ xSm (xv g204 b19) (xv g204 b81) s8 := by
            by_cases h9 : z199 = 1
            · have hb9 := k201.mp h9
              obtain ⟨a1, a2⟩ := k209.1 (by omega)
              exact ⟨_, by omega, by omega, a1, xSm.of (by omega) (by rw [(xv_m hg204 (qS86 _ _ (qb82 _ _ hk66)) (by decide) (by decide))]; exact k202.1 h9) a2 (by rw [(xv_m hg197 (qS86 _ _ (qb82 _ _ hs_b80)) (by decide) (by decide))]; exact tc9)⟩
            · obtain ⟨a1, a2⟩ := k209.2 (by omega)
              exact ⟨_, by omega, by omega, a1, by rw [(xv_m hg204 (qS86 _ _ (qb82 _ _ hk66)) (by decide) (by decide)), k202.2 h9, a2, (xv_m hg197 (qS86 _ _ (qb82 _ _ hs_b81)) (by decide) (by decide))]; exact sk9⟩
          refine X_pop hK dL_law_454 rfl ?_
          refine X_goto hK 1465 dL_law_455 (by decide) ?_
          refine X_iinc hK (i := 4) (z := i9) (n := 6) 0 [(4, .int (iI (i9 + 6))), (3, .ref b82), (2, .ref b36), (1, .ref b1), (0, .ref b)] dL_law_1465 rfl (by decide) rfl ?_
          refine X_goto hK 23 dL_law_1468 (by decide) ?_
          exact ih9 S86 qS86 g204 (i9 + 6) (0) t9 c9 b9 sh9 sp9 z210 (by omega) (by omega) (by omega) (by omega) (by omega) (by omega) (by omega) (by omega) (xLs_mod (xLs_mod al9 hg197 (by decide)) hg204 (by decide)) si9 (xPi_m (xPi_m pi9 hg197 xLe.rf (by decide)) hg204 xLe.rf (by decide)) (xMp_m (xMp_m mp9 hg197 xLe.rf (by decide)) hg204 xLe.rf (by decide)) (xTw_m (xTw_m tw9 hg197 xLe.rf (by decide)) hg204 xLe.rf (by decide)) ((hg204 b1 12 0 0 (qS86 _ _ (qb82 _ _ hk64)) (by decide)).trans ((hg197 b1 12 0 0 (qS86 _ _ (qb82 _ _ hk64)) (by decide)).trans el09)) ((hg204 b1 12 0 3 (qS86 _ _ (qb82 _ _ hk64)) (by decide)).trans ((hg197 b1 12 0 3 (qS86 _ _ (qb82 _ _ hk64)) (by decide)).trans el19)) ((hg204 b1 12 0 1 (qS86 _ _ (qb82 _ _ hk64)) (by decide)).trans ((hg197 b1 12 0 1 (qS86 _ _ (qb82 _ _ hk64)) (by decide)).trans el29)) ((hg204 b34 6 0 1 (qS86 _ _ (qb82 _ _ hk72)) (by decide)).trans ((hg197 b34 6 0 1 (qS86 _ _ (qb82 _ _ hk72)) (by decide)).trans el39)) ((hg204 b1 12 0 2 (qS86 _ _ (qb82 _ _ hk64)) (by decide)).trans ((hg197 b1 12 0 2 (qS86 _ _ (qb82 _ _ hk64)) (by decide)).trans el49)) ((hg204 b18 4 0 0 (qS86 _ _ (qb82 _ _ hk65)) (by decide)).trans ((hg197 b18 4 0 0 (qS86 _ _ (qb82 _ _ hk65)) (by decide)).trans el59)) ((hg204 b18 4 0 2 (qS86 _ _ (qb82 _ _ hk65)) (by decide)).trans ((hg197 b18 4 0 2 (qS86 _ _ (qb82 _ _ hk65)) (by decide)).trans el69)) ((hg204 b18 4 0 3 (qS86 _ _ (qb82 _ _ hk65)) (by decide)).trans ((hg197 b18 4 0 3 (qS86 _ _ (qb82 _ _ hk65)) (by decide)).trans el79)) ((hg204 b18 4 0 4 (qS86 _ _ (qb82 _ _ hk65)) (by decide)).trans ((hg197 b18 4 0 4 (qS86 _ _ (qb82 _ _ hk65)) (by decide)).trans el89)) ((hg204 b32 10 0 0 (qS86 _ _ (qb82 _ _ hk70)) (by decide)).trans ((hg197 b32 10 0 0 (qS86 _ _ (qb82 _ _ hk70)) (by decide)).trans el99)) ((hg204 b36 13 0 1 (qS86 _ _ (qb82 _ _ hs_y62)) (by decide)).trans ((hg197 b36 13 0 1 (qS86 _ _ (qb82 _ _ hs_y62)) (by decide)).trans el109)) ((hg204 b36 13 0 10 (qS86 _ _ (qb82 _ _ hs_y62)) (by decide)).trans ((hg197 b36 13 0 10 (qS86 _ _ (qb82 _ _ hs_y62)) (by decide)).trans el119)) ((hg204 b36 13 0 13 (qS86 _ _ (qb82 _ _ hs_y62)) (by decide)).trans ((hg197 b36 13 0 13 (qS86 _ _ (qb82 _ _ hs_y62)) (by decide)).trans el129)) ((hg204 b36 13 0 14 (qS86 _ _ (qb82 _ _ hs_y62)) (by decide)).trans ((hg197 b36 13 0 14 (qS86 _ _ (qb82 _ _ hs_y62)) (by decide)).trans el139)) ((hg204 b36 13 0 12 (qS86 _ _ (qb82 _ _ hs_y62)) (by decide)).trans ((hg197 b36 13 0 12 (qS86 _ _ (qb82 _ _ hs_y62)) (by decide)).trans el149)) ((hg204 b32 10 0 1 (qS86 _ _ (qb82 _ _ hk70)) (by decide)).trans k200) k207 ((hg204 b1 12 0 12 (qS86 _ _ (qb82 _ _ hk64)) (by decide)).trans ((hg197 b1 12 0 12 (qS86 _ _ (qb82 _ _ hk64)) (by decide)).trans ext9)) ((hg204 b36 13 0 3 (qS86 _ _ (qb82 _ _ hs_y62)) (by decide)).trans ((hg197 b36 13 0 3 (qS86 _ _ (qb82 _ _ hs_y62)) (by decide)).trans emt9)) ((hg204 b33 5 0 3 (qS86 _ _ (qb82 _ _ hk71)) (by decide)).trans ((hg197 b33 5 0 3 (qS86 _ _ (qb82 _ _ hk71)) (by decide)).trans exc9)) ((hg204 b36 13 0 69 (qS86 _ _ (qb82 _ _ hs_y62)) (by decide)).trans ((hg197 b36 13 0 69 (qS86 _ _ (qb82 _ _ hs_y62)) (by decide)).trans emc9)) ((hg204 b35 0 0 2 (qS86 _ _ (qb82 _ _ hk73)) (by decide)).trans ((hg197 b35 0 0 2 (qS86 _ _ (qb82 _ _ hk73)) (by decide)).trans exb9)) ((hg204 b36 13 0 16 (qS86 _ _ (qb82 _ _ hs_y62)) (by decide)).trans ((hg197 b36 13 0 16 (qS86 _ _ (qb82 _ _ hs_y62)) (by decide)).trans emb9)) ((hg204 b1 12 0 16 (qS86 _ _ (qb82 _ _ hk64)) (by decide)).trans ((hg197 b1 12 0 16 (qS86 _ _ (qb82 _ _ hk64)) (by decide)).trans exsh9)) ((hg204 b36 13 0 89 (qS86 _ _ (qb82 _ _ hs_y62)) (by decide)).trans ((hg197 b36 13 0 89 (qS86 _ _ (qb82 _ _ hs_y62)) (by decide)).trans emsh9)) ((hg204 b1 12 0 17 (qS86 _ _ (qb82 _ _ hk64)) (by decide)).trans ((hg197 b1 12 0 17 (qS86 _ _ (qb82 _ _ hk64)) (by decide)).trans exsp9)) ((hg204 b36 13 0 90 (qS86 _ _ (qb82 _ _ hs_y62)) (by decide)).trans ((hg197 b36 13 0 90 (qS86 _ _ (qb82 _ _ hs_y62)) (by decide)).trans emsp9)) ez210 (xWn.m (xWn.m wn9 (qS86 _ _ (qb82 _ _ hk69)) (qS86 _ _ (qb82 _ _ hk76)) hg197 xLe.rf (by decide)) (qS86 _ _ (qb82 _ _ hk69)) (qS86 _ _ (qb82 _ _ hk76)) hg204 xLe.rf (by decide)) (by rw [(Eq.trans (xv_m hg204 (qS86 _ _ (qb82 _ _ hk67)) (by decide) (by decide)) (xv_m hg197 (qS86 _ _ (qb82 _ _ hk67)) (by decide) (by decide))), (Eq.trans (xv_m hg204 (qS86 _ _ (qb82 _ _ hk74)) (by decide) (by decide)) (xv_m hg197 (qS86 _ _ (qb82 _ _ hk74)) (by decide) (by decide)))]; exact wt9) (by rw [(Eq.trans (xv_m hg204 (qS86 _ _ (qb82 _ _ hk68)) (by decide) (by decide)) (xv_m hg197 (qS86 _ _ (qb82 _ _ hk68)) (by decide) (by decide))), (Eq.trans (xv_m hg204 (qS86 _ _ (qb82 _ _ hk75)) (by decide) (by decide)) (xv_m hg197 (qS86 _ _ (qb82 _ _ hk75)) (by decide) (by decide)))]; exact ld9) iz210 (by rw [(Eq.trans (xv_m hg204 (qS86 _ _ (qb82 _ _ hs_b79)) (by decide) (by decide)) (xv_m hg197 (qS86 _ _ (qb82 _ _ hs_b79)) (by decide) (by decide))), (Eq.trans (xv_m hg204 (qS86 _ _ (qb82 _ _ hs_b80)) (by decide) (by decide)) (xv_m hg197 (qS86 _ _ (qb82 _ _ hs_b80)) (by decide) (by decide)))]; exact xTc.mono tc9 (by omega)) dc9 ds9 (by omega) (by omega) (by omega)
        · refine X_tableIn hK 458 6 (by decide) c91 (by decide) (by decide) dL_law_40 rfl (by decide) ?_
          refine X_aloadn hK (i := 1) 3 dL_law_458 rfl rfl ?_
          refine X_aloadn hK (i := 0) 4 dL_law_459 rfl rfl ?_
          refine X_iload hK (i := 4) 0 dL_law_460 rfl ?_
          refine X_iconst hK dL_law_462 ?_
          refine X_iadd hK dL_law_463 ?_
          refine X_scr hK hX hbl hbA hL (by omega) (by omega) dL_law_464 (fun z211 ez211 lz211 uz211 => ?_)
          refine X_callV hK [.int (iI z211)] [] lk_L_52 (c_X11_sky _ _ _ _ _ S86 g87 b1 z211 b18 b19 (qS86 _ _ (qb82 _ _ hk64)) (by omega) el49 (qS86 _ _ (qb82 _ _ hk65)) el59 (qS86 _ _ (qb82 _ _ hk66))) (qS86 _ _ (qb82 _ _ hk64)) ⟨by decide, rfl⟩ dL_law_465 rfl rfl (by simp [Value.category]) (by decide) (by omega) (by omega) (by decide) (fun r212 S214 g213 pr212 qr212 hg213 => ?_)
          obtain ⟨rfl, rfl, z215, rfl, lz215, uz215, k216⟩ := pr212
          refine X_st [.int (iI z215)] rfl ?_
          refine X_pop hK dL_law_468 rfl ?_
          refine X_aloadn hK (i := 2) 2 dL_law_469 rfl rfl ?_
          refine X_aloadn hK (i := 0) 4 dL_law_470 rfl rfl ?_
          refine X_iload hK (i := 4) 0 dL_law_471 rfl ?_
          refine X_iconst hK dL_law_473 ?_
          refine X_iadd hK dL_law_474 ?_
          refine X_scrK hK hX hbl hbA hL (by omega) (by omega) ez211 dL_law_475 ?_
          refine X_callV hK [.int (iI z211)] [] lk_L_55 (c_X12_sky _ _ _ _ _ S86 g87 b36 z211 sm9 b81 (qS86 _ _ (qb82 _ _ hs_y62)) (by omega) (by omega) emsm9 el119 (qS86 _ _ (qb82 _ _ hs_b81))) (qS86 _ _ (qb82 _ _ hs_y62)) ⟨by decide, rfl⟩ dL_law_476 rfl rfl (by simp [Value.category]) (by decide) (by omega) (by omega) (by decide) (fun r217 S219 g218 pr217 qr217 hg218 => ?_)
          obtain ⟨rfl, z220, rfl, lz220, uz220, k221⟩ := pr217
          refine X_st [.int (iI z220)] rfl ?_
          refine X_pop hK dL_law_479 rfl ?_
          refine X_goto hK 1465 dL_law_480 (by decide) ?_
          refine X_iinc hK (i := 4) (z := i9) (n := 6) 0 [(4, .int (iI (i9 + 6))), (3, .ref b82), (2, .ref b36), (1, .ref b1), (0, .ref b)] dL_law_1465 rfl (by decide) rfl ?_
          refine X_goto hK 23 dL_law_1468 (by decide) ?_
          exact ih9 S86 qS86 g218 (i9 + 6) k9 t9 c9 b9 sh9 sp9 sm9 (by omega) (by omega) (by omega) (by omega) (by omega) (by omega) (by omega) (by omega) (xLs_mod al9 hg218 (by decide)) si9 (xPi_m pi9 hg218 xLe.rf (by decide)) (xMp_m mp9 hg218 xLe.rf (by decide)) (xTw_m tw9 hg218 xLe.rf (by decide)) ((hg218 b1 12 0 0 (qS86 _ _ (qb82 _ _ hk64)) (by decide)).trans el09) ((hg218 b1 12 0 3 (qS86 _ _ (qb82 _ _ hk64)) (by decide)).trans el19) ((hg218 b1 12 0 1 (qS86 _ _ (qb82 _ _ hk64)) (by decide)).trans el29) ((hg218 b34 6 0 1 (qS86 _ _ (qb82 _ _ hk72)) (by decide)).trans el39) ((hg218 b1 12 0 2 (qS86 _ _ (qb82 _ _ hk64)) (by decide)).trans el49) ((hg218 b18 4 0 0 (qS86 _ _ (qb82 _ _ hk65)) (by decide)).trans el59) ((hg218 b18 4 0 2 (qS86 _ _ (qb82 _ _ hk65)) (by decide)).trans el69) ((hg218 b18 4 0 3 (qS86 _ _ (qb82 _ _ hk65)) (by decide)).trans el79) ((hg218 b18 4 0 4 (qS86 _ _ (qb82 _ _ hk65)) (by decide)).trans el89) ((hg218 b32 10 0 0 (qS86 _ _ (qb82 _ _ hk70)) (by decide)).trans el99) ((hg218 b36 13 0 1 (qS86 _ _ (qb82 _ _ hs_y62)) (by decide)).trans el109) ((hg218 b36 13 0 10 (qS86 _ _ (qb82 _ _ hs_y62)) (by decide)).trans el119) ((hg218 b36 13 0 13 (qS86 _ _ (qb82 _ _ hs_y62)) (by decide)).trans el129) ((hg218 b36 13 0 14 (qS86 _ _ (qb82 _ _ hs_y62)) (by decide)).trans el139) ((hg218 b36 13 0 12 (qS86 _ _ (qb82 _ _ hs_y62)) (by decide)).trans el149) ((hg218 b32 10 0 1 (qS86 _ _ (qb82 _ _ hk70)) (by decide)).trans exk9) ((hg218 b36 13 0 2 (qS86 _ _ (qb82 _ _ hs_y62)) (by decide)).trans emk9) ((hg218 b1 12 0 12 (qS86 _ _ (qb82 _ _ hk64)) (by decide)).trans ext9) ((hg218 b36 13 0 3 (qS86 _ _ (qb82 _ _ hs_y62)) (by decide)).trans emt9) ((hg218 b33 5 0 3 (qS86 _ _ (qb82 _ _ hk71)) (by decide)).trans exc9) ((hg218 b36 13 0 69 (qS86 _ _ (qb82 _ _ hs_y62)) (by decide)).trans emc9) ((hg218 b35 0 0 2 (qS86 _ _ (qb82 _ _ hk73)) (by decide)).trans exb9) ((hg218 b36 13 0 16 (qS86 _ _ (qb82 _ _ hs_y62)) (by decide)).trans emb9) ((hg218 b1 12 0 16 (qS86 _ _ (qb82 _ _ hk64)) (by decide)).trans exsh9) ((hg218 b36 13 0 89 (qS86 _ _ (qb82 _ _ hs_y62)) (by decide)).trans emsh9) ((hg218 b1 12 0 17 (qS86 _ _ (qb82 _ _ hk64)) (by decide)).trans exsp9) ((hg218 b36 13 0 90 (qS86 _ _ (qb82 _ _ hs_y62)) (by decide)).trans emsp9) ((hg218 b36 13 0 17 (qS86 _ _ (qb82 _ _ hs_y62)) (by decide)).trans emsm9) (xWn.m wn9 (qS86 _ _ (qb82 _ _ hk69)) (qS86 _ _ (qb82 _ _ hk76)) hg218 xLe.rf (by decide)) (by rw [(xv_m hg218 (qS86 _ _ (qb82 _ _ hk67)) (by decide) (by decide)), (xv_m hg218 (qS86 _ _ (qb82 _ _ hk74)) (by decide) (by decide))]; exact wt9) (by rw [(xv_m hg218 (qS86 _ _ (qb82 _ _ hk68)) (by decide) (by decide)), (xv_m hg218 (qS86 _ _ (qb82 _ _ hk75)) (by decide) (by decide))]; exact ld9) (by rw [(xv_m hg218 (qS86 _ _ (qb82 _ _ hk66)) (by decide) (by decide)), (xv_m hg218 (qS86 _ _ (qb82 _ _ hs_b81)) (by decide) (by decide))]; exact sk9) (by rw [(xv_m hg218 (qS86 _ _ (qb82 _ _ hs_b79)) (by decide) (by decide)), (xv_m hg218 (qS86 _ _ (qb82 _ _ hs_b80)) (by decide) (by decide))]; exact xTc.mono tc9 (by omega)) dc9 ds9 (by omega) (by omega) (by omega)
        · refine X_tableIn hK 483 7 (by decide) c91 (by decide) (by decide) dL_law_40 rfl (by decide) ?_
          refine X_aloadn hK (i := 1) 3 dL_law_483 rfl rfl ?_
          refine X_aloadn hK (i := 0) 4 dL_law_484 rfl rfl ?_
          refine X_iload hK (i := 4) 0 dL_law_485 rfl ?_
          refine X_iconst hK dL_law_487 ?_
          refine X_iadd hK dL_law_488 ?_
          refine X_scr hK hX hbl hbA hL (by omega) (by omega) dL_law_489 (fun z222 ez222 lz222 uz222 => ?_)
          refine X_aloadn hK (i := 0) 4 dL_law_490 rfl rfl ?_
          refine X_iload hK (i := 4) 0 dL_law_491 rfl ?_
          refine X_iconst hK dL_law_493 ?_
          refine X_iadd hK dL_law_494 ?_
          refine X_scr hK hX hbl hbA hL (by omega) (by omega) dL_law_495 (fun z223 ez223 lz223 uz223 => ?_)
          refine X_aloadn hK (i := 0) 4 dL_law_496 rfl rfl ?_
          refine X_iload hK (i := 4) 0 dL_law_497 rfl ?_
          refine X_iconst hK dL_law_499 ?_
          refine X_iadd hK dL_law_500 ?_
          refine X_scr hK hX hbl hbA hL (by omega) (by omega) dL_law_501 (fun z224 ez224 lz224 uz224 => ?_)
          refine X_callV hK [.int (iI z222), .int (iI z223), .int (iI z224)] [] lk_L_56 (c_X11_headline _ _ _ _ _ S86 g87 b1 z222 z223 z224 t9 (qS86 _ _ (qb82 _ _ hk64)) (by omega) (by omega) (by omega) (by omega) ext9) (qS86 _ _ (qb82 _ _ hk64)) ⟨by decide, rfl⟩ dL_law_502 rfl rfl (by simp [Value.category]) (by decide) (by omega) (by omega) (by decide) (fun r225 S227 g226 pr225 qr225 hg226 => ?_)
          obtain ⟨rfl, z228, rfl, lz228, uz228, k229⟩ := pr225
          refine X_st [.int (iI z228)] rfl ?_
          refine X_pop hK dL_law_505 rfl ?_
          refine X_aloadn hK (i := 2) 2 dL_law_506 rfl rfl ?_
          refine X_aloadn hK (i := 0) 4 dL_law_507 rfl rfl ?_
          refine X_iload hK (i := 4) 0 dL_law_508 rfl ?_
          refine X_iconst hK dL_law_510 ?_
          refine X_iadd hK dL_law_511 ?_
          refine X_scrK hK hX hbl hbA hL (by omega) (by omega) ez222 dL_law_512 ?_
          refine X_aloadn hK (i := 0) 4 dL_law_513 rfl rfl ?_
          refine X_iload hK (i := 4) 0 dL_law_514 rfl ?_
          refine X_iconst hK dL_law_516 ?_
          refine X_iadd hK dL_law_517 ?_
          refine X_scrK hK hX hbl hbA hL (by omega) (by omega) ez223 dL_law_518 ?_
          refine X_aloadn hK (i := 0) 4 dL_law_519 rfl rfl ?_
          refine X_iload hK (i := 4) 0 dL_law_520 rfl ?_
          refine X_iconst hK dL_law_522 ?_
          refine X_iadd hK dL_law_523 ?_
          refine X_scrK hK hX hbl hbA hL (by omega) (by omega) ez224 dL_law_524 ?_
          refine X_callV hK [.int (iI z222), .int (iI z223), .int (iI z224)] [] lk_L_60 (c_X12_headline _ _ _ _ _ S86 g226 b36 z222 z223 z224 t9 (qS86 _ _ (qb82 _ _ hs_y62)) (by omega) (by omega) (by omega) (by omega) ((hg226 b36 13 0 3 (qS86 _ _ (qb82 _ _ hs_y62)) (by decide)).trans emt9)) (qS86 _ _ (qb82 _ _ hs_y62)) ⟨by decide, rfl⟩ dL_law_525 rfl rfl (by simp [Value.category]) (by decide) (by omega) (by omega) (by decide) (fun r230 S232 g231 pr230 qr230 hg231 => ?_)
          obtain ⟨rfl, z233, rfl, lz233, uz233, k234⟩ := pr230
          refine X_st [.int (iI z233)] rfl ?_
          refine X_pop hK dL_law_528 rfl ?_
          refine X_goto hK 1465 dL_law_529 (by decide) ?_
          refine X_iinc hK (i := 4) (z := i9) (n := 6) 0 [(4, .int (iI (i9 + 6))), (3, .ref b82), (2, .ref b36), (1, .ref b1), (0, .ref b)] dL_law_1465 rfl (by decide) rfl ?_
          refine X_goto hK 23 dL_law_1468 (by decide) ?_
          exact ih9 S86 qS86 g231 (i9 + 6) k9 t9 c9 b9 sh9 sp9 sm9 (by omega) (by omega) (by omega) (by omega) (by omega) (by omega) (by omega) (by omega) (xLs_mod (xLs_mod al9 hg226 (by decide)) hg231 (by decide)) si9 (xPi_m (xPi_m pi9 hg226 xLe.rf (by decide)) hg231 xLe.rf (by decide)) (xMp_m (xMp_m mp9 hg226 xLe.rf (by decide)) hg231 xLe.rf (by decide)) (xTw_m (xTw_m tw9 hg226 xLe.rf (by decide)) hg231 xLe.rf (by decide)) ((hg231 b1 12 0 0 (qS86 _ _ (qb82 _ _ hk64)) (by decide)).trans ((hg226 b1 12 0 0 (qS86 _ _ (qb82 _ _ hk64)) (by decide)).trans el09)) ((hg231 b1 12 0 3 (qS86 _ _ (qb82 _ _ hk64)) (by decide)).trans ((hg226 b1 12 0 3 (qS86 _ _ (qb82 _ _ hk64)) (by decide)).trans el19)) ((hg231 b1 12 0 1 (qS86 _ _ (qb82 _ _ hk64)) (by decide)).trans ((hg226 b1 12 0 1 (qS86 _ _ (qb82 _ _ hk64)) (by decide)).trans el29)) ((hg231 b34 6 0 1 (qS86 _ _ (qb82 _ _ hk72)) (by decide)).trans ((hg226 b34 6 0 1 (qS86 _ _ (qb82 _ _ hk72)) (by decide)).trans el39)) ((hg231 b1 12 0 2 (qS86 _ _ (qb82 _ _ hk64)) (by decide)).trans ((hg226 b1 12 0 2 (qS86 _ _ (qb82 _ _ hk64)) (by decide)).trans el49)) ((hg231 b18 4 0 0 (qS86 _ _ (qb82 _ _ hk65)) (by decide)).trans ((hg226 b18 4 0 0 (qS86 _ _ (qb82 _ _ hk65)) (by decide)).trans el59)) ((hg231 b18 4 0 2 (qS86 _ _ (qb82 _ _ hk65)) (by decide)).trans ((hg226 b18 4 0 2 (qS86 _ _ (qb82 _ _ hk65)) (by decide)).trans el69)) ((hg231 b18 4 0 3 (qS86 _ _ (qb82 _ _ hk65)) (by decide)).trans ((hg226 b18 4 0 3 (qS86 _ _ (qb82 _ _ hk65)) (by decide)).trans el79)) ((hg231 b18 4 0 4 (qS86 _ _ (qb82 _ _ hk65)) (by decide)).trans ((hg226 b18 4 0 4 (qS86 _ _ (qb82 _ _ hk65)) (by decide)).trans el89)) ((hg231 b32 10 0 0 (qS86 _ _ (qb82 _ _ hk70)) (by decide)).trans ((hg226 b32 10 0 0 (qS86 _ _ (qb82 _ _ hk70)) (by decide)).trans el99)) ((hg231 b36 13 0 1 (qS86 _ _ (qb82 _ _ hs_y62)) (by decide)).trans ((hg226 b36 13 0 1 (qS86 _ _ (qb82 _ _ hs_y62)) (by decide)).trans el109)) ((hg231 b36 13 0 10 (qS86 _ _ (qb82 _ _ hs_y62)) (by decide)).trans ((hg226 b36 13 0 10 (qS86 _ _ (qb82 _ _ hs_y62)) (by decide)).trans el119)) ((hg231 b36 13 0 13 (qS86 _ _ (qb82 _ _ hs_y62)) (by decide)).trans ((hg226 b36 13 0 13 (qS86 _ _ (qb82 _ _ hs_y62)) (by decide)).trans el129)) ((hg231 b36 13 0 14 (qS86 _ _ (qb82 _ _ hs_y62)) (by decide)).trans ((hg226 b36 13 0 14 (qS86 _ _ (qb82 _ _ hs_y62)) (by decide)).trans el139)) ((hg231 b36 13 0 12 (qS86 _ _ (qb82 _ _ hs_y62)) (by decide)).trans ((hg226 b36 13 0 12 (qS86 _ _ (qb82 _ _ hs_y62)) (by decide)).trans el149)) ((hg231 b32 10 0 1 (qS86 _ _ (qb82 _ _ hk70)) (by decide)).trans ((hg226 b32 10 0 1 (qS86 _ _ (qb82 _ _ hk70)) (by decide)).trans exk9)) ((hg231 b36 13 0 2 (qS86 _ _ (qb82 _ _ hs_y62)) (by decide)).trans ((hg226 b36 13 0 2 (qS86 _ _ (qb82 _ _ hs_y62)) (by decide)).trans emk9)) ((hg231 b1 12 0 12 (qS86 _ _ (qb82 _ _ hk64)) (by decide)).trans ((hg226 b1 12 0 12 (qS86 _ _ (qb82 _ _ hk64)) (by decide)).trans ext9)) ((hg231 b36 13 0 3 (qS86 _ _ (qb82 _ _ hs_y62)) (by decide)).trans ((hg226 b36 13 0 3 (qS86 _ _ (qb82 _ _ hs_y62)) (by decide)).trans emt9)) ((hg231 b33 5 0 3 (qS86 _ _ (qb82 _ _ hk71)) (by decide)).trans ((hg226 b33 5 0 3 (qS86 _ _ (qb82 _ _ hk71)) (by decide)).trans exc9)) ((hg231 b36 13 0 69 (qS86 _ _ (qb82 _ _ hs_y62)) (by decide)).trans ((hg226 b36 13 0 69 (qS86 _ _ (qb82 _ _ hs_y62)) (by decide)).trans emc9)) ((hg231 b35 0 0 2 (qS86 _ _ (qb82 _ _ hk73)) (by decide)).trans ((hg226 b35 0 0 2 (qS86 _ _ (qb82 _ _ hk73)) (by decide)).trans exb9)) ((hg231 b36 13 0 16 (qS86 _ _ (qb82 _ _ hs_y62)) (by decide)).trans ((hg226 b36 13 0 16 (qS86 _ _ (qb82 _ _ hs_y62)) (by decide)).trans emb9)) ((hg231 b1 12 0 16 (qS86 _ _ (qb82 _ _ hk64)) (by decide)).trans ((hg226 b1 12 0 16 (qS86 _ _ (qb82 _ _ hk64)) (by decide)).trans exsh9)) ((hg231 b36 13 0 89 (qS86 _ _ (qb82 _ _ hs_y62)) (by decide)).trans ((hg226 b36 13 0 89 (qS86 _ _ (qb82 _ _ hs_y62)) (by decide)).trans emsh9)) ((hg231 b1 12 0 17 (qS86 _ _ (qb82 _ _ hk64)) (by decide)).trans ((hg226 b1 12 0 17 (qS86 _ _ (qb82 _ _ hk64)) (by decide)).trans exsp9)) ((hg231 b36 13 0 90 (qS86 _ _ (qb82 _ _ hs_y62)) (by decide)).trans ((hg226 b36 13 0 90 (qS86 _ _ (qb82 _ _ hs_y62)) (by decide)).trans emsp9)) ((hg231 b36 13 0 17 (qS86 _ _ (qb82 _ _ hs_y62)) (by decide)).trans ((hg226 b36 13 0 17 (qS86 _ _ (qb82 _ _ hs_y62)) (by decide)).trans emsm9)) (xWn.m (xWn.m wn9 (qS86 _ _ (qb82 _ _ hk69)) (qS86 _ _ (qb82 _ _ hk76)) hg226 xLe.rf (by decide)) (qS86 _ _ (qb82 _ _ hk69)) (qS86 _ _ (qb82 _ _ hk76)) hg231 xLe.rf (by decide)) (by rw [(Eq.trans (xv_m hg231 (qS86 _ _ (qb82 _ _ hk67)) (by decide) (by decide)) (xv_m hg226 (qS86 _ _ (qb82 _ _ hk67)) (by decide) (by decide))), (Eq.trans (xv_m hg231 (qS86 _ _ (qb82 _ _ hk74)) (by decide) (by decide)) (xv_m hg226 (qS86 _ _ (qb82 _ _ hk74)) (by decide) (by decide)))]; exact wt9) (by rw [(Eq.trans (xv_m hg231 (qS86 _ _ (qb82 _ _ hk68)) (by decide) (by decide)) (xv_m hg226 (qS86 _ _ (qb82 _ _ hk68)) (by decide) (by decide))), (Eq.trans (xv_m hg231 (qS86 _ _ (qb82 _ _ hk75)) (by decide) (by decide)) (xv_m hg226 (qS86 _ _ (qb82 _ _ hk75)) (by decide) (by decide)))]; exact ld9) (by rw [(Eq.trans (xv_m hg231 (qS86 _ _ (qb82 _ _ hk66)) (by decide) (by decide)) (xv_m hg226 (qS86 _ _ (qb82 _ _ hk66)) (by decide) (by decide))), (Eq.trans (xv_m hg231 (qS86 _ _ (qb82 _ _ hs_b81)) (by decide) (by decide)) (xv_m hg226 (qS86 _ _ (qb82 _ _ hs_b81)) (by decide) (by decide)))]; exact sk9) (by rw [(Eq.trans (xv_m hg231 (qS86 _ _ (qb82 _ _ hs_b79)) (by decide) (by decide)) (xv_m hg226 (qS86 _ _ (qb82 _ _ hs_b79)) (by decide) (by decide))), (Eq.trans (xv_m hg231 (qS86 _ _ (qb82 _ _ hs_b80)) (by decide) (by decide)) (xv_m hg226 (qS86 _ _ (qb82 _ _ hs_b80)) (by decide) (by decide)))]; exact xTc.mono tc9 (by omega)) dc9 ds9 (by omega) (by omega) (by omega)
        · refine X_tableIn hK 532 8 (by decide) c91 (by decide) (by decide) dL_law_40 rfl (by decide) ?_
          refine X_aloadn hK (i := 1) 3 dL_law_532 rfl rfl ?_
          refine X_aloadn hK (i := 0) 4 dL_law_533 rfl rfl ?_
          refine X_iload hK (i := 4) 0 dL_law_534 rfl ?_
          refine X_iconst hK dL_law_536 ?_
          refine X_iadd hK dL_law_537 ?_
          refine X_scr hK hX hbl hbA hL (by omega) (by omega) dL_law_538 (fun z235 ez235 lz235 uz235 => ?_)
          refine X_aloadn hK (i := 0) 4 dL_law_539 rfl rfl ?_
          refine X_iload hK (i := 4) 0 dL_law_540 rfl ?_
          refine X_iconst hK dL_law_542 ?_
          refine X_iadd hK dL_law_543 ?_
          refine X_scr hK hX hbl hbA hL (by omega) (by omega) dL_law_544 (fun z236 ez236 lz236 uz236 => ?_)
          refine X_aloadn hK (i := 0) 4 dL_law_545 rfl rfl ?_
          refine X_iload hK (i := 4) 0 dL_law_546 rfl ?_
          refine X_iconst hK dL_law_548 ?_
          refine X_iadd hK dL_law_549 ?_
          refine X_scr hK hX hbl hbA hL (by omega) (by omega) dL_law_550 (fun z237 ez237 lz237 uz237 => ?_)
          refine X_callV hK [.int (iI z235), .int (iI z236), .int (iI z237)] [] lk_L_61 (c_X11_table _ _ _ _ _ S86 g87 b1 z235 z236 z237 b18 b20 b21 (qS86 _ _ (qb82 _ _ hk64)) (by omega) (by omega) (by omega) el49 (qS86 _ _ (qb82 _ _ hk65)) el69 (qS86 _ _ (qb82 _ _ hk67)) el79 (qS86 _ _ (qb82 _ _ hk68))) (qS86 _ _ (qb82 _ _ hk64)) ⟨by decide, rfl⟩ dL_law_551 rfl rfl (by simp [Value.category]) (by decide) (by omega) (by omega) (by decide) (fun r238 S240 g239 pr238 qr238 hg239 => ?_)
          obtain ⟨rfl, z241, rfl, lz241, uz241, k242, k243⟩ := pr238
          refine X_st [.int (iI z241)] rfl ?_
          refine X_pop hK dL_law_554 rfl ?_
          refine X_aloadn hK (i := 2) 2 dL_law_555 rfl rfl ?_
          refine X_aloadn hK (i := 0) 4 dL_law_556 rfl rfl ?_
          refine X_iload hK (i := 4) 0 dL_law_557 rfl ?_
          refine X_iconst hK dL_law_559 ?_
          refine X_iadd hK dL_law_560 ?_
          refine X_scrK hK hX hbl hbA hL (by omega) (by omega) ez235 dL_law_561 ?_
          refine X_aloadn hK (i := 0) 4 dL_law_562 rfl rfl ?_
          refine X_iload hK (i := 4) 0 dL_law_563 rfl ?_
          refine X_iconst hK dL_law_565 ?_
          refine X_iadd hK dL_law_566 ?_
          refine X_scrK hK hX hbl hbA hL (by omega) (by omega) ez236 dL_law_567 ?_
          refine X_aloadn hK (i := 0) 4 dL_law_568 rfl rfl ?_
          refine X_iload hK (i := 4) 0 dL_law_569 rfl ?_
          refine X_iconst hK dL_law_571 ?_
          refine X_iadd hK dL_law_572 ?_
          refine X_scrK hK hX hbl hbA hL (by omega) (by omega) ez237 dL_law_573 ?_
          refine X_callV hK [.int (iI z235), .int (iI z236), .int (iI z237)] [] lk_L_64 (c_X12_table _ _ _ _ _ S86 g239 b36 z235 z236 z237 b58 b59 (qS86 _ _ (qb82 _ _ hs_y62)) (by omega) (by omega) (by omega) ((hg239 b36 13 0 13 (qS86 _ _ (qb82 _ _ hs_y62)) (by decide)).trans el129) (qS86 _ _ (qb82 _ _ hk74)) ((hg239 b36 13 0 14 (qS86 _ _ (qb82 _ _ hs_y62)) (by decide)).trans el139) (qS86 _ _ (qb82 _ _ hk75))) (qS86 _ _ (qb82 _ _ hs_y62)) ⟨by decide, rfl⟩ dL_law_574 rfl rfl (by simp [Value.category]) (by decide) (by omega) (by omega) (by decide) (fun r244 S246 g245 pr244 qr244 hg245 => ?_)
          obtain ⟨rfl, z247, rfl, lz247, uz247, k248, k249⟩ := pr244
          refine X_st [.int (iI z247)] rfl ?_
          have tb250 := xTb.tc (by rw [(xv_m hg239 (qS86 _ _ (qb82 _ _ hk74)) (by decide) (by decide))]; exact wt9) (by rw [(xv_m hg239 (qS86 _ _ (qb82 _ _ hk75)) (by decide) (by decide))]; exact ld9) k243 k249 (by omega)
          refine X_pop hK dL_law_577 rfl ?_
          refine X_goto hK 1465 dL_law_578 (by decide) ?_
          refine X_iinc hK (i := 4) (z := i9) (n := 6) 0 [(4, .int (iI (i9 + 6))), (3, .ref b82), (2, .ref b36), (1, .ref b1), (0, .ref b)] dL_law_1465 rfl (by decide) rfl ?_
          refine X_goto hK 23 dL_law_1468 (by decide) ?_
          exact ih9 S86 qS86 g245 (i9 + 6) k9 t9 c9 b9 sh9 sp9 sm9 (by omega) (by omega) (by omega) (by omega) (by omega) (by omega) (by omega) (by omega) (xLs_mod (xLs_mod al9 hg239 (by decide)) hg245 (by decide)) si9 (xPi_m (xPi_m pi9 hg239 xLe.rf (by decide)) hg245 xLe.rf (by decide)) (xMp_m (xMp_m mp9 hg239 xLe.rf (by decide)) hg245 xLe.rf (by decide)) (xTw_m (xTw_m tw9 hg239 xLe.rf (by decide)) hg245 xLe.rf (by decide)) ((hg245 b1 12 0 0 (qS86 _ _ (qb82 _ _ hk64)) (by decide)).trans ((hg239 b1 12 0 0 (qS86 _ _ (qb82 _ _ hk64)) (by decide)).trans el09)) ((hg245 b1 12 0 3 (qS86 _ _ (qb82 _ _ hk64)) (by decide)).trans ((hg239 b1 12 0 3 (qS86 _ _ (qb82 _ _ hk64)) (by decide)).trans el19)) ((hg245 b1 12 0 1 (qS86 _ _ (qb82 _ _ hk64)) (by decide)).trans ((hg239 b1 12 0 1 (qS86 _ _ (qb82 _ _ hk64)) (by decide)).trans el29)) ((hg245 b34 6 0 1 (qS86 _ _ (qb82 _ _ hk72)) (by decide)).trans ((hg239 b34 6 0 1 (qS86 _ _ (qb82 _ _ hk72)) (by decide)).trans el39)) ((hg245 b1 12 0 2 (qS86 _ _ (qb82 _ _ hk64)) (by decide)).trans ((hg239 b1 12 0 2 (qS86 _ _ (qb82 _ _ hk64)) (by decide)).trans el49)) ((hg245 b18 4 0 0 (qS86 _ _ (qb82 _ _ hk65)) (by decide)).trans ((hg239 b18 4 0 0 (qS86 _ _ (qb82 _ _ hk65)) (by decide)).trans el59)) ((hg245 b18 4 0 2 (qS86 _ _ (qb82 _ _ hk65)) (by decide)).trans ((hg239 b18 4 0 2 (qS86 _ _ (qb82 _ _ hk65)) (by decide)).trans el69)) ((hg245 b18 4 0 3 (qS86 _ _ (qb82 _ _ hk65)) (by decide)).trans ((hg239 b18 4 0 3 (qS86 _ _ (qb82 _ _ hk65)) (by decide)).trans el79)) ((hg245 b18 4 0 4 (qS86 _ _ (qb82 _ _ hk65)) (by decide)).trans ((hg239 b18 4 0 4 (qS86 _ _ (qb82 _ _ hk65)) (by decide)).trans el89)) ((hg245 b32 10 0 0 (qS86 _ _ (qb82 _ _ hk70)) (by decide)).trans ((hg239 b32 10 0 0 (qS86 _ _ (qb82 _ _ hk70)) (by decide)).trans el99)) ((hg245 b36 13 0 1 (qS86 _ _ (qb82 _ _ hs_y62)) (by decide)).trans ((hg239 b36 13 0 1 (qS86 _ _ (qb82 _ _ hs_y62)) (by decide)).trans el109)) ((hg245 b36 13 0 10 (qS86 _ _ (qb82 _ _ hs_y62)) (by decide)).trans ((hg239 b36 13 0 10 (qS86 _ _ (qb82 _ _ hs_y62)) (by decide)).trans el119)) ((hg245 b36 13 0 13 (qS86 _ _ (qb82 _ _ hs_y62)) (by decide)).trans ((hg239 b36 13 0 13 (qS86 _ _ (qb82 _ _ hs_y62)) (by decide)).trans el129)) ((hg245 b36 13 0 14 (qS86 _ _ (qb82 _ _ hs_y62)) (by decide)).trans ((hg239 b36 13 0 14 (qS86 _ _ (qb82 _ _ hs_y62)) (by decide)).trans el139)) ((hg245 b36 13 0 12 (qS86 _ _ (qb82 _ _ hs_y62)) (by decide)).trans ((hg239 b36 13 0 12 (qS86 _ _ (qb82 _ _ hs_y62)) (by decide)).trans el149)) ((hg245 b32 10 0 1 (qS86 _ _ (qb82 _ _ hk70)) (by decide)).trans ((hg239 b32 10 0 1 (qS86 _ _ (qb82 _ _ hk70)) (by decide)).trans exk9)) ((hg245 b36 13 0 2 (qS86 _ _ (qb82 _ _ hs_y62)) (by decide)).trans ((hg239 b36 13 0 2 (qS86 _ _ (qb82 _ _ hs_y62)) (by decide)).trans emk9)) ((hg245 b1 12 0 12 (qS86 _ _ (qb82 _ _ hk64)) (by decide)).trans ((hg239 b1 12 0 12 (qS86 _ _ (qb82 _ _ hk64)) (by decide)).trans ext9)) ((hg245 b36 13 0 3 (qS86 _ _ (qb82 _ _ hs_y62)) (by decide)).trans ((hg239 b36 13 0 3 (qS86 _ _ (qb82 _ _ hs_y62)) (by decide)).trans emt9)) ((hg245 b33 5 0 3 (qS86 _ _ (qb82 _ _ hk71)) (by decide)).trans ((hg239 b33 5 0 3 (qS86 _ _ (qb82 _ _ hk71)) (by decide)).trans exc9)) ((hg245 b36 13 0 69 (qS86 _ _ (qb82 _ _ hs_y62)) (by decide)).trans ((hg239 b36 13 0 69 (qS86 _ _ (qb82 _ _ hs_y62)) (by decide)).trans emc9)) ((hg245 b35 0 0 2 (qS86 _ _ (qb82 _ _ hk73)) (by decide)).trans ((hg239 b35 0 0 2 (qS86 _ _ (qb82 _ _ hk73)) (by decide)).trans exb9)) ((hg245 b36 13 0 16 (qS86 _ _ (qb82 _ _ hs_y62)) (by decide)).trans ((hg239 b36 13 0 16 (qS86 _ _ (qb82 _ _ hs_y62)) (by decide)).trans emb9)) ((hg245 b1 12 0 16 (qS86 _ _ (qb82 _ _ hk64)) (by decide)).trans ((hg239 b1 12 0 16 (qS86 _ _ (qb82 _ _ hk64)) (by decide)).trans exsh9)) ((hg245 b36 13 0 89 (qS86 _ _ (qb82 _ _ hs_y62)) (by decide)).trans ((hg239 b36 13 0 89 (qS86 _ _ (qb82 _ _ hs_y62)) (by decide)).trans emsh9)) ((hg245 b1 12 0 17 (qS86 _ _ (qb82 _ _ hk64)) (by decide)).trans ((hg239 b1 12 0 17 (qS86 _ _ (qb82 _ _ hk64)) (by decide)).trans exsp9)) ((hg245 b36 13 0 90 (qS86 _ _ (qb82 _ _ hs_y62)) (by decide)).trans ((hg239 b36 13 0 90 (qS86 _ _ (qb82 _ _ hs_y62)) (by decide)).trans emsp9)) ((hg245 b36 13 0 17 (qS86 _ _ (qb82 _ _ hs_y62)) (by decide)).trans ((hg239 b36 13 0 17 (qS86 _ _ (qb82 _ _ hs_y62)) (by decide)).trans emsm9)) (xWn.m (xWn.m wn9 (qS86 _ _ (qb82 _ _ hk69)) (qS86 _ _ (qb82 _ _ hk76)) hg239 xLe.rf (by decide)) (qS86 _ _ (qb82 _ _ hk69)) (qS86 _ _ (qb82 _ _ hk76)) hg245 xLe.rf (by decide)) (by rw [(xv_m hg245 (qS86 _ _ (qb82 _ _ hk67)) (by decide) (by decide))]; exact tb250.1) (by rw [(xv_m hg245 (qS86 _ _ (qb82 _ _ hk68)) (by decide) (by decide))]; exact tb250.2) (by rw [(Eq.trans (xv_m hg245 (qS86 _ _ (qb82 _ _ hk66)) (by decide) (by decide)) (xv_m hg239 (qS86 _ _ (qb82 _ _ hk66)) (by decide) (by decide))), (Eq.trans (xv_m hg245 (qS86 _ _ (qb82 _ _ hs_b81)) (by decide) (by decide)) (xv_m hg239 (qS86 _ _ (qb82 _ _ hs_b81)) (by decide) (by decide)))]; exact sk9) (by rw [(Eq.trans (xv_m hg245 (qS86 _ _ (qb82 _ _ hs_b79)) (by decide) (by decide)) (xv_m hg239 (qS86 _ _ (qb82 _ _ hs_b79)) (by decide) (by decide))), (Eq.trans (xv_m hg245 (qS86 _ _ (qb82 _ _ hs_b80)) (by decide) (by decide)) (xv_m hg239 (qS86 _ _ (qb82 _ _ hs_b80)) (by decide) (by decide)))]; exact xTc.mono tc9 (by omega)) dc9 ds9 (by omega) (by omega) (by omega)
        · refine X_tableIn hK 581 9 (by decide) c91 (by decide) (by decide) dL_law_40 rfl (by decide) ?_
          refine X_aloadn hK (i := 1) 3 dL_law_581 rfl rfl ?_
          refine X_aloadn hK (i := 0) 4 dL_law_582 rfl rfl ?_
          refine X_iload hK (i := 4) 0 dL_law_583 rfl ?_
          refine X_iconst hK dL_law_585 ?_
          refine X_iadd hK dL_law_586 ?_
          refine X_scr hK hX hbl hbA hL (by omega) (by omega) dL_law_587 (fun z251 ez251 lz251 uz251 => ?_)
          refine X_aloadn hK (i := 0) 4 dL_law_588 rfl rfl ?_
          refine X_iload hK (i := 4) 0 dL_law_589 rfl ?_
          refine X_iconst hK dL_law_591 ?_
          refine X_iadd hK dL_law_592 ?_
          refine X_scr hK hX hbl hbA hL (by omega) (by omega) dL_law_593 (fun z252 ez252 lz252 uz252 => ?_)
          refine X_aloadn hK (i := 0) 4 dL_law_594 rfl rfl ?_
          refine X_iload hK (i := 4) 0 dL_law_595 rfl ?_
          refine X_iconst hK dL_law_597 ?_
          refine X_iadd hK dL_law_598 ?_
          refine X_scr hK hX hbl hbA hL (by omega) (by omega) dL_law_599 (fun z253 ez253 lz253 uz253 => ?_)
          refine X_callV hK [.int (iI z251), .int (iI z252), .int (iI z253)] [] lk_L_65 (c_X11_want _ _ _ _ _ S86 g87 b1 z251 z252 z253 b18 b22 (qS86 _ _ (qb82 _ _ hk64)) (by omega) (by omega) (by omega) el49 (qS86 _ _ (qb82 _ _ hk65)) el89 (qS86 _ _ (qb82 _ _ hk69))) (qS86 _ _ (qb82 _ _ hk64)) ⟨by decide, rfl⟩ dL_law_600 rfl rfl (by simp [Value.category]) (by decide) (by omega) (by omega) (by decide) (fun r254 S256 g255 pr254 qr254 hg255 => ?_)
          obtain ⟨rfl, z257, rfl, lz257, uz257, k258, k259⟩ := pr254
          refine X_st [.int (iI z257)] rfl ?_
          refine X_pop hK dL_law_603 rfl ?_
          refine X_aloadn hK (i := 2) 2 dL_law_604 rfl rfl ?_
          refine X_aloadn hK (i := 0) 4 dL_law_605 rfl rfl ?_
          refine X_iload hK (i := 4) 0 dL_law_606 rfl ?_
          refine X_iconst hK dL_law_608 ?_
          refine X_iadd hK dL_law_609 ?_
          refine X_scrK hK hX hbl hbA hL (by omega) (by omega) ez251 dL_law_610 ?_
          refine X_aloadn hK (i := 0) 4 dL_law_611 rfl rfl ?_
          refine X_iload hK (i := 4) 0 dL_law_612 rfl ?_
          refine X_iconst hK dL_law_614 ?_
          refine X_iadd hK dL_law_615 ?_
          refine X_scrK hK hX hbl hbA hL (by omega) (by omega) ez252 dL_law_616 ?_
          refine X_aloadn hK (i := 0) 4 dL_law_617 rfl rfl ?_
          refine X_iload hK (i := 4) 0 dL_law_618 rfl ?_
          refine X_iconst hK dL_law_620 ?_
          refine X_iadd hK dL_law_621 ?_
          refine X_scrK hK hX hbl hbA hL (by omega) (by omega) ez253 dL_law_622 ?_
          refine X_callV hK [.int (iI z251), .int (iI z252), .int (iI z253)] [] lk_L_68 (c_X12_want _ _ _ _ _ S86 g255 b36 z251 z252 z253 b60 (qS86 _ _ (qb82 _ _ hs_y62)) (by omega) (by omega) (by omega) ((hg255 b36 13 0 12 (qS86 _ _ (qb82 _ _ hs_y62)) (by decide)).trans el149) (qS86 _ _ (qb82 _ _ hk76))) (qS86 _ _ (qb82 _ _ hs_y62)) ⟨by decide, rfl⟩ dL_law_623 rfl rfl (by simp [Value.category]) (by decide) (by omega) (by omega) (by decide) (fun r260 S262 g261 pr260 qr260 hg261 => ?_)
          obtain ⟨rfl, z263, rfl, lz263, uz263, k264, k265⟩ := pr260
          refine X_st [.int (iI z263)] rfl ?_
          have wn266 : xWn S86 g261 b22 b60 := by
            by_cases h9 : z257 = 1
            · obtain ⟨w9, a1, a2, a3⟩ := k259.1 h9
              have hb9 := k258.mp h9
              exact xWn.up wn9 (by omega) (by omega) a1 a2 a3 (fun k9 => ((hg261 _ _ _ _ (qS86 _ _ (qb82 _ _ hk69)) (by rw [xky_a (by decide)]; decide)).trans (hg255 _ _ _ _ (qS86 _ _ (qb82 _ _ hk69)) (by rw [xky_a (by decide)]; decide)))) (fun r9 n9 h9 => xv_m hg261 h9 (by decide) (by decide)) (by rw [← (xv_m hg255 (qS86 _ _ (qb82 _ _ hk76)) (by decide) (by decide))]; exact k265.1 (by omega))
            · exact xWn.same wn9 (fun k9 => ((hg261 _ _ _ _ (qS86 _ _ (qb82 _ _ hk69)) (by rw [xky_a (by decide)]; decide)).trans (hg255 _ _ _ _ (qS86 _ _ (qb82 _ _ hk69)) (by rw [xky_a (by decide)]; decide)))) (fun r9 n9 h8 => (xv_m hg261 h8 (by decide) (by decide)).trans (k259.2 h9 r9 n9 h8)) ((k265.2 (by omega)).trans (xv_m hg255 (qS86 _ _ (qb82 _ _ hk76)) (by decide) (by decide)))
          refine X_pop hK dL_law_626 rfl ?_
          refine X_goto hK 1465 dL_law_627 (by decide) ?_
          refine X_iinc hK (i := 4) (z := i9) (n := 6) 0 [(4, .int (iI (i9 + 6))), (3, .ref b82), (2, .ref b36), (1, .ref b1), (0, .ref b)] dL_law_1465 rfl (by decide) rfl ?_
          refine X_goto hK 23 dL_law_1468 (by decide) ?_
          exact ih9 S86 qS86 g261 (i9 + 6) k9 t9 c9 b9 sh9 sp9 sm9 (by omega) (by omega) (by omega) (by omega) (by omega) (by omega) (by omega) (by omega) (xLs_mod (xLs_mod al9 hg255 (by decide)) hg261 (by decide)) si9 (xPi_m (xPi_m pi9 hg255 xLe.rf (by decide)) hg261 xLe.rf (by decide)) (xMp_m (xMp_m mp9 hg255 xLe.rf (by decide)) hg261 xLe.rf (by decide)) (xTw_m (xTw_m tw9 hg255 xLe.rf (by decide)) hg261 xLe.rf (by decide)) ((hg261 b1 12 0 0 (qS86 _ _ (qb82 _ _ hk64)) (by decide)).trans ((hg255 b1 12 0 0 (qS86 _ _ (qb82 _ _ hk64)) (by decide)).trans el09)) ((hg261 b1 12 0 3 (qS86 _ _ (qb82 _ _ hk64)) (by decide)).trans ((hg255 b1 12 0 3 (qS86 _ _ (qb82 _ _ hk64)) (by decide)).trans el19)) ((hg261 b1 12 0 1 (qS86 _ _ (qb82 _ _ hk64)) (by decide)).trans ((hg255 b1 12 0 1 (qS86 _ _ (qb82 _ _ hk64)) (by decide)).trans el29)) ((hg261 b34 6 0 1 (qS86 _ _ (qb82 _ _ hk72)) (by decide)).trans ((hg255 b34 6 0 1 (qS86 _ _ (qb82 _ _ hk72)) (by decide)).trans el39)) ((hg261 b1 12 0 2 (qS86 _ _ (qb82 _ _ hk64)) (by decide)).trans ((hg255 b1 12 0 2 (qS86 _ _ (qb82 _ _ hk64)) (by decide)).trans el49)) ((hg261 b18 4 0 0 (qS86 _ _ (qb82 _ _ hk65)) (by decide)).trans ((hg255 b18 4 0 0 (qS86 _ _ (qb82 _ _ hk65)) (by decide)).trans el59)) ((hg261 b18 4 0 2 (qS86 _ _ (qb82 _ _ hk65)) (by decide)).trans ((hg255 b18 4 0 2 (qS86 _ _ (qb82 _ _ hk65)) (by decide)).trans el69)) ((hg261 b18 4 0 3 (qS86 _ _ (qb82 _ _ hk65)) (by decide)).trans ((hg255 b18 4 0 3 (qS86 _ _ (qb82 _ _ hk65)) (by decide)).trans el79)) ((hg261 b18 4 0 4 (qS86 _ _ (qb82 _ _ hk65)) (by decide)).trans ((hg255 b18 4 0 4 (qS86 _ _ (qb82 _ _ hk65)) (by decide)).trans el89)) ((hg261 b32 10 0 0 (qS86 _ _ (qb82 _ _ hk70)) (by decide)).trans ((hg255 b32 10 0 0 (qS86 _ _ (qb82 _ _ hk70)) (by decide)).trans el99)) ((hg261 b36 13 0 1 (qS86 _ _ (qb82 _ _ hs_y62)) (by decide)).trans ((hg255 b36 13 0 1 (qS86 _ _ (qb82 _ _ hs_y62)) (by decide)).trans el109)) ((hg261 b36 13 0 10 (qS86 _ _ (qb82 _ _ hs_y62)) (by decide)).trans ((hg255 b36 13 0 10 (qS86 _ _ (qb82 _ _ hs_y62)) (by decide)).trans el119)) ((hg261 b36 13 0 13 (qS86 _ _ (qb82 _ _ hs_y62)) (by decide)).trans ((hg255 b36 13 0 13 (qS86 _ _ (qb82 _ _ hs_y62)) (by decide)).trans el129)) ((hg261 b36 13 0 14 (qS86 _ _ (qb82 _ _ hs_y62)) (by decide)).trans ((hg255 b36 13 0 14 (qS86 _ _ (qb82 _ _ hs_y62)) (by decide)).trans el139)) ((hg261 b36 13 0 12 (qS86 _ _ (qb82 _ _ hs_y62)) (by decide)).trans ((hg255 b36 13 0 12 (qS86 _ _ (qb82 _ _ hs_y62)) (by decide)).trans el149)) ((hg261 b32 10 0 1 (qS86 _ _ (qb82 _ _ hk70)) (by decide)).trans ((hg255 b32 10 0 1 (qS86 _ _ (qb82 _ _ hk70)) (by decide)).trans exk9)) ((hg261 b36 13 0 2 (qS86 _ _ (qb82 _ _ hs_y62)) (by decide)).trans ((hg255 b36 13 0 2 (qS86 _ _ (qb82 _ _ hs_y62)) (by decide)).trans emk9)) ((hg261 b1 12 0 12 (qS86 _ _ (qb82 _ _ hk64)) (by decide)).trans ((hg255 b1 12 0 12 (qS86 _ _ (qb82 _ _ hk64)) (by decide)).trans ext9)) ((hg261 b36 13 0 3 (qS86 _ _ (qb82 _ _ hs_y62)) (by decide)).trans ((hg255 b36 13 0 3 (qS86 _ _ (qb82 _ _ hs_y62)) (by decide)).trans emt9)) ((hg261 b33 5 0 3 (qS86 _ _ (qb82 _ _ hk71)) (by decide)).trans ((hg255 b33 5 0 3 (qS86 _ _ (qb82 _ _ hk71)) (by decide)).trans exc9)) ((hg261 b36 13 0 69 (qS86 _ _ (qb82 _ _ hs_y62)) (by decide)).trans ((hg255 b36 13 0 69 (qS86 _ _ (qb82 _ _ hs_y62)) (by decide)).trans emc9)) ((hg261 b35 0 0 2 (qS86 _ _ (qb82 _ _ hk73)) (by decide)).trans ((hg255 b35 0 0 2 (qS86 _ _ (qb82 _ _ hk73)) (by decide)).trans exb9)) ((hg261 b36 13 0 16 (qS86 _ _ (qb82 _ _ hs_y62)) (by decide)).trans ((hg255 b36 13 0 16 (qS86 _ _ (qb82 _ _ hs_y62)) (by decide)).trans emb9)) ((hg261 b1 12 0 16 (qS86 _ _ (qb82 _ _ hk64)) (by decide)).trans ((hg255 b1 12 0 16 (qS86 _ _ (qb82 _ _ hk64)) (by decide)).trans exsh9)) ((hg261 b36 13 0 89 (qS86 _ _ (qb82 _ _ hs_y62)) (by decide)).trans ((hg255 b36 13 0 89 (qS86 _ _ (qb82 _ _ hs_y62)) (by decide)).trans emsh9)) ((hg261 b1 12 0 17 (qS86 _ _ (qb82 _ _ hk64)) (by decide)).trans ((hg255 b1 12 0 17 (qS86 _ _ (qb82 _ _ hk64)) (by decide)).trans exsp9)) ((hg261 b36 13 0 90 (qS86 _ _ (qb82 _ _ hs_y62)) (by decide)).trans ((hg255 b36 13 0 90 (qS86 _ _ (qb82 _ _ hs_y62)) (by decide)).trans emsp9)) ((hg261 b36 13 0 17 (qS86 _ _ (qb82 _ _ hs_y62)) (by decide)).trans ((hg255 b36 13 0 17 (qS86 _ _ (qb82 _ _ hs_y62)) (by decide)).trans emsm9)) wn266 (by rw [(Eq.trans (xv_m hg261 (qS86 _ _ (qb82 _ _ hk67)) (by decide) (by decide)) (xv_m hg255 (qS86 _ _ (qb82 _ _ hk67)) (by decide) (by decide))), (Eq.trans (xv_m hg261 (qS86 _ _ (qb82 _ _ hk74)) (by decide) (by decide)) (xv_m hg255 (qS86 _ _ (qb82 _ _ hk74)) (by decide) (by decide)))]; exact wt9) (by rw [(Eq.trans (xv_m hg261 (qS86 _ _ (qb82 _ _ hk68)) (by decide) (by decide)) (xv_m hg255 (qS86 _ _ (qb82 _ _ hk68)) (by decide) (by decide))), (Eq.trans (xv_m hg261 (qS86 _ _ (qb82 _ _ hk75)) (by decide) (by decide)) (xv_m hg255 (qS86 _ _ (qb82 _ _ hk75)) (by decide) (by decide)))]; exact ld9) (by rw [(Eq.trans (xv_m hg261 (qS86 _ _ (qb82 _ _ hk66)) (by decide) (by decide)) (xv_m hg255 (qS86 _ _ (qb82 _ _ hk66)) (by decide) (by decide))), (Eq.trans (xv_m hg261 (qS86 _ _ (qb82 _ _ hs_b81)) (by decide) (by decide)) (xv_m hg255 (qS86 _ _ (qb82 _ _ hs_b81)) (by decide) (by decide)))]; exact sk9) (by rw [(Eq.trans (xv_m hg261 (qS86 _ _ (qb82 _ _ hs_b79)) (by decide) (by decide)) (xv_m hg255 (qS86 _ _ (qb82 _ _ hs_b79)) (by decide) (by decide))), (Eq.trans (xv_m hg261 (qS86 _ _ (qb82 _ _ hs_b80)) (by decide) (by decide)) (xv_m hg255 (qS86 _ _ (qb82 _ _ hs_b80)) (by decide) (by decide)))]; exact xTc.mono tc9 (by omega)) dc9 ds9 (by omega) (by omega) (by omega)
        · refine X_tableIn hK 630 10 (by decide) c91 (by decide) (by decide) dL_law_40 rfl (by decide) ?_
          refine X_aloadn hK (i := 1) 3 dL_law_630 rfl rfl ?_
          refine X_aloadn hK (i := 0) 4 dL_law_631 rfl rfl ?_
          refine X_iload hK (i := 4) 0 dL_law_632 rfl ?_
          refine X_iconst hK dL_law_634 ?_
          refine X_iadd hK dL_law_635 ?_
          refine X_scr hK hX hbl hbA hL (by omega) (by omega) dL_law_636 (fun z267 ez267 lz267 uz267 => ?_)
          refine X_aloadn hK (i := 0) 4 dL_law_637 rfl rfl ?_
          refine X_iload hK (i := 4) 0 dL_law_638 rfl ?_
          refine X_iconst hK dL_law_640 ?_
          refine X_iadd hK dL_law_641 ?_
          refine X_scr hK hX hbl hbA hL (by omega) (by omega) dL_law_642 (fun z268 ez268 lz268 uz268 => ?_)
          refine X_aloadn hK (i := 0) 4 dL_law_643 rfl rfl ?_
          refine X_iload hK (i := 4) 0 dL_law_644 rfl ?_
          refine X_iconst hK dL_law_646 ?_
          refine X_iadd hK dL_law_647 ?_
          refine X_scr hK hX hbl hbA hL (by omega) (by omega) dL_law_648 (fun z269 ez269 lz269 uz269 => ?_)
          refine X_aloadn hK (i := 0) 4 dL_law_649 rfl rfl ?_
          refine X_iload hK (i := 4) 0 dL_law_650 rfl ?_
          refine X_iconst hK dL_law_652 ?_
          refine X_iadd hK dL_law_653 ?_
          refine X_scr hK hX hbl hbA hL (by omega) (by omega) dL_law_654 (fun z270 ez270 lz270 uz270 => ?_)
          refine X_callV hK [.int (iI z267), .int (iI z268), .int (iI z269), .int (iI z270)] [] lk_L_69 (c_X11_asked _ _ _ _ _ S86 g87 b1 z267 z268 z269 z270 b18 b22 b20 b21 (qS86 _ _ (qb82 _ _ hk64)) (by omega) (by omega) (by omega) (by omega) el49 (qS86 _ _ (qb82 _ _ hk65)) el89 (qS86 _ _ (qb82 _ _ hk69)) el69 (qS86 _ _ (qb82 _ _ hk67)) el79 (qS86 _ _ (qb82 _ _ hk68))) (qS86 _ _ (qb82 _ _ hk64)) ⟨by decide, rfl⟩ dL_law_655 rfl rfl (by simp [Value.category]) (by decide) (by omega) (by omega) (by decide) (fun r271 S273 g272 pr271 qr271 hg272 => ?_)
          obtain ⟨rfl, rfl, z274, rfl, lz274, uz274, k275⟩ := pr271
          refine X_st [.int (iI z274)] rfl ?_
          refine X_pop hK dL_law_658 rfl ?_
          refine X_aloadn hK (i := 2) 2 dL_law_659 rfl rfl ?_
          refine X_aloadn hK (i := 0) 4 dL_law_660 rfl rfl ?_
          refine X_iload hK (i := 4) 0 dL_law_661 rfl ?_
          refine X_iconst hK dL_law_663 ?_
          refine X_iadd hK dL_law_664 ?_
          refine X_scrK hK hX hbl hbA hL (by omega) (by omega) ez267 dL_law_665 ?_
          refine X_aloadn hK (i := 0) 4 dL_law_666 rfl rfl ?_
          refine X_iload hK (i := 4) 0 dL_law_667 rfl ?_
          refine X_iconst hK dL_law_669 ?_
          refine X_iadd hK dL_law_670 ?_
          refine X_scrK hK hX hbl hbA hL (by omega) (by omega) ez268 dL_law_671 ?_
          refine X_aloadn hK (i := 0) 4 dL_law_672 rfl rfl ?_
          refine X_iload hK (i := 4) 0 dL_law_673 rfl ?_
          refine X_iconst hK dL_law_675 ?_
          refine X_iadd hK dL_law_676 ?_
          refine X_scrK hK hX hbl hbA hL (by omega) (by omega) ez269 dL_law_677 ?_
          refine X_aloadn hK (i := 0) 4 dL_law_678 rfl rfl ?_
          refine X_iload hK (i := 4) 0 dL_law_679 rfl ?_
          refine X_iconst hK dL_law_681 ?_
          refine X_iadd hK dL_law_682 ?_
          refine X_scrK hK hX hbl hbA hL (by omega) (by omega) ez270 dL_law_683 ?_
          refine X_callV hK [.int (iI z267), .int (iI z268), .int (iI z269), .int (iI z270)] [] lk_L_73 (c_X12_asked _ _ _ _ _ S86 g87 b36 z267 z268 z269 z270 b60 b58 b59 (qS86 _ _ (qb82 _ _ hs_y62)) (by omega) (by omega) (by omega) (by omega) el149 (qS86 _ _ (qb82 _ _ hk76)) el129 (qS86 _ _ (qb82 _ _ hk74)) el139 (qS86 _ _ (qb82 _ _ hk75))) (qS86 _ _ (qb82 _ _ hs_y62)) ⟨by decide, rfl⟩ dL_law_684 rfl rfl (by simp [Value.category]) (by decide) (by omega) (by omega) (by decide) (fun r276 S278 g277 pr276 qr276 hg277 => ?_)
          obtain ⟨rfl, z279, rfl, lz279, uz279, k280⟩ := pr276
          refine X_st [.int (iI z279)] rfl ?_
          refine X_pop hK dL_law_687 rfl ?_
          refine X_goto hK 1465 dL_law_688 (by decide) ?_
          refine X_iinc hK (i := 4) (z := i9) (n := 6) 0 [(4, .int (iI (i9 + 6))), (3, .ref b82), (2, .ref b36), (1, .ref b1), (0, .ref b)] dL_law_1465 rfl (by decide) rfl ?_
          refine X_goto hK 23 dL_law_1468 (by decide) ?_
          exact ih9 S86 qS86 g277 (i9 + 6) k9 t9 c9 b9 sh9 sp9 sm9 (by omega) (by omega) (by omega) (by omega) (by omega) (by omega) (by omega) (by omega) (xLs_mod al9 hg277 (by decide)) si9 (xPi_m pi9 hg277 xLe.rf (by decide)) (xMp_m mp9 hg277 xLe.rf (by decide)) (xTw_m tw9 hg277 xLe.rf (by decide)) ((hg277 b1 12 0 0 (qS86 _ _ (qb82 _ _ hk64)) (by decide)).trans el09) ((hg277 b1 12 0 3 (qS86 _ _ (qb82 _ _ hk64)) (by decide)).trans el19) ((hg277 b1 12 0 1 (qS86 _ _ (qb82 _ _ hk64)) (by decide)).trans el29) ((hg277 b34 6 0 1 (qS86 _ _ (qb82 _ _ hk72)) (by decide)).trans el39) ((hg277 b1 12 0 2 (qS86 _ _ (qb82 _ _ hk64)) (by decide)).trans el49) ((hg277 b18 4 0 0 (qS86 _ _ (qb82 _ _ hk65)) (by decide)).trans el59) ((hg277 b18 4 0 2 (qS86 _ _ (qb82 _ _ hk65)) (by decide)).trans el69) ((hg277 b18 4 0 3 (qS86 _ _ (qb82 _ _ hk65)) (by decide)).trans el79) ((hg277 b18 4 0 4 (qS86 _ _ (qb82 _ _ hk65)) (by decide)).trans el89) ((hg277 b32 10 0 0 (qS86 _ _ (qb82 _ _ hk70)) (by decide)).trans el99) ((hg277 b36 13 0 1 (qS86 _ _ (qb82 _ _ hs_y62)) (by decide)).trans el109) ((hg277 b36 13 0 10 (qS86 _ _ (qb82 _ _ hs_y62)) (by decide)).trans el119) ((hg277 b36 13 0 13 (qS86 _ _ (qb82 _ _ hs_y62)) (by decide)).trans el129) ((hg277 b36 13 0 14 (qS86 _ _ (qb82 _ _ hs_y62)) (by decide)).trans el139) ((hg277 b36 13 0 12 (qS86 _ _ (qb82 _ _ hs_y62)) (by decide)).trans el149) ((hg277 b32 10 0 1 (qS86 _ _ (qb82 _ _ hk70)) (by decide)).trans exk9) ((hg277 b36 13 0 2 (qS86 _ _ (qb82 _ _ hs_y62)) (by decide)).trans emk9) ((hg277 b1 12 0 12 (qS86 _ _ (qb82 _ _ hk64)) (by decide)).trans ext9) ((hg277 b36 13 0 3 (qS86 _ _ (qb82 _ _ hs_y62)) (by decide)).trans emt9) ((hg277 b33 5 0 3 (qS86 _ _ (qb82 _ _ hk71)) (by decide)).trans exc9) ((hg277 b36 13 0 69 (qS86 _ _ (qb82 _ _ hs_y62)) (by decide)).trans emc9) ((hg277 b35 0 0 2 (qS86 _ _ (qb82 _ _ hk73)) (by decide)).trans exb9) ((hg277 b36 13 0 16 (qS86 _ _ (qb82 _ _ hs_y62)) (by decide)).trans emb9) ((hg277 b1 12 0 16 (qS86 _ _ (qb82 _ _ hk64)) (by decide)).trans exsh9) ((hg277 b36 13 0 89 (qS86 _ _ (qb82 _ _ hs_y62)) (by decide)).trans emsh9) ((hg277 b1 12 0 17 (qS86 _ _ (qb82 _ _ hk64)) (by decide)).trans exsp9) ((hg277 b36 13 0 90 (qS86 _ _ (qb82 _ _ hs_y62)) (by decide)).trans emsp9) ((hg277 b36 13 0 17 (qS86 _ _ (qb82 _ _ hs_y62)) (by decide)).trans emsm9) (xWn.m wn9 (qS86 _ _ (qb82 _ _ hk69)) (qS86 _ _ (qb82 _ _ hk76)) hg277 xLe.rf (by decide)) (by rw [(xv_m hg277 (qS86 _ _ (qb82 _ _ hk67)) (by decide) (by decide)), (xv_m hg277 (qS86 _ _ (qb82 _ _ hk74)) (by decide) (by decide))]; exact wt9) (by rw [(xv_m hg277 (qS86 _ _ (qb82 _ _ hk68)) (by decide) (by decide)), (xv_m hg277 (qS86 _ _ (qb82 _ _ hk75)) (by decide) (by decide))]; exact ld9) (by rw [(xv_m hg277 (qS86 _ _ (qb82 _ _ hk66)) (by decide) (by decide)), (xv_m hg277 (qS86 _ _ (qb82 _ _ hs_b81)) (by decide) (by decide))]; exact sk9) (by rw [(xv_m hg277 (qS86 _ _ (qb82 _ _ hs_b79)) (by decide) (by decide)), (xv_m hg277 (qS86 _ _ (qb82 _ _ hs_b80)) (by decide) (by decide))]; exact xTc.mono tc9 (by omega)) dc9 ds9 (by omega) (by omega) (by omega)
        · refine X_tableIn hK 691 11 (by decide) c91 (by decide) (by decide) dL_law_40 rfl (by decide) ?_
          refine X_aloadn hK (i := 1) 3 dL_law_691 rfl rfl ?_
          refine X_aloadn hK (i := 0) 4 dL_law_692 rfl rfl ?_
          refine X_iload hK (i := 4) 0 dL_law_693 rfl ?_
          refine X_iconst hK dL_law_695 ?_
          refine X_iadd hK dL_law_696 ?_
          refine X_scr hK hX hbl hbA hL (by omega) (by omega) dL_law_697 (fun z281 ez281 lz281 uz281 => ?_)
          refine X_aloadn hK (i := 0) 4 dL_law_698 rfl rfl ?_
          refine X_iload hK (i := 4) 0 dL_law_699 rfl ?_
          refine X_iconst hK dL_law_701 ?_
          refine X_iadd hK dL_law_702 ?_
          refine X_scr hK hX hbl hbA hL (by omega) (by omega) dL_law_703 (fun z282 ez282 lz282 uz282 => ?_)
          refine X_aloadn hK (i := 0) 4 dL_law_704 rfl rfl ?_
          refine X_iload hK (i := 4) 0 dL_law_705 rfl ?_
          refine X_iconst hK dL_law_707 ?_
          refine X_iadd hK dL_law_708 ?_
          refine X_scr hK hX hbl hbA hL (by omega) (by omega) dL_law_709 (fun z283 ez283 lz283 uz283 => ?_)
          refine X_callV hK [.int (iI z281), .int (iI z282), .int (iI z283)] [] lk_L_74 (c_X11_minutes _ _ _ _ _ S86 g87 b1 z281 z282 z283 (qS86 _ _ (qb82 _ _ hk64)) (by omega) (by omega) (by omega)) (qS86 _ _ (qb82 _ _ hk64)) ⟨by decide, rfl⟩ dL_law_710 rfl rfl (by simp [Value.category]) (by decide) (by omega) (by omega) (by decide) (fun r284 S286 g285 pr284 qr284 hg285 => ?_)
          obtain ⟨rfl, z287, rfl, lz287, uz287, k288⟩ := pr284
          refine X_st [.int (iI z287)] rfl ?_
          refine X_pop hK dL_law_713 rfl ?_
          refine X_aloadn hK (i := 2) 2 dL_law_714 rfl rfl ?_
          refine X_aloadn hK (i := 0) 4 dL_law_715 rfl rfl ?_
          refine X_iload hK (i := 4) 0 dL_law_716 rfl ?_
          refine X_iconst hK dL_law_718 ?_
          refine X_iadd hK dL_law_719 ?_
          refine X_scrK hK hX hbl hbA hL (by omega) (by omega) ez281 dL_law_720 ?_
          refine X_aloadn hK (i := 0) 4 dL_law_721 rfl rfl ?_
          refine X_iload hK (i := 4) 0 dL_law_722 rfl ?_
          refine X_iconst hK dL_law_724 ?_
          refine X_iadd hK dL_law_725 ?_
          refine X_scrK hK hX hbl hbA hL (by omega) (by omega) ez282 dL_law_726 ?_
          refine X_aloadn hK (i := 0) 4 dL_law_727 rfl rfl ?_
          refine X_iload hK (i := 4) 0 dL_law_728 rfl ?_
          refine X_iconst hK dL_law_730 ?_
          refine X_iadd hK dL_law_731 ?_
          refine X_scrK hK hX hbl hbA hL (by omega) (by omega) ez283 dL_law_732 ?_
          refine X_callV hK [.int (iI z281), .int (iI z282), .int (iI z283)] [] lk_L_77 (c_X12_minutes _ _ _ _ _ S86 g285 b36 z281 z282 z283 (qS86 _ _ (qb82 _ _ hs_y62)) (by omega) (by omega) (by omega)) (qS86 _ _ (qb82 _ _ hs_y62)) ⟨by decide, rfl⟩ dL_law_733 rfl rfl (by simp [Value.category]) (by decide) (by omega) (by omega) (by decide) (fun r289 S291 g290 pr289 qr289 hg290 => ?_)
          obtain ⟨rfl, z292, rfl, lz292, uz292, k293⟩ := pr289
          refine X_st [.int (iI z292)] rfl ?_
          refine X_pop hK dL_law_736 rfl ?_
          refine X_goto hK 1465 dL_law_737 (by decide) ?_
          refine X_iinc hK (i := 4) (z := i9) (n := 6) 0 [(4, .int (iI (i9 + 6))), (3, .ref b82), (2, .ref b36), (1, .ref b1), (0, .ref b)] dL_law_1465 rfl (by decide) rfl ?_
          refine X_goto hK 23 dL_law_1468 (by decide) ?_
          exact ih9 S86 qS86 g290 (i9 + 6) k9 t9 c9 b9 sh9 sp9 sm9 (by omega) (by omega) (by omega) (by omega) (by omega) (by omega) (by omega) (by omega) (xLs_mod (xLs_mod al9 hg285 (by decide)) hg290 (by decide)) si9 (xPi_m (xPi_m pi9 hg285 xLe.rf (by decide)) hg290 xLe.rf (by decide)) (xMp_m (xMp_m mp9 hg285 xLe.rf (by decide)) hg290 xLe.rf (by decide)) (xTw_m (xTw_m tw9 hg285 xLe.rf (by decide)) hg290 xLe.rf (by decide)) ((hg290 b1 12 0 0 (qS86 _ _ (qb82 _ _ hk64)) (by decide)).trans ((hg285 b1 12 0 0 (qS86 _ _ (qb82 _ _ hk64)) (by decide)).trans el09)) ((hg290 b1 12 0 3 (qS86 _ _ (qb82 _ _ hk64)) (by decide)).trans ((hg285 b1 12 0 3 (qS86 _ _ (qb82 _ _ hk64)) (by decide)).trans el19)) ((hg290 b1 12 0 1 (qS86 _ _ (qb82 _ _ hk64)) (by decide)).trans ((hg285 b1 12 0 1 (qS86 _ _ (qb82 _ _ hk64)) (by decide)).trans el29)) ((hg290 b34 6 0 1 (qS86 _ _ (qb82 _ _ hk72)) (by decide)).trans ((hg285 b34 6 0 1 (qS86 _ _ (qb82 _ _ hk72)) (by decide)).trans el39)) ((hg290 b1 12 0 2 (qS86 _ _ (qb82 _ _ hk64)) (by decide)).trans ((hg285 b1 12 0 2 (qS86 _ _ (qb82 _ _ hk64)) (by decide)).trans el49)) ((hg290 b18 4 0 0 (qS86 _ _ (qb82 _ _ hk65)) (by decide)).trans ((hg285 b18 4 0 0 (qS86 _ _ (qb82 _ _ hk65)) (by decide)).trans el59)) ((hg290 b18 4 0 2 (qS86 _ _ (qb82 _ _ hk65)) (by decide)).trans ((hg285 b18 4 0 2 (qS86 _ _ (qb82 _ _ hk65)) (by decide)).trans el69)) ((hg290 b18 4 0 3 (qS86 _ _ (qb82 _ _ hk65)) (by decide)).trans ((hg285 b18 4 0 3 (qS86 _ _ (qb82 _ _ hk65)) (by decide)).trans el79)) ((hg290 b18 4 0 4 (qS86 _ _ (qb82 _ _ hk65)) (by decide)).trans ((hg285 b18 4 0 4 (qS86 _ _ (qb82 _ _ hk65)) (by decide)).trans el89)) ((hg290 b32 10 0 0 (qS86 _ _ (qb82 _ _ hk70)) (by decide)).trans ((hg285 b32 10 0 0 (qS86 _ _ (qb82 _ _ hk70)) (by decide)).trans el99)) ((hg290 b36 13 0 1 (qS86 _ _ (qb82 _ _ hs_y62)) (by decide)).trans ((hg285 b36 13 0 1 (qS86 _ _ (qb82 _ _ hs_y62)) (by decide)).trans el109)) ((hg290 b36 13 0 10 (qS86 _ _ (qb82 _ _ hs_y62)) (by decide)).trans ((hg285 b36 13 0 10 (qS86 _ _ (qb82 _ _ hs_y62)) (by decide)).trans el119)) ((hg290 b36 13 0 13 (qS86 _ _ (qb82 _ _ hs_y62)) (by decide)).trans ((hg285 b36 13 0 13 (qS86 _ _ (qb82 _ _ hs_y62)) (by decide)).trans el129)) ((hg290 b36 13 0 14 (qS86 _ _ (qb82 _ _ hs_y62)) (by decide)).trans ((hg285 b36 13 0 14 (qS86 _ _ (qb82 _ _ hs_y62)) (by decide)).trans el139)) ((hg290 b36 13 0 12 (qS86 _ _ (qb82 _ _ hs_y62)) (by decide)).trans ((hg285 b36 13 0 12 (qS86 _ _ (qb82 _ _ hs_y62)) (by decide)).trans el149)) ((hg290 b32 10 0 1 (qS86 _ _ (qb82 _ _ hk70)) (by decide)).trans ((hg285 b32 10 0 1 (qS86 _ _ (qb82 _ _ hk70)) (by decide)).trans exk9)) ((hg290 b36 13 0 2 (qS86 _ _ (qb82 _ _ hs_y62)) (by decide)).trans ((hg285 b36 13 0 2 (qS86 _ _ (qb82 _ _ hs_y62)) (by decide)).trans emk9)) ((hg290 b1 12 0 12 (qS86 _ _ (qb82 _ _ hk64)) (by decide)).trans ((hg285 b1 12 0 12 (qS86 _ _ (qb82 _ _ hk64)) (by decide)).trans ext9)) ((hg290 b36 13 0 3 (qS86 _ _ (qb82 _ _ hs_y62)) (by decide)).trans ((hg285 b36 13 0 3 (qS86 _ _ (qb82 _ _ hs_y62)) (by decide)).trans emt9)) ((hg290 b33 5 0 3 (qS86 _ _ (qb82 _ _ hk71)) (by decide)).trans ((hg285 b33 5 0 3 (qS86 _ _ (qb82 _ _ hk71)) (by decide)).trans exc9)) ((hg290 b36 13 0 69 (qS86 _ _ (qb82 _ _ hs_y62)) (by decide)).trans ((hg285 b36 13 0 69 (qS86 _ _ (qb82 _ _ hs_y62)) (by decide)).trans emc9)) ((hg290 b35 0 0 2 (qS86 _ _ (qb82 _ _ hk73)) (by decide)).trans ((hg285 b35 0 0 2 (qS86 _ _ (qb82 _ _ hk73)) (by decide)).trans exb9)) ((hg290 b36 13 0 16 (qS86 _ _ (qb82 _ _ hs_y62)) (by decide)).trans ((hg285 b36 13 0 16 (qS86 _ _ (qb82 _ _ hs_y62)) (by decide)).trans emb9)) ((hg290 b1 12 0 16 (qS86 _ _ (qb82 _ _ hk64)) (by decide)).trans ((hg285 b1 12 0 16 (qS86 _ _ (qb82 _ _ hk64)) (by decide)).trans exsh9)) ((hg290 b36 13 0 89 (qS86 _ _ (qb82 _ _ hs_y62)) (by decide)).trans ((hg285 b36 13 0 89 (qS86 _ _ (qb82 _ _ hs_y62)) (by decide)).trans emsh9)) ((hg290 b1 12 0 17 (qS86 _ _ (qb82 _ _ hk64)) (by decide)).trans ((hg285 b1 12 0 17 (qS86 _ _ (qb82 _ _ hk64)) (by decide)).trans exsp9)) ((hg290 b36 13 0 90 (qS86 _ _ (qb82 _ _ hs_y62)) (by decide)).trans ((hg285 b36 13 0 90 (qS86 _ _ (qb82 _ _ hs_y62)) (by decide)).trans emsp9)) ((hg290 b36 13 0 17 (qS86 _ _ (qb82 _ _ hs_y62)) (by decide)).trans ((hg285 b36 13 0 17 (qS86 _ _ (qb82 _ _ hs_y62)) (by decide)).trans emsm9)) (xWn.m (xWn.m wn9 (qS86 _ _ (qb82 _ _ hk69)) (qS86 _ _ (qb82 _ _ hk76)) hg285 xLe.rf (by decide)) (qS86 _ _ (qb82 _ _ hk69)) (qS86 _ _ (qb82 _ _ hk76)) hg290 xLe.rf (by decide)) (by rw [(Eq.trans (xv_m hg290 (qS86 _ _ (qb82 _ _ hk67)) (by decide) (by decide)) (xv_m hg285 (qS86 _ _ (qb82 _ _ hk67)) (by decide) (by decide))), (Eq.trans (xv_m hg290 (qS86 _ _ (qb82 _ _ hk74)) (by decide) (by decide)) (xv_m hg285 (qS86 _ _ (qb82 _ _ hk74)) (by decide) (by decide)))]; exact wt9) (by rw [(Eq.trans (xv_m hg290 (qS86 _ _ (qb82 _ _ hk68)) (by decide) (by decide)) (xv_m hg285 (qS86 _ _ (qb82 _ _ hk68)) (by decide) (by decide))), (Eq.trans (xv_m hg290 (qS86 _ _ (qb82 _ _ hk75)) (by decide) (by decide)) (xv_m hg285 (qS86 _ _ (qb82 _ _ hk75)) (by decide) (by decide)))]; exact ld9) (by rw [(Eq.trans (xv_m hg290 (qS86 _ _ (qb82 _ _ hk66)) (by decide) (by decide)) (xv_m hg285 (qS86 _ _ (qb82 _ _ hk66)) (by decide) (by decide))), (Eq.trans (xv_m hg290 (qS86 _ _ (qb82 _ _ hs_b81)) (by decide) (by decide)) (xv_m hg285 (qS86 _ _ (qb82 _ _ hs_b81)) (by decide) (by decide)))]; exact sk9) (by rw [(Eq.trans (xv_m hg290 (qS86 _ _ (qb82 _ _ hs_b79)) (by decide) (by decide)) (xv_m hg285 (qS86 _ _ (qb82 _ _ hs_b79)) (by decide) (by decide))), (Eq.trans (xv_m hg290 (qS86 _ _ (qb82 _ _ hs_b80)) (by decide) (by decide)) (xv_m hg285 (qS86 _ _ (qb82 _ _ hs_b80)) (by decide) (by decide)))]; exact xTc.mono tc9 (by omega)) dc9 ds9 (by omega) (by omega) (by omega)
        · refine X_tableIn hK 740 12 (by decide) c91 (by decide) (by decide) dL_law_40 rfl (by decide) ?_
          refine X_aloadn hK (i := 1) 3 dL_law_740 rfl rfl ?_
          refine X_aloadn hK (i := 0) 4 dL_law_741 rfl rfl ?_
          refine X_iload hK (i := 4) 0 dL_law_742 rfl ?_
          refine X_iconst hK dL_law_744 ?_
          refine X_iadd hK dL_law_745 ?_
          refine X_scr hK hX hbl hbA hL (by omega) (by omega) dL_law_746 (fun z294 ez294 lz294 uz294 => ?_)
          refine X_callVU hK [.int (iI z294)] [] lk_L_78 (c_X11_terms _ _ _ _ _ S86 g87 b1 z294 b32 k9 (qS86 _ _ (qb82 _ _ hk64)) (by omega) el09 (qS86 _ _ (qb82 _ _ hk70)) (by omega) exk9 al9 si9) (qS86 _ _ (qb82 _ _ hk64)) ⟨by decide, rfl⟩ dL_law_747 rfl rfl (by simp [Value.category]) (by decide) (by omega) (by omega) (by decide) (fun r295 S297 g296 dcr295 dsr295 pr295 qr295 hg296 => ?_)
          obtain ⟨wr295, z298, rfl, lz298, uz298, k299, k300, k301, k302⟩ := pr295
          refine X_st [.int (iI z298)] rfl ?_
          refine X_pop hK dL_law_750 rfl ?_
          refine X_aloadn hK (i := 2) 2 dL_law_751 rfl rfl ?_
          refine X_aloadn hK (i := 0) 4 dL_law_752 rfl rfl ?_
          refine X_iload hK (i := 4) 0 dL_law_753 rfl ?_
          refine X_iconst hK dL_law_755 ?_
          refine X_iadd hK dL_law_756 ?_
          refine X_scrK hK hX hbl hbA hL (by omega) (by omega) ez294 dL_law_757 ?_
          refine X_callV hK [.int (iI z294)] [] lk_L_81 (c_X12_terms _ _ _ _ _ S297 g296 b36 z294 k9 (qr295 _ _ (qS86 _ _ (qb82 _ _ hs_y62))) (by omega) (by omega) ((hg296 b36 13 0 2 (qS86 _ _ (qb82 _ _ hs_y62)) (by decide)).trans emk9) (xTw_m tw9 hg296 qr295 (by decide))) (qr295 _ _ (qS86 _ _ (qb82 _ _ hs_y62))) ⟨by decide, rfl⟩ dL_law_758 rfl rfl (by simp [Value.category]) (by decide) (by omega) (by omega) (by decide) (fun r303 S305 g304 pr303 qr303 hg304 => ?_)
          obtain ⟨rfl, z306, rfl, lz306, uz306, k307, k308⟩ := pr303
          refine X_st [.int (iI z306)] rfl ?_
          refine X_pop hK dL_law_761 rfl ?_
          refine X_goto hK 1465 dL_law_762 (by decide) ?_
          refine X_iinc hK (i := 4) (z := i9) (n := 6) 0 [(4, .int (iI (i9 + 6))), (3, .ref b82), (2, .ref b36), (1, .ref b1), (0, .ref b)] dL_law_1465 rfl (by decide) rfl ?_
          refine X_goto hK 23 dL_law_1468 (by decide) ?_
          exact ih9 S297 (xLe.tr qS86 qr295) g304 (i9 + 6) (0) t9 c9 b9 sh9 sp9 sm9 (by omega) (by omega) (by omega) (by omega) (by omega) (by omega) (by omega) (by omega) (xLs_mod k299 hg304 (by decide)) k300 (xPi_m (xPi_m pi9 hg296 qr295 (by decide)) hg304 xLe.rf (by decide)) (xMp_m (xMp_m mp9 hg296 qr295 (by decide)) hg304 xLe.rf (by decide)) k308 ((hg304 b1 12 0 0 (qr295 _ _ (qS86 _ _ (qb82 _ _ hk64))) (by decide)).trans ((hg296 b1 12 0 0 (qS86 _ _ (qb82 _ _ hk64)) (by decide)).trans el09)) ((hg304 b1 12 0 3 (qr295 _ _ (qS86 _ _ (qb82 _ _ hk64))) (by decide)).trans ((hg296 b1 12 0 3 (qS86 _ _ (qb82 _ _ hk64)) (by decide)).trans el19)) ((hg304 b1 12 0 1 (qr295 _ _ (qS86 _ _ (qb82 _ _ hk64))) (by decide)).trans ((hg296 b1 12 0 1 (qS86 _ _ (qb82 _ _ hk64)) (by decide)).trans el29)) ((hg304 b34 6 0 1 (qr295 _ _ (qS86 _ _ (qb82 _ _ hk72))) (by decide)).trans ((hg296 b34 6 0 1 (qS86 _ _ (qb82 _ _ hk72)) (by decide)).trans el39)) ((hg304 b1 12 0 2 (qr295 _ _ (qS86 _ _ (qb82 _ _ hk64))) (by decide)).trans ((hg296 b1 12 0 2 (qS86 _ _ (qb82 _ _ hk64)) (by decide)).trans el49)) ((hg304 b18 4 0 0 (qr295 _ _ (qS86 _ _ (qb82 _ _ hk65))) (by decide)).trans ((hg296 b18 4 0 0 (qS86 _ _ (qb82 _ _ hk65)) (by decide)).trans el59)) ((hg304 b18 4 0 2 (qr295 _ _ (qS86 _ _ (qb82 _ _ hk65))) (by decide)).trans ((hg296 b18 4 0 2 (qS86 _ _ (qb82 _ _ hk65)) (by decide)).trans el69)) ((hg304 b18 4 0 3 (qr295 _ _ (qS86 _ _ (qb82 _ _ hk65))) (by decide)).trans ((hg296 b18 4 0 3 (qS86 _ _ (qb82 _ _ hk65)) (by decide)).trans el79)) ((hg304 b18 4 0 4 (qr295 _ _ (qS86 _ _ (qb82 _ _ hk65))) (by decide)).trans ((hg296 b18 4 0 4 (qS86 _ _ (qb82 _ _ hk65)) (by decide)).trans el89)) ((hg304 b32 10 0 0 (qr295 _ _ (qS86 _ _ (qb82 _ _ hk70))) (by decide)).trans ((hg296 b32 10 0 0 (qS86 _ _ (qb82 _ _ hk70)) (by decide)).trans el99)) ((hg304 b36 13 0 1 (qr295 _ _ (qS86 _ _ (qb82 _ _ hs_y62))) (by decide)).trans ((hg296 b36 13 0 1 (qS86 _ _ (qb82 _ _ hs_y62)) (by decide)).trans el109)) ((hg304 b36 13 0 10 (qr295 _ _ (qS86 _ _ (qb82 _ _ hs_y62))) (by decide)).trans ((hg296 b36 13 0 10 (qS86 _ _ (qb82 _ _ hs_y62)) (by decide)).trans el119)) ((hg304 b36 13 0 13 (qr295 _ _ (qS86 _ _ (qb82 _ _ hs_y62))) (by decide)).trans ((hg296 b36 13 0 13 (qS86 _ _ (qb82 _ _ hs_y62)) (by decide)).trans el129)) ((hg304 b36 13 0 14 (qr295 _ _ (qS86 _ _ (qb82 _ _ hs_y62))) (by decide)).trans ((hg296 b36 13 0 14 (qS86 _ _ (qb82 _ _ hs_y62)) (by decide)).trans el139)) ((hg304 b36 13 0 12 (qr295 _ _ (qS86 _ _ (qb82 _ _ hs_y62))) (by decide)).trans ((hg296 b36 13 0 12 (qS86 _ _ (qb82 _ _ hs_y62)) (by decide)).trans el149)) ((hg304 b32 10 0 1 (qr295 _ _ (qS86 _ _ (qb82 _ _ hk70))) (by decide)).trans k302) k307 ((hg304 b1 12 0 12 (qr295 _ _ (qS86 _ _ (qb82 _ _ hk64))) (by decide)).trans ((hg296 b1 12 0 12 (qS86 _ _ (qb82 _ _ hk64)) (by decide)).trans ext9)) ((hg304 b36 13 0 3 (qr295 _ _ (qS86 _ _ (qb82 _ _ hs_y62))) (by decide)).trans ((hg296 b36 13 0 3 (qS86 _ _ (qb82 _ _ hs_y62)) (by decide)).trans emt9)) ((hg304 b33 5 0 3 (qr295 _ _ (qS86 _ _ (qb82 _ _ hk71))) (by decide)).trans ((hg296 b33 5 0 3 (qS86 _ _ (qb82 _ _ hk71)) (by decide)).trans exc9)) ((hg304 b36 13 0 69 (qr295 _ _ (qS86 _ _ (qb82 _ _ hs_y62))) (by decide)).trans ((hg296 b36 13 0 69 (qS86 _ _ (qb82 _ _ hs_y62)) (by decide)).trans emc9)) ((hg304 b35 0 0 2 (qr295 _ _ (qS86 _ _ (qb82 _ _ hk73))) (by decide)).trans ((hg296 b35 0 0 2 (qS86 _ _ (qb82 _ _ hk73)) (by decide)).trans exb9)) ((hg304 b36 13 0 16 (qr295 _ _ (qS86 _ _ (qb82 _ _ hs_y62))) (by decide)).trans ((hg296 b36 13 0 16 (qS86 _ _ (qb82 _ _ hs_y62)) (by decide)).trans emb9)) ((hg304 b1 12 0 16 (qr295 _ _ (qS86 _ _ (qb82 _ _ hk64))) (by decide)).trans ((hg296 b1 12 0 16 (qS86 _ _ (qb82 _ _ hk64)) (by decide)).trans exsh9)) ((hg304 b36 13 0 89 (qr295 _ _ (qS86 _ _ (qb82 _ _ hs_y62))) (by decide)).trans ((hg296 b36 13 0 89 (qS86 _ _ (qb82 _ _ hs_y62)) (by decide)).trans emsh9)) ((hg304 b1 12 0 17 (qr295 _ _ (qS86 _ _ (qb82 _ _ hk64))) (by decide)).trans ((hg296 b1 12 0 17 (qS86 _ _ (qb82 _ _ hk64)) (by decide)).trans exsp9)) ((hg304 b36 13 0 90 (qr295 _ _ (qS86 _ _ (qb82 _ _ hs_y62))) (by decide)).trans ((hg296 b36 13 0 90 (qS86 _ _ (qb82 _ _ hs_y62)) (by decide)).trans emsp9)) ((hg304 b36 13 0 17 (qr295 _ _ (qS86 _ _ (qb82 _ _ hs_y62))) (by decide)).trans ((hg296 b36 13 0 17 (qS86 _ _ (qb82 _ _ hs_y62)) (by decide)).trans emsm9)) (xWn.m (xWn.m wn9 (qS86 _ _ (qb82 _ _ hk69)) (qS86 _ _ (qb82 _ _ hk76)) hg296 qr295 (by decide)) (qr295 _ _ (qS86 _ _ (qb82 _ _ hk69))) (qr295 _ _ (qS86 _ _ (qb82 _ _ hk76))) hg304 xLe.rf (by decide)) (by rw [(Eq.trans (xv_m hg304 (qr295 _ _ (qS86 _ _ (qb82 _ _ hk67))) (by decide) (by decide)) (xv_m hg296 (qS86 _ _ (qb82 _ _ hk67)) (by decide) (by decide))), (Eq.trans (xv_m hg304 (qr295 _ _ (qS86 _ _ (qb82 _ _ hk74))) (by decide) (by decide)) (xv_m hg296 (qS86 _ _ (qb82 _ _ hk74)) (by decide) (by decide)))]; exact wt9) (by rw [(Eq.trans (xv_m hg304 (qr295 _ _ (qS86 _ _ (qb82 _ _ hk68))) (by decide) (by decide)) (xv_m hg296 (qS86 _ _ (qb82 _ _ hk68)) (by decide) (by decide))), (Eq.trans (xv_m hg304 (qr295 _ _ (qS86 _ _ (qb82 _ _ hk75))) (by decide) (by decide)) (xv_m hg296 (qS86 _ _ (qb82 _ _ hk75)) (by decide) (by decide)))]; exact ld9) (by rw [(Eq.trans (xv_m hg304 (qr295 _ _ (qS86 _ _ (qb82 _ _ hk66))) (by decide) (by decide)) (xv_m hg296 (qS86 _ _ (qb82 _ _ hk66)) (by decide) (by decide))), (Eq.trans (xv_m hg304 (qr295 _ _ (qS86 _ _ (qb82 _ _ hs_b81))) (by decide) (by decide)) (xv_m hg296 (qS86 _ _ (qb82 _ _ hs_b81)) (by decide) (by decide)))]; exact sk9) (by rw [(Eq.trans (xv_m hg304 (qr295 _ _ (qS86 _ _ (qb82 _ _ hs_b79))) (by decide) (by decide)) (xv_m hg296 (qS86 _ _ (qb82 _ _ hs_b79)) (by decide) (by decide))), (Eq.trans (xv_m hg304 (qr295 _ _ (qS86 _ _ (qb82 _ _ hs_b80))) (by decide) (by decide)) (xv_m hg296 (qS86 _ _ (qb82 _ _ hs_b80)) (by decide) (by decide)))]; exact xTc.mono tc9 (by omega)) (dc9 + dcr295) (ds9 + dsr295) (by omega) (by omega) (by omega)
        · refine X_tableIn hK 765 13 (by decide) c91 (by decide) (by decide) dL_law_40 rfl (by decide) ?_
          refine X_aloadn hK (i := 1) 3 dL_law_765 rfl rfl ?_
          refine X_callV hK [] [] lk_L_82 (c_X11_fault _ _ _ _ _ S86 g87 b1 (qS86 _ _ (qb82 _ _ hk64))) (qS86 _ _ (qb82 _ _ hk64)) ⟨by decide, rfl⟩ dL_law_766 rfl rfl (by simp [Value.category]) (by decide) (by omega) (by omega) (by decide) (fun r309 S311 g310 pr309 qr309 hg310 => ?_)
          obtain ⟨rfl, rfl, z312, rfl, lz312, uz312⟩ := pr309
          refine X_st [.int (iI z312)] rfl ?_
          refine X_pop hK dL_law_769 rfl ?_
          refine X_aloadn hK (i := 2) 2 dL_law_770 rfl rfl ?_
          refine X_callV hK [] [] lk_L_86 (c_X12_fault _ _ _ _ _ S86 g87 b36 (qS86 _ _ (qb82 _ _ hs_y62))) (qS86 _ _ (qb82 _ _ hs_y62)) ⟨by decide, rfl⟩ dL_law_771 rfl rfl (by simp [Value.category]) (by decide) (by omega) (by omega) (by decide) (fun r313 S315 g314 pr313 qr313 hg314 => ?_)
          obtain ⟨rfl, z316, rfl, lz316, uz316⟩ := pr313
          refine X_st [.int (iI z316)] rfl ?_
          refine X_pop hK dL_law_774 rfl ?_
          refine X_goto hK 1465 dL_law_775 (by decide) ?_
          refine X_iinc hK (i := 4) (z := i9) (n := 6) 0 [(4, .int (iI (i9 + 6))), (3, .ref b82), (2, .ref b36), (1, .ref b1), (0, .ref b)] dL_law_1465 rfl (by decide) rfl ?_
          refine X_goto hK 23 dL_law_1468 (by decide) ?_
          exact ih9 S86 qS86 g314 (i9 + 6) k9 t9 c9 b9 sh9 sp9 sm9 (by omega) (by omega) (by omega) (by omega) (by omega) (by omega) (by omega) (by omega) (xLs_mod al9 hg314 (by decide)) si9 (xPi_m pi9 hg314 xLe.rf (by decide)) (xMp_m mp9 hg314 xLe.rf (by decide)) (xTw_m tw9 hg314 xLe.rf (by decide)) ((hg314 b1 12 0 0 (qS86 _ _ (qb82 _ _ hk64)) (by decide)).trans el09) ((hg314 b1 12 0 3 (qS86 _ _ (qb82 _ _ hk64)) (by decide)).trans el19) ((hg314 b1 12 0 1 (qS86 _ _ (qb82 _ _ hk64)) (by decide)).trans el29) ((hg314 b34 6 0 1 (qS86 _ _ (qb82 _ _ hk72)) (by decide)).trans el39) ((hg314 b1 12 0 2 (qS86 _ _ (qb82 _ _ hk64)) (by decide)).trans el49) ((hg314 b18 4 0 0 (qS86 _ _ (qb82 _ _ hk65)) (by decide)).trans el59) ((hg314 b18 4 0 2 (qS86 _ _ (qb82 _ _ hk65)) (by decide)).trans el69) ((hg314 b18 4 0 3 (qS86 _ _ (qb82 _ _ hk65)) (by decide)).trans el79) ((hg314 b18 4 0 4 (qS86 _ _ (qb82 _ _ hk65)) (by decide)).trans el89) ((hg314 b32 10 0 0 (qS86 _ _ (qb82 _ _ hk70)) (by decide)).trans el99) ((hg314 b36 13 0 1 (qS86 _ _ (qb82 _ _ hs_y62)) (by decide)).trans el109) ((hg314 b36 13 0 10 (qS86 _ _ (qb82 _ _ hs_y62)) (by decide)).trans el119) ((hg314 b36 13 0 13 (qS86 _ _ (qb82 _ _ hs_y62)) (by decide)).trans el129) ((hg314 b36 13 0 14 (qS86 _ _ (qb82 _ _ hs_y62)) (by decide)).trans el139) ((hg314 b36 13 0 12 (qS86 _ _ (qb82 _ _ hs_y62)) (by decide)).trans el149) ((hg314 b32 10 0 1 (qS86 _ _ (qb82 _ _ hk70)) (by decide)).trans exk9) ((hg314 b36 13 0 2 (qS86 _ _ (qb82 _ _ hs_y62)) (by decide)).trans emk9) ((hg314 b1 12 0 12 (qS86 _ _ (qb82 _ _ hk64)) (by decide)).trans ext9) ((hg314 b36 13 0 3 (qS86 _ _ (qb82 _ _ hs_y62)) (by decide)).trans emt9) ((hg314 b33 5 0 3 (qS86 _ _ (qb82 _ _ hk71)) (by decide)).trans exc9) ((hg314 b36 13 0 69 (qS86 _ _ (qb82 _ _ hs_y62)) (by decide)).trans emc9) ((hg314 b35 0 0 2 (qS86 _ _ (qb82 _ _ hk73)) (by decide)).trans exb9) ((hg314 b36 13 0 16 (qS86 _ _ (qb82 _ _ hs_y62)) (by decide)).trans emb9) ((hg314 b1 12 0 16 (qS86 _ _ (qb82 _ _ hk64)) (by decide)).trans exsh9) ((hg314 b36 13 0 89 (qS86 _ _ (qb82 _ _ hs_y62)) (by decide)).trans emsh9) ((hg314 b1 12 0 17 (qS86 _ _ (qb82 _ _ hk64)) (by decide)).trans exsp9) ((hg314 b36 13 0 90 (qS86 _ _ (qb82 _ _ hs_y62)) (by decide)).trans emsp9) ((hg314 b36 13 0 17 (qS86 _ _ (qb82 _ _ hs_y62)) (by decide)).trans emsm9) (xWn.m wn9 (qS86 _ _ (qb82 _ _ hk69)) (qS86 _ _ (qb82 _ _ hk76)) hg314 xLe.rf (by decide)) (by rw [(xv_m hg314 (qS86 _ _ (qb82 _ _ hk67)) (by decide) (by decide)), (xv_m hg314 (qS86 _ _ (qb82 _ _ hk74)) (by decide) (by decide))]; exact wt9) (by rw [(xv_m hg314 (qS86 _ _ (qb82 _ _ hk68)) (by decide) (by decide)), (xv_m hg314 (qS86 _ _ (qb82 _ _ hk75)) (by decide) (by decide))]; exact ld9) (by rw [(xv_m hg314 (qS86 _ _ (qb82 _ _ hk66)) (by decide) (by decide)), (xv_m hg314 (qS86 _ _ (qb82 _ _ hs_b81)) (by decide) (by decide))]; exact sk9) (by rw [(xv_m hg314 (qS86 _ _ (qb82 _ _ hs_b79)) (by decide) (by decide)), (xv_m hg314 (qS86 _ _ (qb82 _ _ hs_b80)) (by decide) (by decide))]; exact xTc.mono tc9 (by omega)) dc9 ds9 (by omega) (by omega) (by omega)
        · refine X_tableIn hK 778 14 (by decide) c91 (by decide) (by decide) dL_law_40 rfl (by decide) ?_
          refine X_aloadn hK (i := 1) 3 dL_law_778 rfl rfl ?_
          refine X_aloadn hK (i := 0) 4 dL_law_779 rfl rfl ?_
          refine X_iload hK (i := 4) 0 dL_law_780 rfl ?_
          refine X_iconst hK dL_law_782 ?_
          refine X_iadd hK dL_law_783 ?_
          refine X_scr hK hX hbl hbA hL (by omega) (by omega) dL_law_784 (fun z317 ez317 lz317 uz317 => ?_)
          refine X_aloadn hK (i := 0) 4 dL_law_785 rfl rfl ?_
          refine X_iload hK (i := 4) 0 dL_law_786 rfl ?_
          refine X_iconst hK dL_law_788 ?_
          refine X_iadd hK dL_law_789 ?_
          refine X_scr hK hX hbl hbA hL (by omega) (by omega) dL_law_790 (fun z318 ez318 lz318 uz318 => ?_)
          refine X_aloadn hK (i := 0) 4 dL_law_791 rfl rfl ?_
          refine X_iload hK (i := 4) 0 dL_law_792 rfl ?_
          refine X_iconst hK dL_law_794 ?_
          refine X_iadd hK dL_law_795 ?_
          refine X_scr hK hX hbl hbA hL (by omega) (by omega) dL_law_796 (fun z319 ez319 lz319 uz319 => ?_)
          refine X_aloadn hK (i := 0) 4 dL_law_797 rfl rfl ?_
          refine X_iload hK (i := 4) 0 dL_law_798 rfl ?_
          refine X_iconst hK dL_law_800 ?_
          refine X_iadd hK dL_law_801 ?_
          refine X_scr hK hX hbl hbA hL (by omega) (by omega) dL_law_802 (fun z320 ez320 lz320 uz320 => ?_)
          refine X_aloadn hK (i := 0) 4 dL_law_803 rfl rfl ?_
          refine X_iload hK (i := 4) 0 dL_law_804 rfl ?_
          refine X_iconst hK dL_law_806 ?_
          refine X_iadd hK dL_law_807 ?_
          refine X_scr hK hX hbl hbA hL (by omega) (by omega) dL_law_808 (fun z321 ez321 lz321 uz321 => ?_)
          refine X_callVU hK [.int (iI z317), .int (iI z318), .int (iI z319), .int (iI z320), .int (iI z321)] [] lk_L_87 (c_X11_bundle _ _ _ _ _ S86 g87 b1 z317 z318 z319 z320 z321 (qS86 _ _ (qb82 _ _ hk64)) (by omega) (by omega) (by omega) (by omega) (by omega) al9 si9) (qS86 _ _ (qb82 _ _ hk64)) ⟨by decide, rfl⟩ dL_law_809 rfl rfl (by simp [Value.category]) (by decide) (by omega) (by omega) (by decide) (fun r322 S324 g323 dcr322 dsr322 pr322 qr322 hg323 => ?_)
          obtain ⟨wr322, z325, rfl, lz325, uz325, k326, k327, k328⟩ := pr322
          refine X_st [.int (iI z325)] rfl ?_
          refine X_pop hK dL_law_812 rfl ?_
          refine X_aloadn hK (i := 2) 2 dL_law_813 rfl rfl ?_
          refine X_aloadn hK (i := 0) 4 dL_law_814 rfl rfl ?_
          refine X_iload hK (i := 4) 0 dL_law_815 rfl ?_
          refine X_iconst hK dL_law_817 ?_
          refine X_iadd hK dL_law_818 ?_
          refine X_scrK hK hX hbl hbA hL (by omega) (by omega) ez317 dL_law_819 ?_
          refine X_aloadn hK (i := 0) 4 dL_law_820 rfl rfl ?_
          refine X_iload hK (i := 4) 0 dL_law_821 rfl ?_
          refine X_iconst hK dL_law_823 ?_
          refine X_iadd hK dL_law_824 ?_
          refine X_scrK hK hX hbl hbA hL (by omega) (by omega) ez318 dL_law_825 ?_
          refine X_aloadn hK (i := 0) 4 dL_law_826 rfl rfl ?_
          refine X_iload hK (i := 4) 0 dL_law_827 rfl ?_
          refine X_iconst hK dL_law_829 ?_
          refine X_iadd hK dL_law_830 ?_
          refine X_scrK hK hX hbl hbA hL (by omega) (by omega) ez319 dL_law_831 ?_
          refine X_aloadn hK (i := 0) 4 dL_law_832 rfl rfl ?_
          refine X_iload hK (i := 4) 0 dL_law_833 rfl ?_
          refine X_iconst hK dL_law_835 ?_
          refine X_iadd hK dL_law_836 ?_
          refine X_scrK hK hX hbl hbA hL (by omega) (by omega) ez320 dL_law_837 ?_
          refine X_aloadn hK (i := 0) 4 dL_law_838 rfl rfl ?_
          refine X_iload hK (i := 4) 0 dL_law_839 rfl ?_
          refine X_iconst hK dL_law_841 ?_
          refine X_iadd hK dL_law_842 ?_
          refine X_scrK hK hX hbl hbA hL (by omega) (by omega) ez321 dL_law_843 ?_
          refine X_callV hK [.int (iI z317), .int (iI z318), .int (iI z319), .int (iI z320), .int (iI z321)] [] lk_L_90 (c_X12_bundle _ _ _ _ _ S324 g323 b36 z317 z318 z319 z320 z321 (qr322 _ _ (qS86 _ _ (qb82 _ _ hs_y62))) (by omega) (by omega) (by omega) (by omega) (by omega) (xTw_m tw9 hg323 qr322 (by decide))) (qr322 _ _ (qS86 _ _ (qb82 _ _ hs_y62))) ⟨by decide, rfl⟩ dL_law_844 rfl rfl (by simp [Value.category]) (by decide) (by omega) (by omega) (by decide) (fun r329 S331 g330 pr329 qr329 hg330 => ?_)
          obtain ⟨rfl, z332, rfl, lz332, uz332⟩ := pr329
          refine X_st [.int (iI z332)] rfl ?_
          refine X_pop hK dL_law_847 rfl ?_
          refine X_goto hK 1465 dL_law_848 (by decide) ?_
          refine X_iinc hK (i := 4) (z := i9) (n := 6) 0 [(4, .int (iI (i9 + 6))), (3, .ref b82), (2, .ref b36), (1, .ref b1), (0, .ref b)] dL_law_1465 rfl (by decide) rfl ?_
          refine X_goto hK 23 dL_law_1468 (by decide) ?_
          exact ih9 S324 (xLe.tr qS86 qr322) g330 (i9 + 6) k9 t9 c9 b9 sh9 sp9 sm9 (by omega) (by omega) (by omega) (by omega) (by omega) (by omega) (by omega) (by omega) (xLs_mod k326 hg330 (by decide)) k327 (xPi_m (xPi_m pi9 hg323 qr322 (by decide)) hg330 xLe.rf (by decide)) (xMp_m (xMp_m mp9 hg323 qr322 (by decide)) hg330 xLe.rf (by decide)) (xTw_m (xTw_m tw9 hg323 qr322 (by decide)) hg330 xLe.rf (by decide)) ((hg330 b1 12 0 0 (qr322 _ _ (qS86 _ _ (qb82 _ _ hk64))) (by decide)).trans ((hg323 b1 12 0 0 (qS86 _ _ (qb82 _ _ hk64)) (by decide)).trans el09)) ((hg330 b1 12 0 3 (qr322 _ _ (qS86 _ _ (qb82 _ _ hk64))) (by decide)).trans ((hg323 b1 12 0 3 (qS86 _ _ (qb82 _ _ hk64)) (by decide)).trans el19)) ((hg330 b1 12 0 1 (qr322 _ _ (qS86 _ _ (qb82 _ _ hk64))) (by decide)).trans ((hg323 b1 12 0 1 (qS86 _ _ (qb82 _ _ hk64)) (by decide)).trans el29)) ((hg330 b34 6 0 1 (qr322 _ _ (qS86 _ _ (qb82 _ _ hk72))) (by decide)).trans ((hg323 b34 6 0 1 (qS86 _ _ (qb82 _ _ hk72)) (by decide)).trans el39)) ((hg330 b1 12 0 2 (qr322 _ _ (qS86 _ _ (qb82 _ _ hk64))) (by decide)).trans ((hg323 b1 12 0 2 (qS86 _ _ (qb82 _ _ hk64)) (by decide)).trans el49)) ((hg330 b18 4 0 0 (qr322 _ _ (qS86 _ _ (qb82 _ _ hk65))) (by decide)).trans ((hg323 b18 4 0 0 (qS86 _ _ (qb82 _ _ hk65)) (by decide)).trans el59)) ((hg330 b18 4 0 2 (qr322 _ _ (qS86 _ _ (qb82 _ _ hk65))) (by decide)).trans ((hg323 b18 4 0 2 (qS86 _ _ (qb82 _ _ hk65)) (by decide)).trans el69)) ((hg330 b18 4 0 3 (qr322 _ _ (qS86 _ _ (qb82 _ _ hk65))) (by decide)).trans ((hg323 b18 4 0 3 (qS86 _ _ (qb82 _ _ hk65)) (by decide)).trans el79)) ((hg330 b18 4 0 4 (qr322 _ _ (qS86 _ _ (qb82 _ _ hk65))) (by decide)).trans ((hg323 b18 4 0 4 (qS86 _ _ (qb82 _ _ hk65)) (by decide)).trans el89)) ((hg330 b32 10 0 0 (qr322 _ _ (qS86 _ _ (qb82 _ _ hk70))) (by decide)).trans ((hg323 b32 10 0 0 (qS86 _ _ (qb82 _ _ hk70)) (by decide)).trans el99)) ((hg330 b36 13 0 1 (qr322 _ _ (qS86 _ _ (qb82 _ _ hs_y62))) (by decide)).trans ((hg323 b36 13 0 1 (qS86 _ _ (qb82 _ _ hs_y62)) (by decide)).trans el109)) ((hg330 b36 13 0 10 (qr322 _ _ (qS86 _ _ (qb82 _ _ hs_y62))) (by decide)).trans ((hg323 b36 13 0 10 (qS86 _ _ (qb82 _ _ hs_y62)) (by decide)).trans el119)) ((hg330 b36 13 0 13 (qr322 _ _ (qS86 _ _ (qb82 _ _ hs_y62))) (by decide)).trans ((hg323 b36 13 0 13 (qS86 _ _ (qb82 _ _ hs_y62)) (by decide)).trans el129)) ((hg330 b36 13 0 14 (qr322 _ _ (qS86 _ _ (qb82 _ _ hs_y62))) (by decide)).trans ((hg323 b36 13 0 14 (qS86 _ _ (qb82 _ _ hs_y62)) (by decide)).trans el139)) ((hg330 b36 13 0 12 (qr322 _ _ (qS86 _ _ (qb82 _ _ hs_y62))) (by decide)).trans ((hg323 b36 13 0 12 (qS86 _ _ (qb82 _ _ hs_y62)) (by decide)).trans el149)) ((hg330 b32 10 0 1 (qr322 _ _ (qS86 _ _ (qb82 _ _ hk70))) (by decide)).trans ((hg323 b32 10 0 1 (qS86 _ _ (qb82 _ _ hk70)) (by decide)).trans exk9)) ((hg330 b36 13 0 2 (qr322 _ _ (qS86 _ _ (qb82 _ _ hs_y62))) (by decide)).trans ((hg323 b36 13 0 2 (qS86 _ _ (qb82 _ _ hs_y62)) (by decide)).trans emk9)) ((hg330 b1 12 0 12 (qr322 _ _ (qS86 _ _ (qb82 _ _ hk64))) (by decide)).trans ((hg323 b1 12 0 12 (qS86 _ _ (qb82 _ _ hk64)) (by decide)).trans ext9)) ((hg330 b36 13 0 3 (qr322 _ _ (qS86 _ _ (qb82 _ _ hs_y62))) (by decide)).trans ((hg323 b36 13 0 3 (qS86 _ _ (qb82 _ _ hs_y62)) (by decide)).trans emt9)) ((hg330 b33 5 0 3 (qr322 _ _ (qS86 _ _ (qb82 _ _ hk71))) (by decide)).trans ((hg323 b33 5 0 3 (qS86 _ _ (qb82 _ _ hk71)) (by decide)).trans exc9)) ((hg330 b36 13 0 69 (qr322 _ _ (qS86 _ _ (qb82 _ _ hs_y62))) (by decide)).trans ((hg323 b36 13 0 69 (qS86 _ _ (qb82 _ _ hs_y62)) (by decide)).trans emc9)) ((hg330 b35 0 0 2 (qr322 _ _ (qS86 _ _ (qb82 _ _ hk73))) (by decide)).trans ((hg323 b35 0 0 2 (qS86 _ _ (qb82 _ _ hk73)) (by decide)).trans exb9)) ((hg330 b36 13 0 16 (qr322 _ _ (qS86 _ _ (qb82 _ _ hs_y62))) (by decide)).trans ((hg323 b36 13 0 16 (qS86 _ _ (qb82 _ _ hs_y62)) (by decide)).trans emb9)) ((hg330 b1 12 0 16 (qr322 _ _ (qS86 _ _ (qb82 _ _ hk64))) (by decide)).trans ((hg323 b1 12 0 16 (qS86 _ _ (qb82 _ _ hk64)) (by decide)).trans exsh9)) ((hg330 b36 13 0 89 (qr322 _ _ (qS86 _ _ (qb82 _ _ hs_y62))) (by decide)).trans ((hg323 b36 13 0 89 (qS86 _ _ (qb82 _ _ hs_y62)) (by decide)).trans emsh9)) ((hg330 b1 12 0 17 (qr322 _ _ (qS86 _ _ (qb82 _ _ hk64))) (by decide)).trans ((hg323 b1 12 0 17 (qS86 _ _ (qb82 _ _ hk64)) (by decide)).trans exsp9)) ((hg330 b36 13 0 90 (qr322 _ _ (qS86 _ _ (qb82 _ _ hs_y62))) (by decide)).trans ((hg323 b36 13 0 90 (qS86 _ _ (qb82 _ _ hs_y62)) (by decide)).trans emsp9)) ((hg330 b36 13 0 17 (qr322 _ _ (qS86 _ _ (qb82 _ _ hs_y62))) (by decide)).trans ((hg323 b36 13 0 17 (qS86 _ _ (qb82 _ _ hs_y62)) (by decide)).trans emsm9)) (xWn.m (xWn.m wn9 (qS86 _ _ (qb82 _ _ hk69)) (qS86 _ _ (qb82 _ _ hk76)) hg323 qr322 (by decide)) (qr322 _ _ (qS86 _ _ (qb82 _ _ hk69))) (qr322 _ _ (qS86 _ _ (qb82 _ _ hk76))) hg330 xLe.rf (by decide)) (by rw [(Eq.trans (xv_m hg330 (qr322 _ _ (qS86 _ _ (qb82 _ _ hk67))) (by decide) (by decide)) (xv_m hg323 (qS86 _ _ (qb82 _ _ hk67)) (by decide) (by decide))), (Eq.trans (xv_m hg330 (qr322 _ _ (qS86 _ _ (qb82 _ _ hk74))) (by decide) (by decide)) (xv_m hg323 (qS86 _ _ (qb82 _ _ hk74)) (by decide) (by decide)))]; exact wt9) (by rw [(Eq.trans (xv_m hg330 (qr322 _ _ (qS86 _ _ (qb82 _ _ hk68))) (by decide) (by decide)) (xv_m hg323 (qS86 _ _ (qb82 _ _ hk68)) (by decide) (by decide))), (Eq.trans (xv_m hg330 (qr322 _ _ (qS86 _ _ (qb82 _ _ hk75))) (by decide) (by decide)) (xv_m hg323 (qS86 _ _ (qb82 _ _ hk75)) (by decide) (by decide)))]; exact ld9) (by rw [(Eq.trans (xv_m hg330 (qr322 _ _ (qS86 _ _ (qb82 _ _ hk66))) (by decide) (by decide)) (xv_m hg323 (qS86 _ _ (qb82 _ _ hk66)) (by decide) (by decide))), (Eq.trans (xv_m hg330 (qr322 _ _ (qS86 _ _ (qb82 _ _ hs_b81))) (by decide) (by decide)) (xv_m hg323 (qS86 _ _ (qb82 _ _ hs_b81)) (by decide) (by decide)))]; exact sk9) (by rw [(Eq.trans (xv_m hg330 (qr322 _ _ (qS86 _ _ (qb82 _ _ hs_b79))) (by decide) (by decide)) (xv_m hg323 (qS86 _ _ (qb82 _ _ hs_b79)) (by decide) (by decide))), (Eq.trans (xv_m hg330 (qr322 _ _ (qS86 _ _ (qb82 _ _ hs_b80))) (by decide) (by decide)) (xv_m hg323 (qS86 _ _ (qb82 _ _ hs_b80)) (by decide) (by decide)))]; exact xTc.mono tc9 (by omega)) (dc9 + dcr322) (ds9 + dsr322) (by omega) (by omega) (by omega)
        · refine X_tableIn hK 851 15 (by decide) c91 (by decide) (by decide) dL_law_40 rfl (by decide) ?_
          refine X_aloadn hK (i := 1) 3 dL_law_851 rfl rfl ?_
          refine X_aloadn hK (i := 0) 4 dL_law_852 rfl rfl ?_
          refine X_iload hK (i := 4) 0 dL_law_853 rfl ?_
          refine X_iconst hK dL_law_855 ?_
          refine X_iadd hK dL_law_856 ?_
          refine X_scr hK hX hbl hbA hL (by omega) (by omega) dL_law_857 (fun z333 ez333 lz333 uz333 => ?_)
          refine X_aloadn hK (i := 0) 4 dL_law_858 rfl rfl ?_
          refine X_iload hK (i := 4) 0 dL_law_859 rfl ?_
          refine X_iconst hK dL_law_861 ?_
          refine X_iadd hK dL_law_862 ?_
          refine X_scr hK hX hbl hbA hL (by omega) (by omega) dL_law_863 (fun z334 ez334 lz334 uz334 => ?_)
          refine X_callV hK [.int (iI z333), .int (iI z334)] [] lk_L_91 (c_X11_told _ _ _ _ _ S86 g87 b1 z333 z334 (qS86 _ _ (qb82 _ _ hk64)) (by omega) (by omega) al9) (qS86 _ _ (qb82 _ _ hk64)) ⟨by decide, rfl⟩ dL_law_864 rfl rfl (by simp [Value.category]) (by decide) (by omega) (by omega) (by decide) (fun r335 S337 g336 pr335 qr335 hg336 => ?_)
          obtain ⟨rfl, z338, rfl, lz338, uz338⟩ := pr335
          refine X_st [.int (iI z338)] rfl ?_
          refine X_pop hK dL_law_867 rfl ?_
          refine X_aloadn hK (i := 2) 2 dL_law_868 rfl rfl ?_
          refine X_aloadn hK (i := 0) 4 dL_law_869 rfl rfl ?_
          refine X_iload hK (i := 4) 0 dL_law_870 rfl ?_
          refine X_iconst hK dL_law_872 ?_
          refine X_iadd hK dL_law_873 ?_
          refine X_scrK hK hX hbl hbA hL (by omega) (by omega) ez333 dL_law_874 ?_
          refine X_aloadn hK (i := 0) 4 dL_law_875 rfl rfl ?_
          refine X_iload hK (i := 4) 0 dL_law_876 rfl ?_
          refine X_iconst hK dL_law_878 ?_
          refine X_iadd hK dL_law_879 ?_
          refine X_scrK hK hX hbl hbA hL (by omega) (by omega) ez334 dL_law_880 ?_
          refine X_callV hK [.int (iI z333), .int (iI z334)] [] lk_L_94 (c_X12_told _ _ _ _ _ S86 g336 b36 z333 z334 (qS86 _ _ (qb82 _ _ hs_y62)) (by omega) (by omega) (xTw_m tw9 hg336 xLe.rf (by decide))) (qS86 _ _ (qb82 _ _ hs_y62)) ⟨by decide, rfl⟩ dL_law_881 rfl rfl (by simp [Value.category]) (by decide) (by omega) (by omega) (by decide) (fun r339 S341 g340 pr339 qr339 hg340 => ?_)
          obtain ⟨rfl, z342, rfl, lz342, uz342⟩ := pr339
          refine X_st [.int (iI z342)] rfl ?_
          refine X_pop hK dL_law_884 rfl ?_
          refine X_goto hK 1465 dL_law_885 (by decide) ?_
          refine X_iinc hK (i := 4) (z := i9) (n := 6) 0 [(4, .int (iI (i9 + 6))), (3, .ref b82), (2, .ref b36), (1, .ref b1), (0, .ref b)] dL_law_1465 rfl (by decide) rfl ?_
          refine X_goto hK 23 dL_law_1468 (by decide) ?_
          exact ih9 S86 qS86 g340 (i9 + 6) k9 t9 c9 b9 sh9 sp9 sm9 (by omega) (by omega) (by omega) (by omega) (by omega) (by omega) (by omega) (by omega) (xLs_mod (xLs_mod al9 hg336 (by decide)) hg340 (by decide)) si9 (xPi_m (xPi_m pi9 hg336 xLe.rf (by decide)) hg340 xLe.rf (by decide)) (xMp_m (xMp_m mp9 hg336 xLe.rf (by decide)) hg340 xLe.rf (by decide)) (xTw_m (xTw_m tw9 hg336 xLe.rf (by decide)) hg340 xLe.rf (by decide)) ((hg340 b1 12 0 0 (qS86 _ _ (qb82 _ _ hk64)) (by decide)).trans ((hg336 b1 12 0 0 (qS86 _ _ (qb82 _ _ hk64)) (by decide)).trans el09)) ((hg340 b1 12 0 3 (qS86 _ _ (qb82 _ _ hk64)) (by decide)).trans ((hg336 b1 12 0 3 (qS86 _ _ (qb82 _ _ hk64)) (by decide)).trans el19)) ((hg340 b1 12 0 1 (qS86 _ _ (qb82 _ _ hk64)) (by decide)).trans ((hg336 b1 12 0 1 (qS86 _ _ (qb82 _ _ hk64)) (by decide)).trans el29)) ((hg340 b34 6 0 1 (qS86 _ _ (qb82 _ _ hk72)) (by decide)).trans ((hg336 b34 6 0 1 (qS86 _ _ (qb82 _ _ hk72)) (by decide)).trans el39)) ((hg340 b1 12 0 2 (qS86 _ _ (qb82 _ _ hk64)) (by decide)).trans ((hg336 b1 12 0 2 (qS86 _ _ (qb82 _ _ hk64)) (by decide)).trans el49)) ((hg340 b18 4 0 0 (qS86 _ _ (qb82 _ _ hk65)) (by decide)).trans ((hg336 b18 4 0 0 (qS86 _ _ (qb82 _ _ hk65)) (by decide)).trans el59)) ((hg340 b18 4 0 2 (qS86 _ _ (qb82 _ _ hk65)) (by decide)).trans ((hg336 b18 4 0 2 (qS86 _ _ (qb82 _ _ hk65)) (by decide)).trans el69)) ((hg340 b18 4 0 3 (qS86 _ _ (qb82 _ _ hk65)) (by decide)).trans ((hg336 b18 4 0 3 (qS86 _ _ (qb82 _ _ hk65)) (by decide)).trans el79)) ((hg340 b18 4 0 4 (qS86 _ _ (qb82 _ _ hk65)) (by decide)).trans ((hg336 b18 4 0 4 (qS86 _ _ (qb82 _ _ hk65)) (by decide)).trans el89)) ((hg340 b32 10 0 0 (qS86 _ _ (qb82 _ _ hk70)) (by decide)).trans ((hg336 b32 10 0 0 (qS86 _ _ (qb82 _ _ hk70)) (by decide)).trans el99)) ((hg340 b36 13 0 1 (qS86 _ _ (qb82 _ _ hs_y62)) (by decide)).trans ((hg336 b36 13 0 1 (qS86 _ _ (qb82 _ _ hs_y62)) (by decide)).trans el109)) ((hg340 b36 13 0 10 (qS86 _ _ (qb82 _ _ hs_y62)) (by decide)).trans ((hg336 b36 13 0 10 (qS86 _ _ (qb82 _ _ hs_y62)) (by decide)).trans el119)) ((hg340 b36 13 0 13 (qS86 _ _ (qb82 _ _ hs_y62)) (by decide)).trans ((hg336 b36 13 0 13 (qS86 _ _ (qb82 _ _ hs_y62)) (by decide)).trans el129)) ((hg340 b36 13 0 14 (qS86 _ _ (qb82 _ _ hs_y62)) (by decide)).trans ((hg336 b36 13 0 14 (qS86 _ _ (qb82 _ _ hs_y62)) (by decide)).trans el139)) ((hg340 b36 13 0 12 (qS86 _ _ (qb82 _ _ hs_y62)) (by decide)).trans ((hg336 b36 13 0 12 (qS86 _ _ (qb82 _ _ hs_y62)) (by decide)).trans el149)) ((hg340 b32 10 0 1 (qS86 _ _ (qb82 _ _ hk70)) (by decide)).trans ((hg336 b32 10 0 1 (qS86 _ _ (qb82 _ _ hk70)) (by decide)).trans exk9)) ((hg340 b36 13 0 2 (qS86 _ _ (qb82 _ _ hs_y62)) (by decide)).trans ((hg336 b36 13 0 2 (qS86 _ _ (qb82 _ _ hs_y62)) (by decide)).trans emk9)) ((hg340 b1 12 0 12 (qS86 _ _ (qb82 _ _ hk64)) (by decide)).trans ((hg336 b1 12 0 12 (qS86 _ _ (qb82 _ _ hk64)) (by decide)).trans ext9)) ((hg340 b36 13 0 3 (qS86 _ _ (qb82 _ _ hs_y62)) (by decide)).trans ((hg336 b36 13 0 3 (qS86 _ _ (qb82 _ _ hs_y62)) (by decide)).trans emt9)) ((hg340 b33 5 0 3 (qS86 _ _ (qb82 _ _ hk71)) (by decide)).trans ((hg336 b33 5 0 3 (qS86 _ _ (qb82 _ _ hk71)) (by decide)).trans exc9)) ((hg340 b36 13 0 69 (qS86 _ _ (qb82 _ _ hs_y62)) (by decide)).trans ((hg336 b36 13 0 69 (qS86 _ _ (qb82 _ _ hs_y62)) (by decide)).trans emc9)) ((hg340 b35 0 0 2 (qS86 _ _ (qb82 _ _ hk73)) (by decide)).trans ((hg336 b35 0 0 2 (qS86 _ _ (qb82 _ _ hk73)) (by decide)).trans exb9)) ((hg340 b36 13 0 16 (qS86 _ _ (qb82 _ _ hs_y62)) (by decide)).trans ((hg336 b36 13 0 16 (qS86 _ _ (qb82 _ _ hs_y62)) (by decide)).trans emb9)) ((hg340 b1 12 0 16 (qS86 _ _ (qb82 _ _ hk64)) (by decide)).trans ((hg336 b1 12 0 16 (qS86 _ _ (qb82 _ _ hk64)) (by decide)).trans exsh9)) ((hg340 b36 13 0 89 (qS86 _ _ (qb82 _ _ hs_y62)) (by decide)).trans ((hg336 b36 13 0 89 (qS86 _ _ (qb82 _ _ hs_y62)) (by decide)).trans emsh9)) ((hg340 b1 12 0 17 (qS86 _ _ (qb82 _ _ hk64)) (by decide)).trans ((hg336 b1 12 0 17 (qS86 _ _ (qb82 _ _ hk64)) (by decide)).trans exsp9)) ((hg340 b36 13 0 90 (qS86 _ _ (qb82 _ _ hs_y62)) (by decide)).trans ((hg336 b36 13 0 90 (qS86 _ _ (qb82 _ _ hs_y62)) (by decide)).trans emsp9)) ((hg340 b36 13 0 17 (qS86 _ _ (qb82 _ _ hs_y62)) (by decide)).trans ((hg336 b36 13 0 17 (qS86 _ _ (qb82 _ _ hs_y62)) (by decide)).trans emsm9)) (xWn.m (xWn.m wn9 (qS86 _ _ (qb82 _ _ hk69)) (qS86 _ _ (qb82 _ _ hk76)) hg336 xLe.rf (by decide)) (qS86 _ _ (qb82 _ _ hk69)) (qS86 _ _ (qb82 _ _ hk76)) hg340 xLe.rf (by decide)) (by rw [(Eq.trans (xv_m hg340 (qS86 _ _ (qb82 _ _ hk67)) (by decide) (by decide)) (xv_m hg336 (qS86 _ _ (qb82 _ _ hk67)) (by decide) (by decide))), (Eq.trans (xv_m hg340 (qS86 _ _ (qb82 _ _ hk74)) (by decide) (by decide)) (xv_m hg336 (qS86 _ _ (qb82 _ _ hk74)) (by decide) (by decide)))]; exact wt9) (by rw [(Eq.trans (xv_m hg340 (qS86 _ _ (qb82 _ _ hk68)) (by decide) (by decide)) (xv_m hg336 (qS86 _ _ (qb82 _ _ hk68)) (by decide) (by decide))), (Eq.trans (xv_m hg340 (qS86 _ _ (qb82 _ _ hk75)) (by decide) (by decide)) (xv_m hg336 (qS86 _ _ (qb82 _ _ hk75)) (by decide) (by decide)))]; exact ld9) (by rw [(Eq.trans (xv_m hg340 (qS86 _ _ (qb82 _ _ hk66)) (by decide) (by decide)) (xv_m hg336 (qS86 _ _ (qb82 _ _ hk66)) (by decide) (by decide))), (Eq.trans (xv_m hg340 (qS86 _ _ (qb82 _ _ hs_b81)) (by decide) (by decide)) (xv_m hg336 (qS86 _ _ (qb82 _ _ hs_b81)) (by decide) (by decide)))]; exact sk9) (by rw [(Eq.trans (xv_m hg340 (qS86 _ _ (qb82 _ _ hs_b79)) (by decide) (by decide)) (xv_m hg336 (qS86 _ _ (qb82 _ _ hs_b79)) (by decide) (by decide))), (Eq.trans (xv_m hg340 (qS86 _ _ (qb82 _ _ hs_b80)) (by decide) (by decide)) (xv_m hg336 (qS86 _ _ (qb82 _ _ hs_b80)) (by decide) (by decide)))]; exact xTc.mono tc9 (by omega)) dc9 ds9 (by omega) (by omega) (by omega)
        · refine X_tableIn hK 888 16 (by decide) c91 (by decide) (by decide) dL_law_40 rfl (by decide) ?_
          refine X_aloadn hK (i := 1) 3 dL_law_888 rfl rfl ?_
          refine X_callV hK [] [] lk_L_95 (c_X11_why _ _ _ _ _ S86 g87 b1 (qS86 _ _ (qb82 _ _ hk64))) (qS86 _ _ (qb82 _ _ hk64)) ⟨by decide, rfl⟩ dL_law_889 rfl rfl (by simp [Value.category]) (by decide) (by omega) (by omega) (by decide) (fun r343 S345 g344 pr343 qr343 hg344 => ?_)
          obtain ⟨rfl, rfl, z346, rfl, lz346, uz346⟩ := pr343
          refine X_st [.int (iI z346)] rfl ?_
          refine X_pop hK dL_law_892 rfl ?_
          refine X_aloadn hK (i := 2) 2 dL_law_893 rfl rfl ?_
          refine X_callV hK [] [] lk_L_98 (c_X12_why _ _ _ _ _ S86 g87 b36 (qS86 _ _ (qb82 _ _ hs_y62))) (qS86 _ _ (qb82 _ _ hs_y62)) ⟨by decide, rfl⟩ dL_law_894 rfl rfl (by simp [Value.category]) (by decide) (by omega) (by omega) (by decide) (fun r347 S349 g348 pr347 qr347 hg348 => ?_)
          obtain ⟨rfl, z350, rfl, lz350, uz350⟩ := pr347
          refine X_st [.int (iI z350)] rfl ?_
          refine X_pop hK dL_law_897 rfl ?_
          refine X_goto hK 1465 dL_law_898 (by decide) ?_
          refine X_iinc hK (i := 4) (z := i9) (n := 6) 0 [(4, .int (iI (i9 + 6))), (3, .ref b82), (2, .ref b36), (1, .ref b1), (0, .ref b)] dL_law_1465 rfl (by decide) rfl ?_
          refine X_goto hK 23 dL_law_1468 (by decide) ?_
          exact ih9 S86 qS86 g348 (i9 + 6) k9 t9 c9 b9 sh9 sp9 sm9 (by omega) (by omega) (by omega) (by omega) (by omega) (by omega) (by omega) (by omega) (xLs_mod al9 hg348 (by decide)) si9 (xPi_m pi9 hg348 xLe.rf (by decide)) (xMp_m mp9 hg348 xLe.rf (by decide)) (xTw_m tw9 hg348 xLe.rf (by decide)) ((hg348 b1 12 0 0 (qS86 _ _ (qb82 _ _ hk64)) (by decide)).trans el09) ((hg348 b1 12 0 3 (qS86 _ _ (qb82 _ _ hk64)) (by decide)).trans el19) ((hg348 b1 12 0 1 (qS86 _ _ (qb82 _ _ hk64)) (by decide)).trans el29) ((hg348 b34 6 0 1 (qS86 _ _ (qb82 _ _ hk72)) (by decide)).trans el39) ((hg348 b1 12 0 2 (qS86 _ _ (qb82 _ _ hk64)) (by decide)).trans el49) ((hg348 b18 4 0 0 (qS86 _ _ (qb82 _ _ hk65)) (by decide)).trans el59) ((hg348 b18 4 0 2 (qS86 _ _ (qb82 _ _ hk65)) (by decide)).trans el69) ((hg348 b18 4 0 3 (qS86 _ _ (qb82 _ _ hk65)) (by decide)).trans el79) ((hg348 b18 4 0 4 (qS86 _ _ (qb82 _ _ hk65)) (by decide)).trans el89) ((hg348 b32 10 0 0 (qS86 _ _ (qb82 _ _ hk70)) (by decide)).trans el99) ((hg348 b36 13 0 1 (qS86 _ _ (qb82 _ _ hs_y62)) (by decide)).trans el109) ((hg348 b36 13 0 10 (qS86 _ _ (qb82 _ _ hs_y62)) (by decide)).trans el119) ((hg348 b36 13 0 13 (qS86 _ _ (qb82 _ _ hs_y62)) (by decide)).trans el129) ((hg348 b36 13 0 14 (qS86 _ _ (qb82 _ _ hs_y62)) (by decide)).trans el139) ((hg348 b36 13 0 12 (qS86 _ _ (qb82 _ _ hs_y62)) (by decide)).trans el149) ((hg348 b32 10 0 1 (qS86 _ _ (qb82 _ _ hk70)) (by decide)).trans exk9) ((hg348 b36 13 0 2 (qS86 _ _ (qb82 _ _ hs_y62)) (by decide)).trans emk9) ((hg348 b1 12 0 12 (qS86 _ _ (qb82 _ _ hk64)) (by decide)).trans ext9) ((hg348 b36 13 0 3 (qS86 _ _ (qb82 _ _ hs_y62)) (by decide)).trans emt9) ((hg348 b33 5 0 3 (qS86 _ _ (qb82 _ _ hk71)) (by decide)).trans exc9) ((hg348 b36 13 0 69 (qS86 _ _ (qb82 _ _ hs_y62)) (by decide)).trans emc9) ((hg348 b35 0 0 2 (qS86 _ _ (qb82 _ _ hk73)) (by decide)).trans exb9) ((hg348 b36 13 0 16 (qS86 _ _ (qb82 _ _ hs_y62)) (by decide)).trans emb9) ((hg348 b1 12 0 16 (qS86 _ _ (qb82 _ _ hk64)) (by decide)).trans exsh9) ((hg348 b36 13 0 89 (qS86 _ _ (qb82 _ _ hs_y62)) (by decide)).trans emsh9) ((hg348 b1 12 0 17 (qS86 _ _ (qb82 _ _ hk64)) (by decide)).trans exsp9) ((hg348 b36 13 0 90 (qS86 _ _ (qb82 _ _ hs_y62)) (by decide)).trans emsp9) ((hg348 b36 13 0 17 (qS86 _ _ (qb82 _ _ hs_y62)) (by decide)).trans emsm9) (xWn.m wn9 (qS86 _ _ (qb82 _ _ hk69)) (qS86 _ _ (qb82 _ _ hk76)) hg348 xLe.rf (by decide)) (by rw [(xv_m hg348 (qS86 _ _ (qb82 _ _ hk67)) (by decide) (by decide)), (xv_m hg348 (qS86 _ _ (qb82 _ _ hk74)) (by decide) (by decide))]; exact wt9) (by rw [(xv_m hg348 (qS86 _ _ (qb82 _ _ hk68)) (by decide) (by decide)), (xv_m hg348 (qS86 _ _ (qb82 _ _ hk75)) (by decide) (by decide))]; exact ld9) (by rw [(xv_m hg348 (qS86 _ _ (qb82 _ _ hk66)) (by decide) (by decide)), (xv_m hg348 (qS86 _ _ (qb82 _ _ hs_b81)) (by decide) (by decide))]; exact sk9) (by rw [(xv_m hg348 (qS86 _ _ (qb82 _ _ hs_b79)) (by decide) (by decide)), (xv_m hg348 (qS86 _ _ (qb82 _ _ hs_b80)) (by decide) (by decide))]; exact xTc.mono tc9 (by omega)) dc9 ds9 (by omega) (by omega) (by omega)
        · refine X_tableIn hK 901 17 (by decide) c91 (by decide) (by decide) dL_law_40 rfl (by decide) ?_
          refine X_aloadn hK (i := 1) 3 dL_law_901 rfl rfl ?_
          refine X_callVU hK [] [] lk_L_99 (c_X11_close _ _ _ _ _ S86 g87 b1 t9 (qS86 _ _ (qb82 _ _ hk64)) (by omega) ext9 al9 si9) (qS86 _ _ (qb82 _ _ hk64)) ⟨by decide, rfl⟩ dL_law_902 rfl rfl (by simp [Value.category]) (by decide) (by omega) (by omega) (by decide) (fun r351 S353 g352 dcr351 dsr351 pr351 qr351 hg352 => ?_)
          obtain ⟨wr351, z354, rfl, lz354, uz354, k355, k356, k357, k358⟩ := pr351
          refine X_st [.int (iI z354)] rfl ?_
          refine X_pop hK dL_law_905 rfl ?_
          refine X_aloadn hK (i := 2) 2 dL_law_906 rfl rfl ?_
          refine X_callV hK [] [] lk_L_102 (c_X12_close _ _ _ _ _ S353 g352 b36 t9 (qr351 _ _ (qS86 _ _ (qb82 _ _ hs_y62))) (by omega) ((hg352 b36 13 0 3 (qS86 _ _ (qb82 _ _ hs_y62)) (by decide)).trans emt9) (xTw_m tw9 hg352 qr351 (by decide))) (qr351 _ _ (qS86 _ _ (qb82 _ _ hs_y62))) ⟨by decide, rfl⟩ dL_law_907 rfl rfl (by simp [Value.category]) (by decide) (by omega) (by omega) (by decide) (fun r359 S361 g360 pr359 qr359 hg360 => ?_)
          obtain ⟨rfl, z362, rfl, lz362, uz362, k363⟩ := pr359
          refine X_st [.int (iI z362)] rfl ?_
          refine X_pop hK dL_law_910 rfl ?_
          refine X_goto hK 1465 dL_law_911 (by decide) ?_
          refine X_iinc hK (i := 4) (z := i9) (n := 6) 0 [(4, .int (iI (i9 + 6))), (3, .ref b82), (2, .ref b36), (1, .ref b1), (0, .ref b)] dL_law_1465 rfl (by decide) rfl ?_
          refine X_goto hK 23 dL_law_1468 (by decide) ?_
          exact ih9 S353 (xLe.tr qS86 qr351) g360 (i9 + 6) k9 (if t9 < 400 then t9 + 1 else t9) c9 b9 sh9 sp9 sm9 (by omega) (by omega) (by first | omega | (split <;> omega)) (by omega) (by omega) (by omega) (by omega) (by omega) (xLs_mod k355 hg360 (by decide)) k356 (xPi_m (xPi_m pi9 hg352 qr351 (by decide)) hg360 xLe.rf (by decide)) (xMp_m (xMp_m mp9 hg352 qr351 (by decide)) hg360 xLe.rf (by decide)) (xTw_m (xTw_m tw9 hg352 qr351 (by decide)) hg360 xLe.rf (by decide)) ((hg360 b1 12 0 0 (qr351 _ _ (qS86 _ _ (qb82 _ _ hk64))) (by decide)).trans ((hg352 b1 12 0 0 (qS86 _ _ (qb82 _ _ hk64)) (by decide)).trans el09)) ((hg360 b1 12 0 3 (qr351 _ _ (qS86 _ _ (qb82 _ _ hk64))) (by decide)).trans ((hg352 b1 12 0 3 (qS86 _ _ (qb82 _ _ hk64)) (by decide)).trans el19)) ((hg360 b1 12 0 1 (qr351 _ _ (qS86 _ _ (qb82 _ _ hk64))) (by decide)).trans ((hg352 b1 12 0 1 (qS86 _ _ (qb82 _ _ hk64)) (by decide)).trans el29)) ((hg360 b34 6 0 1 (qr351 _ _ (qS86 _ _ (qb82 _ _ hk72))) (by decide)).trans ((hg352 b34 6 0 1 (qS86 _ _ (qb82 _ _ hk72)) (by decide)).trans el39)) ((hg360 b1 12 0 2 (qr351 _ _ (qS86 _ _ (qb82 _ _ hk64))) (by decide)).trans ((hg352 b1 12 0 2 (qS86 _ _ (qb82 _ _ hk64)) (by decide)).trans el49)) ((hg360 b18 4 0 0 (qr351 _ _ (qS86 _ _ (qb82 _ _ hk65))) (by decide)).trans ((hg352 b18 4 0 0 (qS86 _ _ (qb82 _ _ hk65)) (by decide)).trans el59)) ((hg360 b18 4 0 2 (qr351 _ _ (qS86 _ _ (qb82 _ _ hk65))) (by decide)).trans ((hg352 b18 4 0 2 (qS86 _ _ (qb82 _ _ hk65)) (by decide)).trans el69)) ((hg360 b18 4 0 3 (qr351 _ _ (qS86 _ _ (qb82 _ _ hk65))) (by decide)).trans ((hg352 b18 4 0 3 (qS86 _ _ (qb82 _ _ hk65)) (by decide)).trans el79)) ((hg360 b18 4 0 4 (qr351 _ _ (qS86 _ _ (qb82 _ _ hk65))) (by decide)).trans ((hg352 b18 4 0 4 (qS86 _ _ (qb82 _ _ hk65)) (by decide)).trans el89)) ((hg360 b32 10 0 0 (qr351 _ _ (qS86 _ _ (qb82 _ _ hk70))) (by decide)).trans ((hg352 b32 10 0 0 (qS86 _ _ (qb82 _ _ hk70)) (by decide)).trans el99)) ((hg360 b36 13 0 1 (qr351 _ _ (qS86 _ _ (qb82 _ _ hs_y62))) (by decide)).trans ((hg352 b36 13 0 1 (qS86 _ _ (qb82 _ _ hs_y62)) (by decide)).trans el109)) ((hg360 b36 13 0 10 (qr351 _ _ (qS86 _ _ (qb82 _ _ hs_y62))) (by decide)).trans ((hg352 b36 13 0 10 (qS86 _ _ (qb82 _ _ hs_y62)) (by decide)).trans el119)) ((hg360 b36 13 0 13 (qr351 _ _ (qS86 _ _ (qb82 _ _ hs_y62))) (by decide)).trans ((hg352 b36 13 0 13 (qS86 _ _ (qb82 _ _ hs_y62)) (by decide)).trans el129)) ((hg360 b36 13 0 14 (qr351 _ _ (qS86 _ _ (qb82 _ _ hs_y62))) (by decide)).trans ((hg352 b36 13 0 14 (qS86 _ _ (qb82 _ _ hs_y62)) (by decide)).trans el139)) ((hg360 b36 13 0 12 (qr351 _ _ (qS86 _ _ (qb82 _ _ hs_y62))) (by decide)).trans ((hg352 b36 13 0 12 (qS86 _ _ (qb82 _ _ hs_y62)) (by decide)).trans el149)) ((hg360 b32 10 0 1 (qr351 _ _ (qS86 _ _ (qb82 _ _ hk70))) (by decide)).trans ((hg352 b32 10 0 1 (qS86 _ _ (qb82 _ _ hk70)) (by decide)).trans exk9)) ((hg360 b36 13 0 2 (qr351 _ _ (qS86 _ _ (qb82 _ _ hs_y62))) (by decide)).trans ((hg352 b36 13 0 2 (qS86 _ _ (qb82 _ _ hs_y62)) (by decide)).trans emk9)) ((hg360 b1 12 0 12 (qr351 _ _ (qS86 _ _ (qb82 _ _ hk64))) (by decide)).trans k358) k363 ((hg360 b33 5 0 3 (qr351 _ _ (qS86 _ _ (qb82 _ _ hk71))) (by decide)).trans ((hg352 b33 5 0 3 (qS86 _ _ (qb82 _ _ hk71)) (by decide)).trans exc9)) ((hg360 b36 13 0 69 (qr351 _ _ (qS86 _ _ (qb82 _ _ hs_y62))) (by decide)).trans ((hg352 b36 13 0 69 (qS86 _ _ (qb82 _ _ hs_y62)) (by decide)).trans emc9)) ((hg360 b35 0 0 2 (qr351 _ _ (qS86 _ _ (qb82 _ _ hk73))) (by decide)).trans ((hg352 b35 0 0 2 (qS86 _ _ (qb82 _ _ hk73)) (by decide)).trans exb9)) ((hg360 b36 13 0 16 (qr351 _ _ (qS86 _ _ (qb82 _ _ hs_y62))) (by decide)).trans ((hg352 b36 13 0 16 (qS86 _ _ (qb82 _ _ hs_y62)) (by decide)).trans emb9)) ((hg360 b1 12 0 16 (qr351 _ _ (qS86 _ _ (qb82 _ _ hk64))) (by decide)).trans ((hg352 b1 12 0 16 (qS86 _ _ (qb82 _ _ hk64)) (by decide)).trans exsh9)) ((hg360 b36 13 0 89 (qr351 _ _ (qS86 _ _ (qb82 _ _ hs_y62))) (by decide)).trans ((hg352 b36 13 0 89 (qS86 _ _ (qb82 _ _ hs_y62)) (by decide)).trans emsh9)) ((hg360 b1 12 0 17 (qr351 _ _ (qS86 _ _ (qb82 _ _ hk64))) (by decide)).trans ((hg352 b1 12 0 17 (qS86 _ _ (qb82 _ _ hk64)) (by decide)).trans exsp9)) ((hg360 b36 13 0 90 (qr351 _ _ (qS86 _ _ (qb82 _ _ hs_y62))) (by decide)).trans ((hg352 b36 13 0 90 (qS86 _ _ (qb82 _ _ hs_y62)) (by decide)).trans emsp9)) ((hg360 b36 13 0 17 (qr351 _ _ (qS86 _ _ (qb82 _ _ hs_y62))) (by decide)).trans ((hg352 b36 13 0 17 (qS86 _ _ (qb82 _ _ hs_y62)) (by decide)).trans emsm9)) (xWn.m (xWn.m wn9 (qS86 _ _ (qb82 _ _ hk69)) (qS86 _ _ (qb82 _ _ hk76)) hg352 qr351 (by decide)) (qr351 _ _ (qS86 _ _ (qb82 _ _ hk69))) (qr351 _ _ (qS86 _ _ (qb82 _ _ hk76))) hg360 xLe.rf (by decide)) (by rw [(Eq.trans (xv_m hg360 (qr351 _ _ (qS86 _ _ (qb82 _ _ hk67))) (by decide) (by decide)) (xv_m hg352 (qS86 _ _ (qb82 _ _ hk67)) (by decide) (by decide))), (Eq.trans (xv_m hg360 (qr351 _ _ (qS86 _ _ (qb82 _ _ hk74))) (by decide) (by decide)) (xv_m hg352 (qS86 _ _ (qb82 _ _ hk74)) (by decide) (by decide)))]; exact wt9) (by rw [(Eq.trans (xv_m hg360 (qr351 _ _ (qS86 _ _ (qb82 _ _ hk68))) (by decide) (by decide)) (xv_m hg352 (qS86 _ _ (qb82 _ _ hk68)) (by decide) (by decide))), (Eq.trans (xv_m hg360 (qr351 _ _ (qS86 _ _ (qb82 _ _ hk75))) (by decide) (by decide)) (xv_m hg352 (qS86 _ _ (qb82 _ _ hk75)) (by decide) (by decide)))]; exact ld9) (by rw [(Eq.trans (xv_m hg360 (qr351 _ _ (qS86 _ _ (qb82 _ _ hk66))) (by decide) (by decide)) (xv_m hg352 (qS86 _ _ (qb82 _ _ hk66)) (by decide) (by decide))), (Eq.trans (xv_m hg360 (qr351 _ _ (qS86 _ _ (qb82 _ _ hs_b81))) (by decide) (by decide)) (xv_m hg352 (qS86 _ _ (qb82 _ _ hs_b81)) (by decide) (by decide)))]; exact sk9) (by rw [(Eq.trans (xv_m hg360 (qr351 _ _ (qS86 _ _ (qb82 _ _ hs_b79))) (by decide) (by decide)) (xv_m hg352 (qS86 _ _ (qb82 _ _ hs_b79)) (by decide) (by decide))), (Eq.trans (xv_m hg360 (qr351 _ _ (qS86 _ _ (qb82 _ _ hs_b80))) (by decide) (by decide)) (xv_m hg352 (qS86 _ _ (qb82 _ _ hs_b80)) (by decide) (by decide)))]; exact xTc.mono tc9 (by omega)) (dc9 + dcr351) (ds9 + dsr351) (by omega) (by omega) (by omega)
        · refine X_tableIn hK 914 18 (by decide) c91 (by decide) (by decide) dL_law_40 rfl (by decide) ?_
          refine X_aloadn hK (i := 1) 3 dL_law_914 rfl rfl ?_
          refine X_aloadn hK (i := 0) 4 dL_law_915 rfl rfl ?_
          refine X_iload hK (i := 4) 0 dL_law_916 rfl ?_
          refine X_iconst hK dL_law_918 ?_
          refine X_iadd hK dL_law_919 ?_
          refine X_scr hK hX hbl hbA hL (by omega) (by omega) dL_law_920 (fun z364 ez364 lz364 uz364 => ?_)
          refine X_aloadn hK (i := 0) 4 dL_law_921 rfl rfl ?_
          refine X_iload hK (i := 4) 0 dL_law_922 rfl ?_
          refine X_iconst hK dL_law_924 ?_
          refine X_iadd hK dL_law_925 ?_
          refine X_scr hK hX hbl hbA hL (by omega) (by omega) dL_law_926 (fun z365 ez365 lz365 uz365 => ?_)
          refine X_aloadn hK (i := 3) 1 dL_law_927 rfl rfl ?_
          refine X_callSW hK hts hT hp3 (n := 4) [.ref b1, .int (iI z364), .int (iI z365), .ref b82] [] gl_L_of (by decide +kernel) (cw_L_of _ hst _ _ _ _ S86 g87 b1 b82 z364 z365 (qS86 _ _ (qb82 _ _ hk64)) (qS86 _ _ hs_b82) (by omega) (by omega) al9) dL_law_928 rfl rfl (by simp [Value.category]) (by decide) (by omega) (by omega) (by decide) (fun r367 S368 g369 pr367 qr367 hg369 => ?_)
          obtain ⟨rfl, z366, rfl⟩ := pr367
          refine X_st [.int (iI z366)] rfl ?_
          refine X_istore hK (i := 5) [(5, .int (iI z366)), (4, .int (iI i9)), (3, .ref b82), (2, .ref b36), (1, .ref b1), (0, .ref b)] dL_law_931 (by decide) rfl ?_
          refine X_aloadn hK (i := 2) 3 dL_law_933 rfl rfl ?_
          refine X_aloadn hK (i := 0) 5 dL_law_934 rfl rfl ?_
          refine X_iload hK (i := 4) 1 dL_law_935 rfl ?_
          refine X_iconst hK dL_law_937 ?_
          refine X_iadd hK dL_law_938 ?_
          refine X_scrK hK hX hbl hbA hL (by omega) (by omega) ez364 dL_law_939 ?_
          refine X_aloadn hK (i := 0) 5 dL_law_940 rfl rfl ?_
          refine X_iload hK (i := 4) 1 dL_law_941 rfl ?_
          refine X_iconst hK dL_law_943 ?_
          refine X_iadd hK dL_law_944 ?_
          refine X_scrK hK hX hbl hbA hL (by omega) (by omega) ez365 dL_law_945 ?_
          refine X_callV hK [.int (iI z364), .int (iI z365)] [] lk_L_108 (c_X12_of _ _ _ _ _ S86 g369 b36 z364 z365 (qS86 _ _ (qb82 _ _ hs_y62)) (by omega) (by omega)) (qS86 _ _ (qb82 _ _ hs_y62)) ⟨by decide, rfl⟩ dL_law_946 rfl rfl (by simp [Value.category]) (by decide) (by omega) (by omega) (by decide) (fun r370 S372 g371 pr370 qr370 hg371 => ?_)
          obtain ⟨rfl, z373, rfl, lz373, uz373⟩ := pr370
          refine X_st [.int (iI z373)] rfl ?_
          refine X_istore hK (i := 6) [(6, .int (iI z373)), (5, .int (iI z366)), (4, .int (iI i9)), (3, .ref b82), (2, .ref b36), (1, .ref b1), (0, .ref b)] dL_law_949 (by decide) rfl ?_
          refine X_goto hK 1465 dL_law_951 (by decide) ?_
          refine X_iinc hK (i := 4) (z := i9) (n := 6) 2 [(4, .int (iI (i9 + 6))), (6, .int (iI z373)), (5, .int (iI z366)), (3, .ref b82), (2, .ref b36), (1, .ref b1), (0, .ref b)] dL_law_1465 rfl (by decide) rfl ?_
          refine X_goto hK 23 dL_law_1468 (by decide) ?_
          refine X_lv [(4, .int (iI (i9 + 6))), (3, .ref b82), (2, .ref b36), (1, .ref b1), (0, .ref b)] [0, 3, 4, 5, 6] rfl ?_
          exact ih9 S86 qS86 g371 (i9 + 6) k9 t9 c9 b9 sh9 sp9 sm9 (by omega) (by omega) (by omega) (by omega) (by omega) (by omega) (by omega) (by omega) (xLs_mod (xLs_mod al9 hg369 (by decide)) hg371 (by decide)) si9 (xPi_m (xPi_m pi9 hg369 xLe.rf (by decide)) hg371 xLe.rf (by decide)) (xMp_m (xMp_m mp9 hg369 xLe.rf (by decide)) hg371 xLe.rf (by decide)) (xTw_m (xTw_m tw9 hg369 xLe.rf (by decide)) hg371 xLe.rf (by decide)) ((hg371 b1 12 0 0 (qS86 _ _ (qb82 _ _ hk64)) (by decide)).trans ((hg369 b1 12 0 0 (qS86 _ _ (qb82 _ _ hk64)) (by decide)).trans el09)) ((hg371 b1 12 0 3 (qS86 _ _ (qb82 _ _ hk64)) (by decide)).trans ((hg369 b1 12 0 3 (qS86 _ _ (qb82 _ _ hk64)) (by decide)).trans el19)) ((hg371 b1 12 0 1 (qS86 _ _ (qb82 _ _ hk64)) (by decide)).trans ((hg369 b1 12 0 1 (qS86 _ _ (qb82 _ _ hk64)) (by decide)).trans el29)) ((hg371 b34 6 0 1 (qS86 _ _ (qb82 _ _ hk72)) (by decide)).trans ((hg369 b34 6 0 1 (qS86 _ _ (qb82 _ _ hk72)) (by decide)).trans el39)) ((hg371 b1 12 0 2 (qS86 _ _ (qb82 _ _ hk64)) (by decide)).trans ((hg369 b1 12 0 2 (qS86 _ _ (qb82 _ _ hk64)) (by decide)).trans el49)) ((hg371 b18 4 0 0 (qS86 _ _ (qb82 _ _ hk65)) (by decide)).trans ((hg369 b18 4 0 0 (qS86 _ _ (qb82 _ _ hk65)) (by decide)).trans el59)) ((hg371 b18 4 0 2 (qS86 _ _ (qb82 _ _ hk65)) (by decide)).trans ((hg369 b18 4 0 2 (qS86 _ _ (qb82 _ _ hk65)) (by decide)).trans el69)) ((hg371 b18 4 0 3 (qS86 _ _ (qb82 _ _ hk65)) (by decide)).trans ((hg369 b18 4 0 3 (qS86 _ _ (qb82 _ _ hk65)) (by decide)).trans el79)) ((hg371 b18 4 0 4 (qS86 _ _ (qb82 _ _ hk65)) (by decide)).trans ((hg369 b18 4 0 4 (qS86 _ _ (qb82 _ _ hk65)) (by decide)).trans el89)) ((hg371 b32 10 0 0 (qS86 _ _ (qb82 _ _ hk70)) (by decide)).trans ((hg369 b32 10 0 0 (qS86 _ _ (qb82 _ _ hk70)) (by decide)).trans el99)) ((hg371 b36 13 0 1 (qS86 _ _ (qb82 _ _ hs_y62)) (by decide)).trans ((hg369 b36 13 0 1 (qS86 _ _ (qb82 _ _ hs_y62)) (by decide)).trans el109)) ((hg371 b36 13 0 10 (qS86 _ _ (qb82 _ _ hs_y62)) (by decide)).trans ((hg369 b36 13 0 10 (qS86 _ _ (qb82 _ _ hs_y62)) (by decide)).trans el119)) ((hg371 b36 13 0 13 (qS86 _ _ (qb82 _ _ hs_y62)) (by decide)).trans ((hg369 b36 13 0 13 (qS86 _ _ (qb82 _ _ hs_y62)) (by decide)).trans el129)) ((hg371 b36 13 0 14 (qS86 _ _ (qb82 _ _ hs_y62)) (by decide)).trans ((hg369 b36 13 0 14 (qS86 _ _ (qb82 _ _ hs_y62)) (by decide)).trans el139)) ((hg371 b36 13 0 12 (qS86 _ _ (qb82 _ _ hs_y62)) (by decide)).trans ((hg369 b36 13 0 12 (qS86 _ _ (qb82 _ _ hs_y62)) (by decide)).trans el149)) ((hg371 b32 10 0 1 (qS86 _ _ (qb82 _ _ hk70)) (by decide)).trans ((hg369 b32 10 0 1 (qS86 _ _ (qb82 _ _ hk70)) (by decide)).trans exk9)) ((hg371 b36 13 0 2 (qS86 _ _ (qb82 _ _ hs_y62)) (by decide)).trans ((hg369 b36 13 0 2 (qS86 _ _ (qb82 _ _ hs_y62)) (by decide)).trans emk9)) ((hg371 b1 12 0 12 (qS86 _ _ (qb82 _ _ hk64)) (by decide)).trans ((hg369 b1 12 0 12 (qS86 _ _ (qb82 _ _ hk64)) (by decide)).trans ext9)) ((hg371 b36 13 0 3 (qS86 _ _ (qb82 _ _ hs_y62)) (by decide)).trans ((hg369 b36 13 0 3 (qS86 _ _ (qb82 _ _ hs_y62)) (by decide)).trans emt9)) ((hg371 b33 5 0 3 (qS86 _ _ (qb82 _ _ hk71)) (by decide)).trans ((hg369 b33 5 0 3 (qS86 _ _ (qb82 _ _ hk71)) (by decide)).trans exc9)) ((hg371 b36 13 0 69 (qS86 _ _ (qb82 _ _ hs_y62)) (by decide)).trans ((hg369 b36 13 0 69 (qS86 _ _ (qb82 _ _ hs_y62)) (by decide)).trans emc9)) ((hg371 b35 0 0 2 (qS86 _ _ (qb82 _ _ hk73)) (by decide)).trans ((hg369 b35 0 0 2 (qS86 _ _ (qb82 _ _ hk73)) (by decide)).trans exb9)) ((hg371 b36 13 0 16 (qS86 _ _ (qb82 _ _ hs_y62)) (by decide)).trans ((hg369 b36 13 0 16 (qS86 _ _ (qb82 _ _ hs_y62)) (by decide)).trans emb9)) ((hg371 b1 12 0 16 (qS86 _ _ (qb82 _ _ hk64)) (by decide)).trans ((hg369 b1 12 0 16 (qS86 _ _ (qb82 _ _ hk64)) (by decide)).trans exsh9)) ((hg371 b36 13 0 89 (qS86 _ _ (qb82 _ _ hs_y62)) (by decide)).trans ((hg369 b36 13 0 89 (qS86 _ _ (qb82 _ _ hs_y62)) (by decide)).trans emsh9)) ((hg371 b1 12 0 17 (qS86 _ _ (qb82 _ _ hk64)) (by decide)).trans ((hg369 b1 12 0 17 (qS86 _ _ (qb82 _ _ hk64)) (by decide)).trans exsp9)) ((hg371 b36 13 0 90 (qS86 _ _ (qb82 _ _ hs_y62)) (by decide)).trans ((hg369 b36 13 0 90 (qS86 _ _ (qb82 _ _ hs_y62)) (by decide)).trans emsp9)) ((hg371 b36 13 0 17 (qS86 _ _ (qb82 _ _ hs_y62)) (by decide)).trans ((hg369 b36 13 0 17 (qS86 _ _ (qb82 _ _ hs_y62)) (by decide)).trans emsm9)) (xWn.m (xWn.m wn9 (qS86 _ _ (qb82 _ _ hk69)) (qS86 _ _ (qb82 _ _ hk76)) hg369 xLe.rf (by decide)) (qS86 _ _ (qb82 _ _ hk69)) (qS86 _ _ (qb82 _ _ hk76)) hg371 xLe.rf (by decide)) (by rw [(Eq.trans (xv_m hg371 (qS86 _ _ (qb82 _ _ hk67)) (by decide) (by decide)) (xv_m hg369 (qS86 _ _ (qb82 _ _ hk67)) (by decide) (by decide))), (Eq.trans (xv_m hg371 (qS86 _ _ (qb82 _ _ hk74)) (by decide) (by decide)) (xv_m hg369 (qS86 _ _ (qb82 _ _ hk74)) (by decide) (by decide)))]; exact wt9) (by rw [(Eq.trans (xv_m hg371 (qS86 _ _ (qb82 _ _ hk68)) (by decide) (by decide)) (xv_m hg369 (qS86 _ _ (qb82 _ _ hk68)) (by decide) (by decide))), (Eq.trans (xv_m hg371 (qS86 _ _ (qb82 _ _ hk75)) (by decide) (by decide)) (xv_m hg369 (qS86 _ _ (qb82 _ _ hk75)) (by decide) (by decide)))]; exact ld9) (by rw [(Eq.trans (xv_m hg371 (qS86 _ _ (qb82 _ _ hk66)) (by decide) (by decide)) (xv_m hg369 (qS86 _ _ (qb82 _ _ hk66)) (by decide) (by decide))), (Eq.trans (xv_m hg371 (qS86 _ _ (qb82 _ _ hs_b81)) (by decide) (by decide)) (xv_m hg369 (qS86 _ _ (qb82 _ _ hs_b81)) (by decide) (by decide)))]; exact sk9) (by rw [(Eq.trans (xv_m hg371 (qS86 _ _ (qb82 _ _ hs_b79)) (by decide) (by decide)) (xv_m hg369 (qS86 _ _ (qb82 _ _ hs_b79)) (by decide) (by decide))), (Eq.trans (xv_m hg371 (qS86 _ _ (qb82 _ _ hs_b80)) (by decide) (by decide)) (xv_m hg369 (qS86 _ _ (qb82 _ _ hs_b80)) (by decide) (by decide)))]; exact xTc.mono tc9 (by omega)) (dc9 + 1) (ds9 + 6) (by omega) (by omega) (by omega)
        · refine X_tableIn hK 954 19 (by decide) c91 (by decide) (by decide) dL_law_40 rfl (by decide) ?_
          refine X_aloadn hK (i := 1) 3 dL_law_954 rfl rfl ?_
          refine X_aloadn hK (i := 0) 4 dL_law_955 rfl rfl ?_
          refine X_iload hK (i := 4) 0 dL_law_956 rfl ?_
          refine X_iconst hK dL_law_958 ?_
          refine X_iadd hK dL_law_959 ?_
          refine X_scr hK hX hbl hbA hL (by omega) (by omega) dL_law_960 (fun z374 ez374 lz374 uz374 => ?_)
          refine X_aloadn hK (i := 3) 1 dL_law_961 rfl rfl ?_
          refine X_callSW hK hts hT hp3 (n := 3) [.ref b1, .int (iI z374), .ref b82] [] gl_L_coin (by decide +kernel) (cw_L_coin _ hst _ _ _ _ S86 g87 b1 b82 z374 (qS86 _ _ (qb82 _ _ hk64)) (qS86 _ _ hs_b82) (by omega) al9) dL_law_962 rfl rfl (by simp [Value.category]) (by decide) (by omega) (by omega) (by decide) (fun r376 S377 g378 pr376 qr376 hg378 => ?_)
          obtain ⟨rfl, z375, rfl⟩ := pr376
          refine X_st [.int (iI z375)] rfl ?_
          refine X_istore hK (i := 5) [(5, .int (iI z375)), (4, .int (iI i9)), (3, .ref b82), (2, .ref b36), (1, .ref b1), (0, .ref b)] dL_law_965 (by decide) rfl ?_
          refine X_aloadn hK (i := 2) 3 dL_law_967 rfl rfl ?_
          refine X_aloadn hK (i := 0) 5 dL_law_968 rfl rfl ?_
          refine X_iload hK (i := 4) 1 dL_law_969 rfl ?_
          refine X_iconst hK dL_law_971 ?_
          refine X_iadd hK dL_law_972 ?_
          refine X_scrK hK hX hbl hbA hL (by omega) (by omega) ez374 dL_law_973 ?_
          refine X_callV hK [.int (iI z374)] [] lk_L_112 (c_X12_coin _ _ _ _ _ S86 g378 b36 z374 (qS86 _ _ (qb82 _ _ hs_y62)) (by omega)) (qS86 _ _ (qb82 _ _ hs_y62)) ⟨by decide, rfl⟩ dL_law_974 rfl rfl (by simp [Value.category]) (by decide) (by omega) (by omega) (by decide) (fun r379 S381 g380 pr379 qr379 hg380 => ?_)
          obtain ⟨rfl, z382, rfl, lz382, uz382⟩ := pr379
          refine X_st [.int (iI z382)] rfl ?_
          refine X_istore hK (i := 6) [(6, .int (iI z382)), (5, .int (iI z375)), (4, .int (iI i9)), (3, .ref b82), (2, .ref b36), (1, .ref b1), (0, .ref b)] dL_law_977 (by decide) rfl ?_
          refine X_goto hK 1465 dL_law_979 (by decide) ?_
          refine X_iinc hK (i := 4) (z := i9) (n := 6) 2 [(4, .int (iI (i9 + 6))), (6, .int (iI z382)), (5, .int (iI z375)), (3, .ref b82), (2, .ref b36), (1, .ref b1), (0, .ref b)] dL_law_1465 rfl (by decide) rfl ?_
          refine X_goto hK 23 dL_law_1468 (by decide) ?_
          refine X_lv [(4, .int (iI (i9 + 6))), (3, .ref b82), (2, .ref b36), (1, .ref b1), (0, .ref b)] [0, 3, 4, 5, 6] rfl ?_
          exact ih9 S86 qS86 g380 (i9 + 6) k9 t9 c9 b9 sh9 sp9 sm9 (by omega) (by omega) (by omega) (by omega) (by omega) (by omega) (by omega) (by omega) (xLs_mod (xLs_mod al9 hg378 (by decide)) hg380 (by decide)) si9 (xPi_m (xPi_m pi9 hg378 xLe.rf (by decide)) hg380 xLe.rf (by decide)) (xMp_m (xMp_m mp9 hg378 xLe.rf (by decide)) hg380 xLe.rf (by decide)) (xTw_m (xTw_m tw9 hg378 xLe.rf (by decide)) hg380 xLe.rf (by decide)) ((hg380 b1 12 0 0 (qS86 _ _ (qb82 _ _ hk64)) (by decide)).trans ((hg378 b1 12 0 0 (qS86 _ _ (qb82 _ _ hk64)) (by decide)).trans el09)) ((hg380 b1 12 0 3 (qS86 _ _ (qb82 _ _ hk64)) (by decide)).trans ((hg378 b1 12 0 3 (qS86 _ _ (qb82 _ _ hk64)) (by decide)).trans el19)) ((hg380 b1 12 0 1 (qS86 _ _ (qb82 _ _ hk64)) (by decide)).trans ((hg378 b1 12 0 1 (qS86 _ _ (qb82 _ _ hk64)) (by decide)).trans el29)) ((hg380 b34 6 0 1 (qS86 _ _ (qb82 _ _ hk72)) (by decide)).trans ((hg378 b34 6 0 1 (qS86 _ _ (qb82 _ _ hk72)) (by decide)).trans el39)) ((hg380 b1 12 0 2 (qS86 _ _ (qb82 _ _ hk64)) (by decide)).trans ((hg378 b1 12 0 2 (qS86 _ _ (qb82 _ _ hk64)) (by decide)).trans el49)) ((hg380 b18 4 0 0 (qS86 _ _ (qb82 _ _ hk65)) (by decide)).trans ((hg378 b18 4 0 0 (qS86 _ _ (qb82 _ _ hk65)) (by decide)).trans el59)) ((hg380 b18 4 0 2 (qS86 _ _ (qb82 _ _ hk65)) (by decide)).trans ((hg378 b18 4 0 2 (qS86 _ _ (qb82 _ _ hk65)) (by decide)).trans el69)) ((hg380 b18 4 0 3 (qS86 _ _ (qb82 _ _ hk65)) (by decide)).trans ((hg378 b18 4 0 3 (qS86 _ _ (qb82 _ _ hk65)) (by decide)).trans el79)) ((hg380 b18 4 0 4 (qS86 _ _ (qb82 _ _ hk65)) (by decide)).trans ((hg378 b18 4 0 4 (qS86 _ _ (qb82 _ _ hk65)) (by decide)).trans el89)) ((hg380 b32 10 0 0 (qS86 _ _ (qb82 _ _ hk70)) (by decide)).trans ((hg378 b32 10 0 0 (qS86 _ _ (qb82 _ _ hk70)) (by decide)).trans el99)) ((hg380 b36 13 0 1 (qS86 _ _ (qb82 _ _ hs_y62)) (by decide)).trans ((hg378 b36 13 0 1 (qS86 _ _ (qb82 _ _ hs_y62)) (by decide)).trans el109)) ((hg380 b36 13 0 10 (qS86 _ _ (qb82 _ _ hs_y62)) (by decide)).trans ((hg378 b36 13 0 10 (qS86 _ _ (qb82 _ _ hs_y62)) (by decide)).trans el119)) ((hg380 b36 13 0 13 (qS86 _ _ (qb82 _ _ hs_y62)) (by decide)).trans ((hg378 b36 13 0 13 (qS86 _ _ (qb82 _ _ hs_y62)) (by decide)).trans el129)) ((hg380 b36 13 0 14 (qS86 _ _ (qb82 _ _ hs_y62)) (by decide)).trans ((hg378 b36 13 0 14 (qS86 _ _ (qb82 _ _ hs_y62)) (by decide)).trans el139)) ((hg380 b36 13 0 12 (qS86 _ _ (qb82 _ _ hs_y62)) (by decide)).trans ((hg378 b36 13 0 12 (qS86 _ _ (qb82 _ _ hs_y62)) (by decide)).trans el149)) ((hg380 b32 10 0 1 (qS86 _ _ (qb82 _ _ hk70)) (by decide)).trans ((hg378 b32 10 0 1 (qS86 _ _ (qb82 _ _ hk70)) (by decide)).trans exk9)) ((hg380 b36 13 0 2 (qS86 _ _ (qb82 _ _ hs_y62)) (by decide)).trans ((hg378 b36 13 0 2 (qS86 _ _ (qb82 _ _ hs_y62)) (by decide)).trans emk9)) ((hg380 b1 12 0 12 (qS86 _ _ (qb82 _ _ hk64)) (by decide)).trans ((hg378 b1 12 0 12 (qS86 _ _ (qb82 _ _ hk64)) (by decide)).trans ext9)) ((hg380 b36 13 0 3 (qS86 _ _ (qb82 _ _ hs_y62)) (by decide)).trans ((hg378 b36 13 0 3 (qS86 _ _ (qb82 _ _ hs_y62)) (by decide)).trans emt9)) ((hg380 b33 5 0 3 (qS86 _ _ (qb82 _ _ hk71)) (by decide)).trans ((hg378 b33 5 0 3 (qS86 _ _ (qb82 _ _ hk71)) (by decide)).trans exc9)) ((hg380 b36 13 0 69 (qS86 _ _ (qb82 _ _ hs_y62)) (by decide)).trans ((hg378 b36 13 0 69 (qS86 _ _ (qb82 _ _ hs_y62)) (by decide)).trans emc9)) ((hg380 b35 0 0 2 (qS86 _ _ (qb82 _ _ hk73)) (by decide)).trans ((hg378 b35 0 0 2 (qS86 _ _ (qb82 _ _ hk73)) (by decide)).trans exb9)) ((hg380 b36 13 0 16 (qS86 _ _ (qb82 _ _ hs_y62)) (by decide)).trans ((hg378 b36 13 0 16 (qS86 _ _ (qb82 _ _ hs_y62)) (by decide)).trans emb9)) ((hg380 b1 12 0 16 (qS86 _ _ (qb82 _ _ hk64)) (by decide)).trans ((hg378 b1 12 0 16 (qS86 _ _ (qb82 _ _ hk64)) (by decide)).trans exsh9)) ((hg380 b36 13 0 89 (qS86 _ _ (qb82 _ _ hs_y62)) (by decide)).trans ((hg378 b36 13 0 89 (qS86 _ _ (qb82 _ _ hs_y62)) (by decide)).trans emsh9)) ((hg380 b1 12 0 17 (qS86 _ _ (qb82 _ _ hk64)) (by decide)).trans ((hg378 b1 12 0 17 (qS86 _ _ (qb82 _ _ hk64)) (by decide)).trans exsp9)) ((hg380 b36 13 0 90 (qS86 _ _ (qb82 _ _ hs_y62)) (by decide)).trans ((hg378 b36 13 0 90 (qS86 _ _ (qb82 _ _ hs_y62)) (by decide)).trans emsp9)) ((hg380 b36 13 0 17 (qS86 _ _ (qb82 _ _ hs_y62)) (by decide)).trans ((hg378 b36 13 0 17 (qS86 _ _ (qb82 _ _ hs_y62)) (by decide)).trans emsm9)) (xWn.m (xWn.m wn9 (qS86 _ _ (qb82 _ _ hk69)) (qS86 _ _ (qb82 _ _ hk76)) hg378 xLe.rf (by decide)) (qS86 _ _ (qb82 _ _ hk69)) (qS86 _ _ (qb82 _ _ hk76)) hg380 xLe.rf (by decide)) (by rw [(Eq.trans (xv_m hg380 (qS86 _ _ (qb82 _ _ hk67)) (by decide) (by decide)) (xv_m hg378 (qS86 _ _ (qb82 _ _ hk67)) (by decide) (by decide))), (Eq.trans (xv_m hg380 (qS86 _ _ (qb82 _ _ hk74)) (by decide) (by decide)) (xv_m hg378 (qS86 _ _ (qb82 _ _ hk74)) (by decide) (by decide)))]; exact wt9) (by rw [(Eq.trans (xv_m hg380 (qS86 _ _ (qb82 _ _ hk68)) (by decide) (by decide)) (xv_m hg378 (qS86 _ _ (qb82 _ _ hk68)) (by decide) (by decide))), (Eq.trans (xv_m hg380 (qS86 _ _ (qb82 _ _ hk75)) (by decide) (by decide)) (xv_m hg378 (qS86 _ _ (qb82 _ _ hk75)) (by decide) (by decide)))]; exact ld9) (by rw [(Eq.trans (xv_m hg380 (qS86 _ _ (qb82 _ _ hk66)) (by decide) (by decide)) (xv_m hg378 (qS86 _ _ (qb82 _ _ hk66)) (by decide) (by decide))), (Eq.trans (xv_m hg380 (qS86 _ _ (qb82 _ _ hs_b81)) (by decide) (by decide)) (xv_m hg378 (qS86 _ _ (qb82 _ _ hs_b81)) (by decide) (by decide)))]; exact sk9) (by rw [(Eq.trans (xv_m hg380 (qS86 _ _ (qb82 _ _ hs_b79)) (by decide) (by decide)) (xv_m hg378 (qS86 _ _ (qb82 _ _ hs_b79)) (by decide) (by decide))), (Eq.trans (xv_m hg380 (qS86 _ _ (qb82 _ _ hs_b80)) (by decide) (by decide)) (xv_m hg378 (qS86 _ _ (qb82 _ _ hs_b80)) (by decide) (by decide)))]; exact xTc.mono tc9 (by omega)) (dc9 + 1) (ds9 + 6) (by omega) (by omega) (by omega)
        · refine X_tableIn hK 982 20 (by decide) c91 (by decide) (by decide) dL_law_40 rfl (by decide) ?_
          refine X_aloadn hK (i := 1) 3 dL_law_982 rfl rfl ?_
          refine X_aloadn hK (i := 0) 4 dL_law_983 rfl rfl ?_
          refine X_iload hK (i := 4) 0 dL_law_984 rfl ?_
          refine X_iconst hK dL_law_986 ?_
          refine X_iadd hK dL_law_987 ?_
          refine X_scr hK hX hbl hbA hL (by omega) (by omega) dL_law_988 (fun z383 ez383 lz383 uz383 => ?_)
          refine X_aloadn hK (i := 0) 4 dL_law_989 rfl rfl ?_
          refine X_iload hK (i := 4) 0 dL_law_990 rfl ?_
          refine X_iconst hK dL_law_992 ?_
          refine X_iadd hK dL_law_993 ?_
          refine X_scr hK hX hbl hbA hL (by omega) (by omega) dL_law_994 (fun z384 ez384 lz384 uz384 => ?_)
          refine X_aloadn hK (i := 0) 4 dL_law_995 rfl rfl ?_
          refine X_iload hK (i := 4) 0 dL_law_996 rfl ?_
          refine X_iconst hK dL_law_998 ?_
          refine X_iadd hK dL_law_999 ?_
          refine X_scr hK hX hbl hbA hL (by omega) (by omega) dL_law_1000 (fun z385 ez385 lz385 uz385 => ?_)
          refine X_aloadn hK (i := 0) 4 dL_law_1001 rfl rfl ?_
          refine X_iload hK (i := 4) 0 dL_law_1002 rfl ?_
          refine X_iconst hK dL_law_1004 ?_
          refine X_iadd hK dL_law_1005 ?_
          refine X_scr hK hX hbl hbA hL (by omega) (by omega) dL_law_1006 (fun z386 ez386 lz386 uz386 => ?_)
          refine X_callV hK [.int (iI z383), .int (iI z384), .int (iI z385), .int (iI z386)] [] lk_L_113 (c_X11_counted _ _ _ _ _ S86 g87 b1 z383 z384 z385 z386 b33 c9 t9 (qS86 _ _ (qb82 _ _ hk64)) (by omega) (by omega) (by omega) (by omega) el19 (qS86 _ _ (qb82 _ _ hk71)) (by omega) exc9 (by omega) ext9) (qS86 _ _ (qb82 _ _ hk64)) ⟨by decide, rfl⟩ dL_law_1007 rfl rfl (by simp [Value.category]) (by decide) (by omega) (by omega) (by decide) (fun r387 S389 g388 pr387 qr387 hg388 => ?_)
          obtain ⟨rfl, z390, rfl, lz390, uz390, k391, k392⟩ := pr387
          refine X_st [.int (iI z390)] rfl ?_
          refine X_pop hK dL_law_1010 rfl ?_
          refine X_aloadn hK (i := 2) 2 dL_law_1011 rfl rfl ?_
          refine X_aloadn hK (i := 0) 4 dL_law_1012 rfl rfl ?_
          refine X_iload hK (i := 4) 0 dL_law_1013 rfl ?_
          refine X_iconst hK dL_law_1015 ?_
          refine X_iadd hK dL_law_1016 ?_
          refine X_scrK hK hX hbl hbA hL (by omega) (by omega) ez383 dL_law_1017 ?_
          refine X_aloadn hK (i := 0) 4 dL_law_1018 rfl rfl ?_
          refine X_iload hK (i := 4) 0 dL_law_1019 rfl ?_
          refine X_iconst hK dL_law_1021 ?_
          refine X_iadd hK dL_law_1022 ?_
          refine X_scrK hK hX hbl hbA hL (by omega) (by omega) ez384 dL_law_1023 ?_
          refine X_aloadn hK (i := 0) 4 dL_law_1024 rfl rfl ?_
          refine X_iload hK (i := 4) 0 dL_law_1025 rfl ?_
          refine X_iconst hK dL_law_1027 ?_
          refine X_iadd hK dL_law_1028 ?_
          refine X_scrK hK hX hbl hbA hL (by omega) (by omega) ez385 dL_law_1029 ?_
          refine X_aloadn hK (i := 0) 4 dL_law_1030 rfl rfl ?_
          refine X_iload hK (i := 4) 0 dL_law_1031 rfl ?_
          refine X_iconst hK dL_law_1033 ?_
          refine X_iadd hK dL_law_1034 ?_
          refine X_scrK hK hX hbl hbA hL (by omega) (by omega) ez386 dL_law_1035 ?_
          refine X_callV hK [.int (iI z383), .int (iI z384), .int (iI z385), .int (iI z386)] [] lk_L_116 (c_X12_counted _ _ _ _ _ S86 g388 b36 z383 z384 z385 z386 c9 t9 (qS86 _ _ (qb82 _ _ hs_y62)) (by omega) (by omega) (by omega) (by omega) (by omega) ((hg388 b36 13 0 69 (qS86 _ _ (qb82 _ _ hs_y62)) (by decide)).trans emc9) (by omega) ((hg388 b36 13 0 3 (qS86 _ _ (qb82 _ _ hs_y62)) (by decide)).trans emt9)) (qS86 _ _ (qb82 _ _ hs_y62)) ⟨by decide, rfl⟩ dL_law_1036 rfl rfl (by simp [Value.category]) (by decide) (by omega) (by omega) (by decide) (fun r393 S395 g394 pr393 qr393 hg394 => ?_)
          obtain ⟨rfl, z396, rfl, lz396, uz396, k397, k398⟩ := pr393
          refine X_st [.int (iI z396)] rfl ?_
          refine X_pop hK dL_law_1039 rfl ?_
          refine X_goto hK 1465 dL_law_1040 (by decide) ?_
          refine X_iinc hK (i := 4) (z := i9) (n := 6) 0 [(4, .int (iI (i9 + 6))), (3, .ref b82), (2, .ref b36), (1, .ref b1), (0, .ref b)] dL_law_1465 rfl (by decide) rfl ?_
          refine X_goto hK 23 dL_law_1468 (by decide) ?_
          exact ih9 S86 qS86 g394 (i9 + 6) k9 t9 (if c9 < 60 ∧ 0 ≤ z383 ∧ z383 ≤ 3 ∧ 0 ≤ z384 ∧ z384 ≤ 9 ∧ 0 ≤ z385 ∧ z385 < t9 ∧ 0 ≤ z386 ∧ z386 ≤ 10000 then c9 + 1 else c9) b9 sh9 sp9 sm9 (by omega) (by omega) (by omega) (by first | omega | (split <;> omega)) (by omega) (by omega) (by omega) (by omega) (xLs_mod (xLs_mod al9 hg388 (by decide)) hg394 (by decide)) si9 (xPi_m (xPi_m pi9 hg388 xLe.rf (by decide)) hg394 xLe.rf (by decide)) (xMp_m (xMp_m mp9 hg388 xLe.rf (by decide)) hg394 xLe.rf (by decide)) (xTw_m (xTw_m tw9 hg388 xLe.rf (by decide)) hg394 xLe.rf (by decide)) ((hg394 b1 12 0 0 (qS86 _ _ (qb82 _ _ hk64)) (by decide)).trans ((hg388 b1 12 0 0 (qS86 _ _ (qb82 _ _ hk64)) (by decide)).trans el09)) ((hg394 b1 12 0 3 (qS86 _ _ (qb82 _ _ hk64)) (by decide)).trans ((hg388 b1 12 0 3 (qS86 _ _ (qb82 _ _ hk64)) (by decide)).trans el19)) ((hg394 b1 12 0 1 (qS86 _ _ (qb82 _ _ hk64)) (by decide)).trans ((hg388 b1 12 0 1 (qS86 _ _ (qb82 _ _ hk64)) (by decide)).trans el29)) ((hg394 b34 6 0 1 (qS86 _ _ (qb82 _ _ hk72)) (by decide)).trans ((hg388 b34 6 0 1 (qS86 _ _ (qb82 _ _ hk72)) (by decide)).trans el39)) ((hg394 b1 12 0 2 (qS86 _ _ (qb82 _ _ hk64)) (by decide)).trans ((hg388 b1 12 0 2 (qS86 _ _ (qb82 _ _ hk64)) (by decide)).trans el49)) ((hg394 b18 4 0 0 (qS86 _ _ (qb82 _ _ hk65)) (by decide)).trans ((hg388 b18 4 0 0 (qS86 _ _ (qb82 _ _ hk65)) (by decide)).trans el59)) ((hg394 b18 4 0 2 (qS86 _ _ (qb82 _ _ hk65)) (by decide)).trans ((hg388 b18 4 0 2 (qS86 _ _ (qb82 _ _ hk65)) (by decide)).trans el69)) ((hg394 b18 4 0 3 (qS86 _ _ (qb82 _ _ hk65)) (by decide)).trans ((hg388 b18 4 0 3 (qS86 _ _ (qb82 _ _ hk65)) (by decide)).trans el79)) ((hg394 b18 4 0 4 (qS86 _ _ (qb82 _ _ hk65)) (by decide)).trans ((hg388 b18 4 0 4 (qS86 _ _ (qb82 _ _ hk65)) (by decide)).trans el89)) ((hg394 b32 10 0 0 (qS86 _ _ (qb82 _ _ hk70)) (by decide)).trans ((hg388 b32 10 0 0 (qS86 _ _ (qb82 _ _ hk70)) (by decide)).trans el99)) ((hg394 b36 13 0 1 (qS86 _ _ (qb82 _ _ hs_y62)) (by decide)).trans ((hg388 b36 13 0 1 (qS86 _ _ (qb82 _ _ hs_y62)) (by decide)).trans el109)) ((hg394 b36 13 0 10 (qS86 _ _ (qb82 _ _ hs_y62)) (by decide)).trans ((hg388 b36 13 0 10 (qS86 _ _ (qb82 _ _ hs_y62)) (by decide)).trans el119)) ((hg394 b36 13 0 13 (qS86 _ _ (qb82 _ _ hs_y62)) (by decide)).trans ((hg388 b36 13 0 13 (qS86 _ _ (qb82 _ _ hs_y62)) (by decide)).trans el129)) ((hg394 b36 13 0 14 (qS86 _ _ (qb82 _ _ hs_y62)) (by decide)).trans ((hg388 b36 13 0 14 (qS86 _ _ (qb82 _ _ hs_y62)) (by decide)).trans el139)) ((hg394 b36 13 0 12 (qS86 _ _ (qb82 _ _ hs_y62)) (by decide)).trans ((hg388 b36 13 0 12 (qS86 _ _ (qb82 _ _ hs_y62)) (by decide)).trans el149)) ((hg394 b32 10 0 1 (qS86 _ _ (qb82 _ _ hk70)) (by decide)).trans ((hg388 b32 10 0 1 (qS86 _ _ (qb82 _ _ hk70)) (by decide)).trans exk9)) ((hg394 b36 13 0 2 (qS86 _ _ (qb82 _ _ hs_y62)) (by decide)).trans ((hg388 b36 13 0 2 (qS86 _ _ (qb82 _ _ hs_y62)) (by decide)).trans emk9)) ((hg394 b1 12 0 12 (qS86 _ _ (qb82 _ _ hk64)) (by decide)).trans ((hg388 b1 12 0 12 (qS86 _ _ (qb82 _ _ hk64)) (by decide)).trans ext9)) ((hg394 b36 13 0 3 (qS86 _ _ (qb82 _ _ hs_y62)) (by decide)).trans ((hg388 b36 13 0 3 (qS86 _ _ (qb82 _ _ hs_y62)) (by decide)).trans emt9)) ((hg394 b33 5 0 3 (qS86 _ _ (qb82 _ _ hk71)) (by decide)).trans k392) k398 ((hg394 b35 0 0 2 (qS86 _ _ (qb82 _ _ hk73)) (by decide)).trans ((hg388 b35 0 0 2 (qS86 _ _ (qb82 _ _ hk73)) (by decide)).trans exb9)) ((hg394 b36 13 0 16 (qS86 _ _ (qb82 _ _ hs_y62)) (by decide)).trans ((hg388 b36 13 0 16 (qS86 _ _ (qb82 _ _ hs_y62)) (by decide)).trans emb9)) ((hg394 b1 12 0 16 (qS86 _ _ (qb82 _ _ hk64)) (by decide)).trans ((hg388 b1 12 0 16 (qS86 _ _ (qb82 _ _ hk64)) (by decide)).trans exsh9)) ((hg394 b36 13 0 89 (qS86 _ _ (qb82 _ _ hs_y62)) (by decide)).trans ((hg388 b36 13 0 89 (qS86 _ _ (qb82 _ _ hs_y62)) (by decide)).trans emsh9)) ((hg394 b1 12 0 17 (qS86 _ _ (qb82 _ _ hk64)) (by decide)).trans ((hg388 b1 12 0 17 (qS86 _ _ (qb82 _ _ hk64)) (by decide)).trans exsp9)) ((hg394 b36 13 0 90 (qS86 _ _ (qb82 _ _ hs_y62)) (by decide)).trans ((hg388 b36 13 0 90 (qS86 _ _ (qb82 _ _ hs_y62)) (by decide)).trans emsp9)) ((hg394 b36 13 0 17 (qS86 _ _ (qb82 _ _ hs_y62)) (by decide)).trans ((hg388 b36 13 0 17 (qS86 _ _ (qb82 _ _ hs_y62)) (by decide)).trans emsm9)) (xWn.m (xWn.m wn9 (qS86 _ _ (qb82 _ _ hk69)) (qS86 _ _ (qb82 _ _ hk76)) hg388 xLe.rf (by decide)) (qS86 _ _ (qb82 _ _ hk69)) (qS86 _ _ (qb82 _ _ hk76)) hg394 xLe.rf (by decide)) (by rw [(Eq.trans (xv_m hg394 (qS86 _ _ (qb82 _ _ hk67)) (by decide) (by decide)) (xv_m hg388 (qS86 _ _ (qb82 _ _ hk67)) (by decide) (by decide))), (Eq.trans (xv_m hg394 (qS86 _ _ (qb82 _ _ hk74)) (by decide) (by decide)) (xv_m hg388 (qS86 _ _ (qb82 _ _ hk74)) (by decide) (by decide)))]; exact wt9) (by rw [(Eq.trans (xv_m hg394 (qS86 _ _ (qb82 _ _ hk68)) (by decide) (by decide)) (xv_m hg388 (qS86 _ _ (qb82 _ _ hk68)) (by decide) (by decide))), (Eq.trans (xv_m hg394 (qS86 _ _ (qb82 _ _ hk75)) (by decide) (by decide)) (xv_m hg388 (qS86 _ _ (qb82 _ _ hk75)) (by decide) (by decide)))]; exact ld9) (by rw [(Eq.trans (xv_m hg394 (qS86 _ _ (qb82 _ _ hk66)) (by decide) (by decide)) (xv_m hg388 (qS86 _ _ (qb82 _ _ hk66)) (by decide) (by decide))), (Eq.trans (xv_m hg394 (qS86 _ _ (qb82 _ _ hs_b81)) (by decide) (by decide)) (xv_m hg388 (qS86 _ _ (qb82 _ _ hs_b81)) (by decide) (by decide)))]; exact sk9) (by rw [(Eq.trans (xv_m hg394 (qS86 _ _ (qb82 _ _ hs_b79)) (by decide) (by decide)) (xv_m hg388 (qS86 _ _ (qb82 _ _ hs_b79)) (by decide) (by decide))), (Eq.trans (xv_m hg394 (qS86 _ _ (qb82 _ _ hs_b80)) (by decide) (by decide)) (xv_m hg388 (qS86 _ _ (qb82 _ _ hs_b80)) (by decide) (by decide)))]; exact xTc.mono tc9 (by omega)) dc9 ds9 (by omega) (by omega) (by omega)
        · refine X_tableIn hK 1043 21 (by decide) c91 (by decide) (by decide) dL_law_40 rfl (by decide) ?_
          refine X_aloadn hK (i := 1) 3 dL_law_1043 rfl rfl ?_
          refine X_aloadn hK (i := 0) 4 dL_law_1044 rfl rfl ?_
          refine X_iload hK (i := 4) 0 dL_law_1045 rfl ?_
          refine X_iconst hK dL_law_1047 ?_
          refine X_iadd hK dL_law_1048 ?_
          refine X_scr hK hX hbl hbA hL (by omega) (by omega) dL_law_1049 (fun z399 ez399 lz399 uz399 => ?_)
          refine X_callV hK [.int (iI z399)] [] lk_L_117 (c_X11_falseCounts _ _ _ _ _ S86 g87 b1 z399 (qS86 _ _ (qb82 _ _ hk64)) (by omega) al9) (qS86 _ _ (qb82 _ _ hk64)) ⟨by decide, rfl⟩ dL_law_1050 rfl rfl (by simp [Value.category]) (by decide) (by omega) (by omega) (by decide) (fun r400 S402 g401 pr400 qr400 hg401 => ?_)
          obtain ⟨rfl, rfl, z403, rfl, lz403, uz403⟩ := pr400
          refine X_st [.int (iI z403)] rfl ?_
          refine X_pop hK dL_law_1053 rfl ?_
          refine X_aloadn hK (i := 2) 2 dL_law_1054 rfl rfl ?_
          refine X_aloadn hK (i := 0) 4 dL_law_1055 rfl rfl ?_
          refine X_iload hK (i := 4) 0 dL_law_1056 rfl ?_
          refine X_iconst hK dL_law_1058 ?_
          refine X_iadd hK dL_law_1059 ?_
          refine X_scrK hK hX hbl hbA hL (by omega) (by omega) ez399 dL_law_1060 ?_
          refine X_callV hK [.int (iI z399)] [] lk_L_120 (c_X12_falseCounts _ _ _ _ _ S86 g87 b36 z399 (qS86 _ _ (qb82 _ _ hs_y62)) (by omega)) (qS86 _ _ (qb82 _ _ hs_y62)) ⟨by decide, rfl⟩ dL_law_1061 rfl rfl (by simp [Value.category]) (by decide) (by omega) (by omega) (by decide) (fun r404 S406 g405 pr404 qr404 hg405 => ?_)
          obtain ⟨rfl, z407, rfl, lz407, uz407⟩ := pr404
          refine X_st [.int (iI z407)] rfl ?_
          refine X_pop hK dL_law_1064 rfl ?_
          refine X_goto hK 1465 dL_law_1065 (by decide) ?_
          refine X_iinc hK (i := 4) (z := i9) (n := 6) 0 [(4, .int (iI (i9 + 6))), (3, .ref b82), (2, .ref b36), (1, .ref b1), (0, .ref b)] dL_law_1465 rfl (by decide) rfl ?_
          refine X_goto hK 23 dL_law_1468 (by decide) ?_
          exact ih9 S86 qS86 g405 (i9 + 6) k9 t9 c9 b9 sh9 sp9 sm9 (by omega) (by omega) (by omega) (by omega) (by omega) (by omega) (by omega) (by omega) (xLs_mod al9 hg405 (by decide)) si9 (xPi_m pi9 hg405 xLe.rf (by decide)) (xMp_m mp9 hg405 xLe.rf (by decide)) (xTw_m tw9 hg405 xLe.rf (by decide)) ((hg405 b1 12 0 0 (qS86 _ _ (qb82 _ _ hk64)) (by decide)).trans el09) ((hg405 b1 12 0 3 (qS86 _ _ (qb82 _ _ hk64)) (by decide)).trans el19) ((hg405 b1 12 0 1 (qS86 _ _ (qb82 _ _ hk64)) (by decide)).trans el29) ((hg405 b34 6 0 1 (qS86 _ _ (qb82 _ _ hk72)) (by decide)).trans el39) ((hg405 b1 12 0 2 (qS86 _ _ (qb82 _ _ hk64)) (by decide)).trans el49) ((hg405 b18 4 0 0 (qS86 _ _ (qb82 _ _ hk65)) (by decide)).trans el59) ((hg405 b18 4 0 2 (qS86 _ _ (qb82 _ _ hk65)) (by decide)).trans el69) ((hg405 b18 4 0 3 (qS86 _ _ (qb82 _ _ hk65)) (by decide)).trans el79) ((hg405 b18 4 0 4 (qS86 _ _ (qb82 _ _ hk65)) (by decide)).trans el89) ((hg405 b32 10 0 0 (qS86 _ _ (qb82 _ _ hk70)) (by decide)).trans el99) ((hg405 b36 13 0 1 (qS86 _ _ (qb82 _ _ hs_y62)) (by decide)).trans el109) ((hg405 b36 13 0 10 (qS86 _ _ (qb82 _ _ hs_y62)) (by decide)).trans el119) ((hg405 b36 13 0 13 (qS86 _ _ (qb82 _ _ hs_y62)) (by decide)).trans el129) ((hg405 b36 13 0 14 (qS86 _ _ (qb82 _ _ hs_y62)) (by decide)).trans el139) ((hg405 b36 13 0 12 (qS86 _ _ (qb82 _ _ hs_y62)) (by decide)).trans el149) ((hg405 b32 10 0 1 (qS86 _ _ (qb82 _ _ hk70)) (by decide)).trans exk9) ((hg405 b36 13 0 2 (qS86 _ _ (qb82 _ _ hs_y62)) (by decide)).trans emk9) ((hg405 b1 12 0 12 (qS86 _ _ (qb82 _ _ hk64)) (by decide)).trans ext9) ((hg405 b36 13 0 3 (qS86 _ _ (qb82 _ _ hs_y62)) (by decide)).trans emt9) ((hg405 b33 5 0 3 (qS86 _ _ (qb82 _ _ hk71)) (by decide)).trans exc9) ((hg405 b36 13 0 69 (qS86 _ _ (qb82 _ _ hs_y62)) (by decide)).trans emc9) ((hg405 b35 0 0 2 (qS86 _ _ (qb82 _ _ hk73)) (by decide)).trans exb9) ((hg405 b36 13 0 16 (qS86 _ _ (qb82 _ _ hs_y62)) (by decide)).trans emb9) ((hg405 b1 12 0 16 (qS86 _ _ (qb82 _ _ hk64)) (by decide)).trans exsh9) ((hg405 b36 13 0 89 (qS86 _ _ (qb82 _ _ hs_y62)) (by decide)).trans emsh9) ((hg405 b1 12 0 17 (qS86 _ _ (qb82 _ _ hk64)) (by decide)).trans exsp9) ((hg405 b36 13 0 90 (qS86 _ _ (qb82 _ _ hs_y62)) (by decide)).trans emsp9) ((hg405 b36 13 0 17 (qS86 _ _ (qb82 _ _ hs_y62)) (by decide)).trans emsm9) (xWn.m wn9 (qS86 _ _ (qb82 _ _ hk69)) (qS86 _ _ (qb82 _ _ hk76)) hg405 xLe.rf (by decide)) (by rw [(xv_m hg405 (qS86 _ _ (qb82 _ _ hk67)) (by decide) (by decide)), (xv_m hg405 (qS86 _ _ (qb82 _ _ hk74)) (by decide) (by decide))]; exact wt9) (by rw [(xv_m hg405 (qS86 _ _ (qb82 _ _ hk68)) (by decide) (by decide)), (xv_m hg405 (qS86 _ _ (qb82 _ _ hk75)) (by decide) (by decide))]; exact ld9) (by rw [(xv_m hg405 (qS86 _ _ (qb82 _ _ hk66)) (by decide) (by decide)), (xv_m hg405 (qS86 _ _ (qb82 _ _ hs_b81)) (by decide) (by decide))]; exact sk9) (by rw [(xv_m hg405 (qS86 _ _ (qb82 _ _ hs_b79)) (by decide) (by decide)), (xv_m hg405 (qS86 _ _ (qb82 _ _ hs_b80)) (by decide) (by decide))]; exact xTc.mono tc9 (by omega)) dc9 ds9 (by omega) (by omega) (by omega)
        · refine X_tableIn hK 1068 22 (by decide) c91 (by decide) (by decide) dL_law_40 rfl (by decide) ?_
          refine X_aloadn hK (i := 1) 3 dL_law_1068 rfl rfl ?_
          refine X_aloadn hK (i := 0) 4 dL_law_1069 rfl rfl ?_
          refine X_iload hK (i := 4) 0 dL_law_1070 rfl ?_
          refine X_iconst hK dL_law_1072 ?_
          refine X_iadd hK dL_law_1073 ?_
          refine X_scr hK hX hbl hbA hL (by omega) (by omega) dL_law_1074 (fun z408 ez408 lz408 uz408 => ?_)
          refine X_callV hK [.int (iI z408)] [] lk_L_121 (c_X11_shortOf _ _ _ _ _ S86 g87 b1 z408 (qS86 _ _ (qb82 _ _ hk64)) (by omega) al9) (qS86 _ _ (qb82 _ _ hk64)) ⟨by decide, rfl⟩ dL_law_1075 rfl rfl (by simp [Value.category]) (by decide) (by omega) (by omega) (by decide) (fun r409 S411 g410 pr409 qr409 hg410 => ?_)
          obtain ⟨rfl, rfl, z412, rfl, lz412, uz412⟩ := pr409
          refine X_st [.int (iI z412)] rfl ?_
          refine X_pop hK dL_law_1078 rfl ?_
          refine X_aloadn hK (i := 2) 2 dL_law_1079 rfl rfl ?_
          refine X_aloadn hK (i := 0) 4 dL_law_1080 rfl rfl ?_
          refine X_iload hK (i := 4) 0 dL_law_1081 rfl ?_
          refine X_iconst hK dL_law_1083 ?_
          refine X_iadd hK dL_law_1084 ?_
          refine X_scrK hK hX hbl hbA hL (by omega) (by omega) ez408 dL_law_1085 ?_
          refine X_callV hK [.int (iI z408)] [] lk_L_124 (c_X12_shortOf _ _ _ _ _ S86 g87 b36 z408 (qS86 _ _ (qb82 _ _ hs_y62)) (by omega)) (qS86 _ _ (qb82 _ _ hs_y62)) ⟨by decide, rfl⟩ dL_law_1086 rfl rfl (by simp [Value.category]) (by decide) (by omega) (by omega) (by decide) (fun r413 S415 g414 pr413 qr413 hg414 => ?_)
          obtain ⟨rfl, z416, rfl, lz416, uz416⟩ := pr413
          refine X_st [.int (iI z416)] rfl ?_
          refine X_pop hK dL_law_1089 rfl ?_
          refine X_goto hK 1465 dL_law_1090 (by decide) ?_
          refine X_iinc hK (i := 4) (z := i9) (n := 6) 0 [(4, .int (iI (i9 + 6))), (3, .ref b82), (2, .ref b36), (1, .ref b1), (0, .ref b)] dL_law_1465 rfl (by decide) rfl ?_
          refine X_goto hK 23 dL_law_1468 (by decide) ?_
          exact ih9 S86 qS86 g414 (i9 + 6) k9 t9 c9 b9 sh9 sp9 sm9 (by omega) (by omega) (by omega) (by omega) (by omega) (by omega) (by omega) (by omega) (xLs_mod al9 hg414 (by decide)) si9 (xPi_m pi9 hg414 xLe.rf (by decide)) (xMp_m mp9 hg414 xLe.rf (by decide)) (xTw_m tw9 hg414 xLe.rf (by decide)) ((hg414 b1 12 0 0 (qS86 _ _ (qb82 _ _ hk64)) (by decide)).trans el09) ((hg414 b1 12 0 3 (qS86 _ _ (qb82 _ _ hk64)) (by decide)).trans el19) ((hg414 b1 12 0 1 (qS86 _ _ (qb82 _ _ hk64)) (by decide)).trans el29) ((hg414 b34 6 0 1 (qS86 _ _ (qb82 _ _ hk72)) (by decide)).trans el39) ((hg414 b1 12 0 2 (qS86 _ _ (qb82 _ _ hk64)) (by decide)).trans el49) ((hg414 b18 4 0 0 (qS86 _ _ (qb82 _ _ hk65)) (by decide)).trans el59) ((hg414 b18 4 0 2 (qS86 _ _ (qb82 _ _ hk65)) (by decide)).trans el69) ((hg414 b18 4 0 3 (qS86 _ _ (qb82 _ _ hk65)) (by decide)).trans el79) ((hg414 b18 4 0 4 (qS86 _ _ (qb82 _ _ hk65)) (by decide)).trans el89) ((hg414 b32 10 0 0 (qS86 _ _ (qb82 _ _ hk70)) (by decide)).trans el99) ((hg414 b36 13 0 1 (qS86 _ _ (qb82 _ _ hs_y62)) (by decide)).trans el109) ((hg414 b36 13 0 10 (qS86 _ _ (qb82 _ _ hs_y62)) (by decide)).trans el119) ((hg414 b36 13 0 13 (qS86 _ _ (qb82 _ _ hs_y62)) (by decide)).trans el129) ((hg414 b36 13 0 14 (qS86 _ _ (qb82 _ _ hs_y62)) (by decide)).trans el139) ((hg414 b36 13 0 12 (qS86 _ _ (qb82 _ _ hs_y62)) (by decide)).trans el149) ((hg414 b32 10 0 1 (qS86 _ _ (qb82 _ _ hk70)) (by decide)).trans exk9) ((hg414 b36 13 0 2 (qS86 _ _ (qb82 _ _ hs_y62)) (by decide)).trans emk9) ((hg414 b1 12 0 12 (qS86 _ _ (qb82 _ _ hk64)) (by decide)).trans ext9) ((hg414 b36 13 0 3 (qS86 _ _ (qb82 _ _ hs_y62)) (by decide)).trans emt9) ((hg414 b33 5 0 3 (qS86 _ _ (qb82 _ _ hk71)) (by decide)).trans exc9) ((hg414 b36 13 0 69 (qS86 _ _ (qb82 _ _ hs_y62)) (by decide)).trans emc9) ((hg414 b35 0 0 2 (qS86 _ _ (qb82 _ _ hk73)) (by decide)).trans exb9) ((hg414 b36 13 0 16 (qS86 _ _ (qb82 _ _ hs_y62)) (by decide)).trans emb9) ((hg414 b1 12 0 16 (qS86 _ _ (qb82 _ _ hk64)) (by decide)).trans exsh9) ((hg414 b36 13 0 89 (qS86 _ _ (qb82 _ _ hs_y62)) (by decide)).trans emsh9) ((hg414 b1 12 0 17 (qS86 _ _ (qb82 _ _ hk64)) (by decide)).trans exsp9) ((hg414 b36 13 0 90 (qS86 _ _ (qb82 _ _ hs_y62)) (by decide)).trans emsp9) ((hg414 b36 13 0 17 (qS86 _ _ (qb82 _ _ hs_y62)) (by decide)).trans emsm9) (xWn.m wn9 (qS86 _ _ (qb82 _ _ hk69)) (qS86 _ _ (qb82 _ _ hk76)) hg414 xLe.rf (by decide)) (by rw [(xv_m hg414 (qS86 _ _ (qb82 _ _ hk67)) (by decide) (by decide)), (xv_m hg414 (qS86 _ _ (qb82 _ _ hk74)) (by decide) (by decide))]; exact wt9) (by rw [(xv_m hg414 (qS86 _ _ (qb82 _ _ hk68)) (by decide) (by decide)), (xv_m hg414 (qS86 _ _ (qb82 _ _ hk75)) (by decide) (by decide))]; exact ld9) (by rw [(xv_m hg414 (qS86 _ _ (qb82 _ _ hk66)) (by decide) (by decide)), (xv_m hg414 (qS86 _ _ (qb82 _ _ hs_b81)) (by decide) (by decide))]; exact sk9) (by rw [(xv_m hg414 (qS86 _ _ (qb82 _ _ hs_b79)) (by decide) (by decide)), (xv_m hg414 (qS86 _ _ (qb82 _ _ hs_b80)) (by decide) (by decide))]; exact xTc.mono tc9 (by omega)) dc9 ds9 (by omega) (by omega) (by omega)
        · refine X_tableIn hK 1093 23 (by decide) c91 (by decide) (by decide) dL_law_40 rfl (by decide) ?_
          refine X_aloadn hK (i := 1) 3 dL_law_1093 rfl rfl ?_
          refine X_aloadn hK (i := 0) 4 dL_law_1094 rfl rfl ?_
          refine X_iload hK (i := 4) 0 dL_law_1095 rfl ?_
          refine X_iconst hK dL_law_1097 ?_
          refine X_iadd hK dL_law_1098 ?_
          refine X_scr hK hX hbl hbA hL (by omega) (by omega) dL_law_1099 (fun z417 ez417 lz417 uz417 => ?_)
          refine X_aloadn hK (i := 0) 4 dL_law_1100 rfl rfl ?_
          refine X_iload hK (i := 4) 0 dL_law_1101 rfl ?_
          refine X_iconst hK dL_law_1103 ?_
          refine X_iadd hK dL_law_1104 ?_
          refine X_scr hK hX hbl hbA hL (by omega) (by omega) dL_law_1105 (fun z418 ez418 lz418 uz418 => ?_)
          refine X_aloadn hK (i := 0) 4 dL_law_1106 rfl rfl ?_
          refine X_iload hK (i := 4) 0 dL_law_1107 rfl ?_
          refine X_iconst hK dL_law_1109 ?_
          refine X_iadd hK dL_law_1110 ?_
          refine X_scr hK hX hbl hbA hL (by omega) (by omega) dL_law_1111 (fun z419 ez419 lz419 uz419 => ?_)
          refine X_aloadn hK (i := 0) 4 dL_law_1112 rfl rfl ?_
          refine X_iload hK (i := 4) 0 dL_law_1113 rfl ?_
          refine X_iconst hK dL_law_1115 ?_
          refine X_iadd hK dL_law_1116 ?_
          refine X_scr hK hX hbl hbA hL (by omega) (by omega) dL_law_1117 (fun z420 ez420 lz420 uz420 => ?_)
          refine X_aloadn hK (i := 0) 4 dL_law_1118 rfl rfl ?_
          refine X_iload hK (i := 4) 0 dL_law_1119 rfl ?_
          refine X_iconst hK dL_law_1121 ?_
          refine X_iadd hK dL_law_1122 ?_
          refine X_scr hK hX hbl hbA hL (by omega) (by omega) dL_law_1123 (fun z421 ez421 lz421 uz421 => ?_)
          refine X_callV hK [.int (iI z417), .int (iI z418), .int (iI z419), .int (iI z420), .int (iI z421)] [] lk_L_125 (c_X11_best _ _ _ _ _ S86 g87 b1 z417 z418 z419 z420 z421 b32 k9 (qS86 _ _ (qb82 _ _ hk64)) (by omega) (by omega) (by omega) (by omega) (by omega) el09 (qS86 _ _ (qb82 _ _ hk70)) (by omega) exk9) (qS86 _ _ (qb82 _ _ hk64)) ⟨by decide, rfl⟩ dL_law_1124 rfl rfl (by simp [Value.category]) (by decide) (by omega) (by omega) (by decide) (fun r422 S424 g423 pr422 qr422 hg423 => ?_)
          obtain ⟨rfl, z425, rfl, lz425, uz425, k426⟩ := pr422
          refine X_st [.int (iI z425)] rfl ?_
          refine X_pop hK dL_law_1127 rfl ?_
          refine X_aloadn hK (i := 2) 2 dL_law_1128 rfl rfl ?_
          refine X_aloadn hK (i := 0) 4 dL_law_1129 rfl rfl ?_
          refine X_iload hK (i := 4) 0 dL_law_1130 rfl ?_
          refine X_iconst hK dL_law_1132 ?_
          refine X_iadd hK dL_law_1133 ?_
          refine X_scrK hK hX hbl hbA hL (by omega) (by omega) ez417 dL_law_1134 ?_
          refine X_aloadn hK (i := 0) 4 dL_law_1135 rfl rfl ?_
          refine X_iload hK (i := 4) 0 dL_law_1136 rfl ?_
          refine X_iconst hK dL_law_1138 ?_
          refine X_iadd hK dL_law_1139 ?_
          refine X_scrK hK hX hbl hbA hL (by omega) (by omega) ez418 dL_law_1140 ?_
          refine X_aloadn hK (i := 0) 4 dL_law_1141 rfl rfl ?_
          refine X_iload hK (i := 4) 0 dL_law_1142 rfl ?_
          refine X_iconst hK dL_law_1144 ?_
          refine X_iadd hK dL_law_1145 ?_
          refine X_scrK hK hX hbl hbA hL (by omega) (by omega) ez419 dL_law_1146 ?_
          refine X_aloadn hK (i := 0) 4 dL_law_1147 rfl rfl ?_
          refine X_iload hK (i := 4) 0 dL_law_1148 rfl ?_
          refine X_iconst hK dL_law_1150 ?_
          refine X_iadd hK dL_law_1151 ?_
          refine X_scrK hK hX hbl hbA hL (by omega) (by omega) ez420 dL_law_1152 ?_
          refine X_aloadn hK (i := 0) 4 dL_law_1153 rfl rfl ?_
          refine X_iload hK (i := 4) 0 dL_law_1154 rfl ?_
          refine X_iconst hK dL_law_1156 ?_
          refine X_iadd hK dL_law_1157 ?_
          refine X_scrK hK hX hbl hbA hL (by omega) (by omega) ez421 dL_law_1158 ?_
          refine X_callV hK [.int (iI z417), .int (iI z418), .int (iI z419), .int (iI z420), .int (iI z421)] [] lk_L_128 (c3_best _ _ _ _ _ S86 g423 b36 z417 z418 z419 z420 z421 k9 (qS86 _ _ (qb82 _ _ hs_y62)) (by omega) (by omega) (by omega) (by omega) (by omega) (by omega) ((hg423 b36 13 0 2 (qS86 _ _ (qb82 _ _ hs_y62)) (by decide)).trans emk9)) (qS86 _ _ (qb82 _ _ hs_y62)) ⟨by decide, rfl⟩ dL_law_1159 rfl rfl (by simp [Value.category]) (by decide) (by omega) (by omega) (by decide) (fun r427 S429 g428 pr427 qr427 hg428 => ?_)
          obtain ⟨rfl, z430, rfl, lz430, uz430, k431⟩ := pr427
          refine X_st [.int (iI z430)] rfl ?_
          refine X_pop hK dL_law_1162 rfl ?_
          refine X_goto hK 1465 dL_law_1163 (by decide) ?_
          refine X_iinc hK (i := 4) (z := i9) (n := 6) 0 [(4, .int (iI (i9 + 6))), (3, .ref b82), (2, .ref b36), (1, .ref b1), (0, .ref b)] dL_law_1465 rfl (by decide) rfl ?_
          refine X_goto hK 23 dL_law_1468 (by decide) ?_
          exact ih9 S86 qS86 g428 (i9 + 6) (0) t9 c9 b9 sh9 sp9 sm9 (by omega) (by omega) (by omega) (by omega) (by omega) (by omega) (by omega) (by omega) (xLs_mod (xLs_mod al9 hg423 (by decide)) hg428 (by decide)) si9 (xPi_m (xPi_m pi9 hg423 xLe.rf (by decide)) hg428 xLe.rf (by decide)) (xMp_m (xMp_m mp9 hg423 xLe.rf (by decide)) hg428 xLe.rf (by decide)) (xTw_m (xTw_m tw9 hg423 xLe.rf (by decide)) hg428 xLe.rf (by decide)) ((hg428 b1 12 0 0 (qS86 _ _ (qb82 _ _ hk64)) (by decide)).trans ((hg423 b1 12 0 0 (qS86 _ _ (qb82 _ _ hk64)) (by decide)).trans el09)) ((hg428 b1 12 0 3 (qS86 _ _ (qb82 _ _ hk64)) (by decide)).trans ((hg423 b1 12 0 3 (qS86 _ _ (qb82 _ _ hk64)) (by decide)).trans el19)) ((hg428 b1 12 0 1 (qS86 _ _ (qb82 _ _ hk64)) (by decide)).trans ((hg423 b1 12 0 1 (qS86 _ _ (qb82 _ _ hk64)) (by decide)).trans el29)) ((hg428 b34 6 0 1 (qS86 _ _ (qb82 _ _ hk72)) (by decide)).trans ((hg423 b34 6 0 1 (qS86 _ _ (qb82 _ _ hk72)) (by decide)).trans el39)) ((hg428 b1 12 0 2 (qS86 _ _ (qb82 _ _ hk64)) (by decide)).trans ((hg423 b1 12 0 2 (qS86 _ _ (qb82 _ _ hk64)) (by decide)).trans el49)) ((hg428 b18 4 0 0 (qS86 _ _ (qb82 _ _ hk65)) (by decide)).trans ((hg423 b18 4 0 0 (qS86 _ _ (qb82 _ _ hk65)) (by decide)).trans el59)) ((hg428 b18 4 0 2 (qS86 _ _ (qb82 _ _ hk65)) (by decide)).trans ((hg423 b18 4 0 2 (qS86 _ _ (qb82 _ _ hk65)) (by decide)).trans el69)) ((hg428 b18 4 0 3 (qS86 _ _ (qb82 _ _ hk65)) (by decide)).trans ((hg423 b18 4 0 3 (qS86 _ _ (qb82 _ _ hk65)) (by decide)).trans el79)) ((hg428 b18 4 0 4 (qS86 _ _ (qb82 _ _ hk65)) (by decide)).trans ((hg423 b18 4 0 4 (qS86 _ _ (qb82 _ _ hk65)) (by decide)).trans el89)) ((hg428 b32 10 0 0 (qS86 _ _ (qb82 _ _ hk70)) (by decide)).trans ((hg423 b32 10 0 0 (qS86 _ _ (qb82 _ _ hk70)) (by decide)).trans el99)) ((hg428 b36 13 0 1 (qS86 _ _ (qb82 _ _ hs_y62)) (by decide)).trans ((hg423 b36 13 0 1 (qS86 _ _ (qb82 _ _ hs_y62)) (by decide)).trans el109)) ((hg428 b36 13 0 10 (qS86 _ _ (qb82 _ _ hs_y62)) (by decide)).trans ((hg423 b36 13 0 10 (qS86 _ _ (qb82 _ _ hs_y62)) (by decide)).trans el119)) ((hg428 b36 13 0 13 (qS86 _ _ (qb82 _ _ hs_y62)) (by decide)).trans ((hg423 b36 13 0 13 (qS86 _ _ (qb82 _ _ hs_y62)) (by decide)).trans el129)) ((hg428 b36 13 0 14 (qS86 _ _ (qb82 _ _ hs_y62)) (by decide)).trans ((hg423 b36 13 0 14 (qS86 _ _ (qb82 _ _ hs_y62)) (by decide)).trans el139)) ((hg428 b36 13 0 12 (qS86 _ _ (qb82 _ _ hs_y62)) (by decide)).trans ((hg423 b36 13 0 12 (qS86 _ _ (qb82 _ _ hs_y62)) (by decide)).trans el149)) ((hg428 b32 10 0 1 (qS86 _ _ (qb82 _ _ hk70)) (by decide)).trans k426) k431 ((hg428 b1 12 0 12 (qS86 _ _ (qb82 _ _ hk64)) (by decide)).trans ((hg423 b1 12 0 12 (qS86 _ _ (qb82 _ _ hk64)) (by decide)).trans ext9)) ((hg428 b36 13 0 3 (qS86 _ _ (qb82 _ _ hs_y62)) (by decide)).trans ((hg423 b36 13 0 3 (qS86 _ _ (qb82 _ _ hs_y62)) (by decide)).trans emt9)) ((hg428 b33 5 0 3 (qS86 _ _ (qb82 _ _ hk71)) (by decide)).trans ((hg423 b33 5 0 3 (qS86 _ _ (qb82 _ _ hk71)) (by decide)).trans exc9)) ((hg428 b36 13 0 69 (qS86 _ _ (qb82 _ _ hs_y62)) (by decide)).trans ((hg423 b36 13 0 69 (qS86 _ _ (qb82 _ _ hs_y62)) (by decide)).trans emc9)) ((hg428 b35 0 0 2 (qS86 _ _ (qb82 _ _ hk73)) (by decide)).trans ((hg423 b35 0 0 2 (qS86 _ _ (qb82 _ _ hk73)) (by decide)).trans exb9)) ((hg428 b36 13 0 16 (qS86 _ _ (qb82 _ _ hs_y62)) (by decide)).trans ((hg423 b36 13 0 16 (qS86 _ _ (qb82 _ _ hs_y62)) (by decide)).trans emb9)) ((hg428 b1 12 0 16 (qS86 _ _ (qb82 _ _ hk64)) (by decide)).trans ((hg423 b1 12 0 16 (qS86 _ _ (qb82 _ _ hk64)) (by decide)).trans exsh9)) ((hg428 b36 13 0 89 (qS86 _ _ (qb82 _ _ hs_y62)) (by decide)).trans ((hg423 b36 13 0 89 (qS86 _ _ (qb82 _ _ hs_y62)) (by decide)).trans emsh9)) ((hg428 b1 12 0 17 (qS86 _ _ (qb82 _ _ hk64)) (by decide)).trans ((hg423 b1 12 0 17 (qS86 _ _ (qb82 _ _ hk64)) (by decide)).trans exsp9)) ((hg428 b36 13 0 90 (qS86 _ _ (qb82 _ _ hs_y62)) (by decide)).trans ((hg423 b36 13 0 90 (qS86 _ _ (qb82 _ _ hs_y62)) (by decide)).trans emsp9)) ((hg428 b36 13 0 17 (qS86 _ _ (qb82 _ _ hs_y62)) (by decide)).trans ((hg423 b36 13 0 17 (qS86 _ _ (qb82 _ _ hs_y62)) (by decide)).trans emsm9)) (xWn.m (xWn.m wn9 (qS86 _ _ (qb82 _ _ hk69)) (qS86 _ _ (qb82 _ _ hk76)) hg423 xLe.rf (by decide)) (qS86 _ _ (qb82 _ _ hk69)) (qS86 _ _ (qb82 _ _ hk76)) hg428 xLe.rf (by decide)) (by rw [(Eq.trans (xv_m hg428 (qS86 _ _ (qb82 _ _ hk67)) (by decide) (by decide)) (xv_m hg423 (qS86 _ _ (qb82 _ _ hk67)) (by decide) (by decide))), (Eq.trans (xv_m hg428 (qS86 _ _ (qb82 _ _ hk74)) (by decide) (by decide)) (xv_m hg423 (qS86 _ _ (qb82 _ _ hk74)) (by decide) (by decide)))]; exact wt9) (by rw [(Eq.trans (xv_m hg428 (qS86 _ _ (qb82 _ _ hk68)) (by decide) (by decide)) (xv_m hg423 (qS86 _ _ (qb82 _ _ hk68)) (by decide) (by decide))), (Eq.trans (xv_m hg428 (qS86 _ _ (qb82 _ _ hk75)) (by decide) (by decide)) (xv_m hg423 (qS86 _ _ (qb82 _ _ hk75)) (by decide) (by decide)))]; exact ld9) (by rw [(Eq.trans (xv_m hg428 (qS86 _ _ (qb82 _ _ hk66)) (by decide) (by decide)) (xv_m hg423 (qS86 _ _ (qb82 _ _ hk66)) (by decide) (by decide))), (Eq.trans (xv_m hg428 (qS86 _ _ (qb82 _ _ hs_b81)) (by decide) (by decide)) (xv_m hg423 (qS86 _ _ (qb82 _ _ hs_b81)) (by decide) (by decide)))]; exact sk9) (by rw [(Eq.trans (xv_m hg428 (qS86 _ _ (qb82 _ _ hs_b79)) (by decide) (by decide)) (xv_m hg423 (qS86 _ _ (qb82 _ _ hs_b79)) (by decide) (by decide))), (Eq.trans (xv_m hg428 (qS86 _ _ (qb82 _ _ hs_b80)) (by decide) (by decide)) (xv_m hg423 (qS86 _ _ (qb82 _ _ hs_b80)) (by decide) (by decide)))]; exact xTc.mono tc9 (by omega)) dc9 ds9 (by omega) (by omega) (by omega)
        · refine X_tableIn hK 1166 24 (by decide) c91 (by decide) (by decide) dL_law_40 rfl (by decide) ?_
          refine X_aloadn hK (i := 1) 3 dL_law_1166 rfl rfl ?_
          refine X_callV hK [] [] lk_L_129 (c_X11_expected _ _ _ _ _ S86 g87 b1 (qS86 _ _ (qb82 _ _ hk64))) (qS86 _ _ (qb82 _ _ hk64)) ⟨by decide, rfl⟩ dL_law_1167 rfl rfl (by simp [Value.category]) (by decide) (by omega) (by omega) (by decide) (fun r432 S434 g433 pr432 qr432 hg433 => ?_)
          obtain ⟨rfl, rfl, y435, rfl⟩ := pr432
          refine X_st [.long y435] rfl ?_
          refine X_pop2 hK dL_law_1170 rfl ?_
          refine X_aloadn hK (i := 2) 2 dL_law_1171 rfl rfl ?_
          refine X_callV hK [] [] lk_L_133 (c_X12_expected _ _ _ _ _ S86 g87 b36 (qS86 _ _ (qb82 _ _ hs_y62))) (qS86 _ _ (qb82 _ _ hs_y62)) ⟨by decide, rfl⟩ dL_law_1172 rfl rfl (by simp [Value.category]) (by decide) (by omega) (by omega) (by decide) (fun r436 S438 g437 pr436 qr436 hg437 => ?_)
          obtain ⟨rfl, y439, rfl⟩ := pr436
          refine X_st [.long y439] rfl ?_
          refine X_pop2 hK dL_law_1175 rfl ?_
          refine X_goto hK 1465 dL_law_1176 (by decide) ?_
          refine X_iinc hK (i := 4) (z := i9) (n := 6) 0 [(4, .int (iI (i9 + 6))), (3, .ref b82), (2, .ref b36), (1, .ref b1), (0, .ref b)] dL_law_1465 rfl (by decide) rfl ?_
          refine X_goto hK 23 dL_law_1468 (by decide) ?_
          exact ih9 S86 qS86 g437 (i9 + 6) k9 t9 c9 b9 sh9 sp9 sm9 (by omega) (by omega) (by omega) (by omega) (by omega) (by omega) (by omega) (by omega) (xLs_mod al9 hg437 (by decide)) si9 (xPi_m pi9 hg437 xLe.rf (by decide)) (xMp_m mp9 hg437 xLe.rf (by decide)) (xTw_m tw9 hg437 xLe.rf (by decide)) ((hg437 b1 12 0 0 (qS86 _ _ (qb82 _ _ hk64)) (by decide)).trans el09) ((hg437 b1 12 0 3 (qS86 _ _ (qb82 _ _ hk64)) (by decide)).trans el19) ((hg437 b1 12 0 1 (qS86 _ _ (qb82 _ _ hk64)) (by decide)).trans el29) ((hg437 b34 6 0 1 (qS86 _ _ (qb82 _ _ hk72)) (by decide)).trans el39) ((hg437 b1 12 0 2 (qS86 _ _ (qb82 _ _ hk64)) (by decide)).trans el49) ((hg437 b18 4 0 0 (qS86 _ _ (qb82 _ _ hk65)) (by decide)).trans el59) ((hg437 b18 4 0 2 (qS86 _ _ (qb82 _ _ hk65)) (by decide)).trans el69) ((hg437 b18 4 0 3 (qS86 _ _ (qb82 _ _ hk65)) (by decide)).trans el79) ((hg437 b18 4 0 4 (qS86 _ _ (qb82 _ _ hk65)) (by decide)).trans el89) ((hg437 b32 10 0 0 (qS86 _ _ (qb82 _ _ hk70)) (by decide)).trans el99) ((hg437 b36 13 0 1 (qS86 _ _ (qb82 _ _ hs_y62)) (by decide)).trans el109) ((hg437 b36 13 0 10 (qS86 _ _ (qb82 _ _ hs_y62)) (by decide)).trans el119) ((hg437 b36 13 0 13 (qS86 _ _ (qb82 _ _ hs_y62)) (by decide)).trans el129) ((hg437 b36 13 0 14 (qS86 _ _ (qb82 _ _ hs_y62)) (by decide)).trans el139) ((hg437 b36 13 0 12 (qS86 _ _ (qb82 _ _ hs_y62)) (by decide)).trans el149) ((hg437 b32 10 0 1 (qS86 _ _ (qb82 _ _ hk70)) (by decide)).trans exk9) ((hg437 b36 13 0 2 (qS86 _ _ (qb82 _ _ hs_y62)) (by decide)).trans emk9) ((hg437 b1 12 0 12 (qS86 _ _ (qb82 _ _ hk64)) (by decide)).trans ext9) ((hg437 b36 13 0 3 (qS86 _ _ (qb82 _ _ hs_y62)) (by decide)).trans emt9) ((hg437 b33 5 0 3 (qS86 _ _ (qb82 _ _ hk71)) (by decide)).trans exc9) ((hg437 b36 13 0 69 (qS86 _ _ (qb82 _ _ hs_y62)) (by decide)).trans emc9) ((hg437 b35 0 0 2 (qS86 _ _ (qb82 _ _ hk73)) (by decide)).trans exb9) ((hg437 b36 13 0 16 (qS86 _ _ (qb82 _ _ hs_y62)) (by decide)).trans emb9) ((hg437 b1 12 0 16 (qS86 _ _ (qb82 _ _ hk64)) (by decide)).trans exsh9) ((hg437 b36 13 0 89 (qS86 _ _ (qb82 _ _ hs_y62)) (by decide)).trans emsh9) ((hg437 b1 12 0 17 (qS86 _ _ (qb82 _ _ hk64)) (by decide)).trans exsp9) ((hg437 b36 13 0 90 (qS86 _ _ (qb82 _ _ hs_y62)) (by decide)).trans emsp9) ((hg437 b36 13 0 17 (qS86 _ _ (qb82 _ _ hs_y62)) (by decide)).trans emsm9) (xWn.m wn9 (qS86 _ _ (qb82 _ _ hk69)) (qS86 _ _ (qb82 _ _ hk76)) hg437 xLe.rf (by decide)) (by rw [(xv_m hg437 (qS86 _ _ (qb82 _ _ hk67)) (by decide) (by decide)), (xv_m hg437 (qS86 _ _ (qb82 _ _ hk74)) (by decide) (by decide))]; exact wt9) (by rw [(xv_m hg437 (qS86 _ _ (qb82 _ _ hk68)) (by decide) (by decide)), (xv_m hg437 (qS86 _ _ (qb82 _ _ hk75)) (by decide) (by decide))]; exact ld9) (by rw [(xv_m hg437 (qS86 _ _ (qb82 _ _ hk66)) (by decide) (by decide)), (xv_m hg437 (qS86 _ _ (qb82 _ _ hs_b81)) (by decide) (by decide))]; exact sk9) (by rw [(xv_m hg437 (qS86 _ _ (qb82 _ _ hs_b79)) (by decide) (by decide)), (xv_m hg437 (qS86 _ _ (qb82 _ _ hs_b80)) (by decide) (by decide))]; exact xTc.mono tc9 (by omega)) dc9 ds9 (by omega) (by omega) (by omega)
        · refine X_tableIn hK 1179 25 (by decide) c91 (by decide) (by decide) dL_law_40 rfl (by decide) ?_
          refine X_aloadn hK (i := 1) 3 dL_law_1179 rfl rfl ?_
          refine X_callVU hK [] [] lk_L_134 (c_X11_tried _ _ _ _ _ S86 g87 b1 b32 k9 (qS86 _ _ (qb82 _ _ hk64)) el09 (qS86 _ _ (qb82 _ _ hk70)) (by omega) exk9 al9 si9) (qS86 _ _ (qb82 _ _ hk64)) ⟨by decide, rfl⟩ dL_law_1180 rfl rfl (by simp [Value.category]) (by decide) (by omega) (by omega) (by decide) (fun r440 S442 g441 dcr440 dsr440 pr440 qr440 hg441 => ?_)
          obtain ⟨wr440, z443, rfl, lz443, uz443, k444, k445, k446, k447⟩ := pr440
          refine X_st [.int (iI z443)] rfl ?_
          refine X_pop hK dL_law_1183 rfl ?_
          refine X_aloadn hK (i := 2) 2 dL_law_1184 rfl rfl ?_
          refine X_callV hK [] [] lk_L_137 (c_X12_tried _ _ _ _ _ S442 g441 b36 k9 (qr440 _ _ (qS86 _ _ (qb82 _ _ hs_y62))) (by omega) ((hg441 b36 13 0 2 (qS86 _ _ (qb82 _ _ hs_y62)) (by decide)).trans emk9) (xTw_m tw9 hg441 qr440 (by decide))) (qr440 _ _ (qS86 _ _ (qb82 _ _ hs_y62))) ⟨by decide, rfl⟩ dL_law_1185 rfl rfl (by simp [Value.category]) (by decide) (by omega) (by omega) (by decide) (fun r448 S450 g449 pr448 qr448 hg449 => ?_)
          obtain ⟨rfl, z451, rfl, lz451, uz451, k452, k453⟩ := pr448
          refine X_st [.int (iI z451)] rfl ?_
          refine X_pop hK dL_law_1188 rfl ?_
          refine X_goto hK 1465 dL_law_1189 (by decide) ?_
          refine X_iinc hK (i := 4) (z := i9) (n := 6) 0 [(4, .int (iI (i9 + 6))), (3, .ref b82), (2, .ref b36), (1, .ref b1), (0, .ref b)] dL_law_1465 rfl (by decide) rfl ?_
          refine X_goto hK 23 dL_law_1468 (by decide) ?_
          exact ih9 S442 (xLe.tr qS86 qr440) g449 (i9 + 6) (0) t9 c9 b9 sh9 sp9 sm9 (by omega) (by omega) (by omega) (by omega) (by omega) (by omega) (by omega) (by omega) (xLs_mod k444 hg449 (by decide)) k445 (xPi_m (xPi_m pi9 hg441 qr440 (by decide)) hg449 xLe.rf (by decide)) (xMp_m (xMp_m mp9 hg441 qr440 (by decide)) hg449 xLe.rf (by decide)) k453 ((hg449 b1 12 0 0 (qr440 _ _ (qS86 _ _ (qb82 _ _ hk64))) (by decide)).trans ((hg441 b1 12 0 0 (qS86 _ _ (qb82 _ _ hk64)) (by decide)).trans el09)) ((hg449 b1 12 0 3 (qr440 _ _ (qS86 _ _ (qb82 _ _ hk64))) (by decide)).trans ((hg441 b1 12 0 3 (qS86 _ _ (qb82 _ _ hk64)) (by decide)).trans el19)) ((hg449 b1 12 0 1 (qr440 _ _ (qS86 _ _ (qb82 _ _ hk64))) (by decide)).trans ((hg441 b1 12 0 1 (qS86 _ _ (qb82 _ _ hk64)) (by decide)).trans el29)) ((hg449 b34 6 0 1 (qr440 _ _ (qS86 _ _ (qb82 _ _ hk72))) (by decide)).trans ((hg441 b34 6 0 1 (qS86 _ _ (qb82 _ _ hk72)) (by decide)).trans el39)) ((hg449 b1 12 0 2 (qr440 _ _ (qS86 _ _ (qb82 _ _ hk64))) (by decide)).trans ((hg441 b1 12 0 2 (qS86 _ _ (qb82 _ _ hk64)) (by decide)).trans el49)) ((hg449 b18 4 0 0 (qr440 _ _ (qS86 _ _ (qb82 _ _ hk65))) (by decide)).trans ((hg441 b18 4 0 0 (qS86 _ _ (qb82 _ _ hk65)) (by decide)).trans el59)) ((hg449 b18 4 0 2 (qr440 _ _ (qS86 _ _ (qb82 _ _ hk65))) (by decide)).trans ((hg441 b18 4 0 2 (qS86 _ _ (qb82 _ _ hk65)) (by decide)).trans el69)) ((hg449 b18 4 0 3 (qr440 _ _ (qS86 _ _ (qb82 _ _ hk65))) (by decide)).trans ((hg441 b18 4 0 3 (qS86 _ _ (qb82 _ _ hk65)) (by decide)).trans el79)) ((hg449 b18 4 0 4 (qr440 _ _ (qS86 _ _ (qb82 _ _ hk65))) (by decide)).trans ((hg441 b18 4 0 4 (qS86 _ _ (qb82 _ _ hk65)) (by decide)).trans el89)) ((hg449 b32 10 0 0 (qr440 _ _ (qS86 _ _ (qb82 _ _ hk70))) (by decide)).trans ((hg441 b32 10 0 0 (qS86 _ _ (qb82 _ _ hk70)) (by decide)).trans el99)) ((hg449 b36 13 0 1 (qr440 _ _ (qS86 _ _ (qb82 _ _ hs_y62))) (by decide)).trans ((hg441 b36 13 0 1 (qS86 _ _ (qb82 _ _ hs_y62)) (by decide)).trans el109)) ((hg449 b36 13 0 10 (qr440 _ _ (qS86 _ _ (qb82 _ _ hs_y62))) (by decide)).trans ((hg441 b36 13 0 10 (qS86 _ _ (qb82 _ _ hs_y62)) (by decide)).trans el119)) ((hg449 b36 13 0 13 (qr440 _ _ (qS86 _ _ (qb82 _ _ hs_y62))) (by decide)).trans ((hg441 b36 13 0 13 (qS86 _ _ (qb82 _ _ hs_y62)) (by decide)).trans el129)) ((hg449 b36 13 0 14 (qr440 _ _ (qS86 _ _ (qb82 _ _ hs_y62))) (by decide)).trans ((hg441 b36 13 0 14 (qS86 _ _ (qb82 _ _ hs_y62)) (by decide)).trans el139)) ((hg449 b36 13 0 12 (qr440 _ _ (qS86 _ _ (qb82 _ _ hs_y62))) (by decide)).trans ((hg441 b36 13 0 12 (qS86 _ _ (qb82 _ _ hs_y62)) (by decide)).trans el149)) ((hg449 b32 10 0 1 (qr440 _ _ (qS86 _ _ (qb82 _ _ hk70))) (by decide)).trans k447) k452 ((hg449 b1 12 0 12 (qr440 _ _ (qS86 _ _ (qb82 _ _ hk64))) (by decide)).trans ((hg441 b1 12 0 12 (qS86 _ _ (qb82 _ _ hk64)) (by decide)).trans ext9)) ((hg449 b36 13 0 3 (qr440 _ _ (qS86 _ _ (qb82 _ _ hs_y62))) (by decide)).trans ((hg441 b36 13 0 3 (qS86 _ _ (qb82 _ _ hs_y62)) (by decide)).trans emt9)) ((hg449 b33 5 0 3 (qr440 _ _ (qS86 _ _ (qb82 _ _ hk71))) (by decide)).trans ((hg441 b33 5 0 3 (qS86 _ _ (qb82 _ _ hk71)) (by decide)).trans exc9)) ((hg449 b36 13 0 69 (qr440 _ _ (qS86 _ _ (qb82 _ _ hs_y62))) (by decide)).trans ((hg441 b36 13 0 69 (qS86 _ _ (qb82 _ _ hs_y62)) (by decide)).trans emc9)) ((hg449 b35 0 0 2 (qr440 _ _ (qS86 _ _ (qb82 _ _ hk73))) (by decide)).trans ((hg441 b35 0 0 2 (qS86 _ _ (qb82 _ _ hk73)) (by decide)).trans exb9)) ((hg449 b36 13 0 16 (qr440 _ _ (qS86 _ _ (qb82 _ _ hs_y62))) (by decide)).trans ((hg441 b36 13 0 16 (qS86 _ _ (qb82 _ _ hs_y62)) (by decide)).trans emb9)) ((hg449 b1 12 0 16 (qr440 _ _ (qS86 _ _ (qb82 _ _ hk64))) (by decide)).trans ((hg441 b1 12 0 16 (qS86 _ _ (qb82 _ _ hk64)) (by decide)).trans exsh9)) ((hg449 b36 13 0 89 (qr440 _ _ (qS86 _ _ (qb82 _ _ hs_y62))) (by decide)).trans ((hg441 b36 13 0 89 (qS86 _ _ (qb82 _ _ hs_y62)) (by decide)).trans emsh9)) ((hg449 b1 12 0 17 (qr440 _ _ (qS86 _ _ (qb82 _ _ hk64))) (by decide)).trans ((hg441 b1 12 0 17 (qS86 _ _ (qb82 _ _ hk64)) (by decide)).trans exsp9)) ((hg449 b36 13 0 90 (qr440 _ _ (qS86 _ _ (qb82 _ _ hs_y62))) (by decide)).trans ((hg441 b36 13 0 90 (qS86 _ _ (qb82 _ _ hs_y62)) (by decide)).trans emsp9)) ((hg449 b36 13 0 17 (qr440 _ _ (qS86 _ _ (qb82 _ _ hs_y62))) (by decide)).trans ((hg441 b36 13 0 17 (qS86 _ _ (qb82 _ _ hs_y62)) (by decide)).trans emsm9)) (xWn.m (xWn.m wn9 (qS86 _ _ (qb82 _ _ hk69)) (qS86 _ _ (qb82 _ _ hk76)) hg441 qr440 (by decide)) (qr440 _ _ (qS86 _ _ (qb82 _ _ hk69))) (qr440 _ _ (qS86 _ _ (qb82 _ _ hk76))) hg449 xLe.rf (by decide)) (by rw [(Eq.trans (xv_m hg449 (qr440 _ _ (qS86 _ _ (qb82 _ _ hk67))) (by decide) (by decide)) (xv_m hg441 (qS86 _ _ (qb82 _ _ hk67)) (by decide) (by decide))), (Eq.trans (xv_m hg449 (qr440 _ _ (qS86 _ _ (qb82 _ _ hk74))) (by decide) (by decide)) (xv_m hg441 (qS86 _ _ (qb82 _ _ hk74)) (by decide) (by decide)))]; exact wt9) (by rw [(Eq.trans (xv_m hg449 (qr440 _ _ (qS86 _ _ (qb82 _ _ hk68))) (by decide) (by decide)) (xv_m hg441 (qS86 _ _ (qb82 _ _ hk68)) (by decide) (by decide))), (Eq.trans (xv_m hg449 (qr440 _ _ (qS86 _ _ (qb82 _ _ hk75))) (by decide) (by decide)) (xv_m hg441 (qS86 _ _ (qb82 _ _ hk75)) (by decide) (by decide)))]; exact ld9) (by rw [(Eq.trans (xv_m hg449 (qr440 _ _ (qS86 _ _ (qb82 _ _ hk66))) (by decide) (by decide)) (xv_m hg441 (qS86 _ _ (qb82 _ _ hk66)) (by decide) (by decide))), (Eq.trans (xv_m hg449 (qr440 _ _ (qS86 _ _ (qb82 _ _ hs_b81))) (by decide) (by decide)) (xv_m hg441 (qS86 _ _ (qb82 _ _ hs_b81)) (by decide) (by decide)))]; exact sk9) (by rw [(Eq.trans (xv_m hg449 (qr440 _ _ (qS86 _ _ (qb82 _ _ hs_b79))) (by decide) (by decide)) (xv_m hg441 (qS86 _ _ (qb82 _ _ hs_b79)) (by decide) (by decide))), (Eq.trans (xv_m hg449 (qr440 _ _ (qS86 _ _ (qb82 _ _ hs_b80))) (by decide) (by decide)) (xv_m hg441 (qS86 _ _ (qb82 _ _ hs_b80)) (by decide) (by decide)))]; exact xTc.mono tc9 (by omega)) (dc9 + dcr440) (ds9 + dsr440) (by omega) (by omega) (by omega)
        · refine X_tableIn hK 1192 26 (by decide) c91 (by decide) (by decide) dL_law_40 rfl (by decide) ?_
          refine X_aloadn hK (i := 1) 3 dL_law_1192 rfl rfl ?_
          refine X_callV hK [] [] lk_L_138 (c_X11_triedEaten _ _ _ _ _ S86 g87 b1 (qS86 _ _ (qb82 _ _ hk64))) (qS86 _ _ (qb82 _ _ hk64)) ⟨by decide, rfl⟩ dL_law_1193 rfl rfl (by simp [Value.category]) (by decide) (by omega) (by omega) (by decide) (fun r454 S456 g455 pr454 qr454 hg455 => ?_)
          obtain ⟨rfl, rfl, z457, rfl, lz457, uz457⟩ := pr454
          refine X_st [.int (iI z457)] rfl ?_
          refine X_pop hK dL_law_1196 rfl ?_
          refine X_aloadn hK (i := 2) 2 dL_law_1197 rfl rfl ?_
          refine X_callV hK [] [] lk_L_141 (c_X12_triedEaten _ _ _ _ _ S86 g87 b36 (qS86 _ _ (qb82 _ _ hs_y62))) (qS86 _ _ (qb82 _ _ hs_y62)) ⟨by decide, rfl⟩ dL_law_1198 rfl rfl (by simp [Value.category]) (by decide) (by omega) (by omega) (by decide) (fun r458 S460 g459 pr458 qr458 hg459 => ?_)
          obtain ⟨rfl, z461, rfl, lz461, uz461⟩ := pr458
          refine X_st [.int (iI z461)] rfl ?_
          refine X_pop hK dL_law_1201 rfl ?_
          refine X_goto hK 1465 dL_law_1202 (by decide) ?_
          refine X_iinc hK (i := 4) (z := i9) (n := 6) 0 [(4, .int (iI (i9 + 6))), (3, .ref b82), (2, .ref b36), (1, .ref b1), (0, .ref b)] dL_law_1465 rfl (by decide) rfl ?_
          refine X_goto hK 23 dL_law_1468 (by decide) ?_
          exact ih9 S86 qS86 g459 (i9 + 6) k9 t9 c9 b9 sh9 sp9 sm9 (by omega) (by omega) (by omega) (by omega) (by omega) (by omega) (by omega) (by omega) (xLs_mod al9 hg459 (by decide)) si9 (xPi_m pi9 hg459 xLe.rf (by decide)) (xMp_m mp9 hg459 xLe.rf (by decide)) (xTw_m tw9 hg459 xLe.rf (by decide)) ((hg459 b1 12 0 0 (qS86 _ _ (qb82 _ _ hk64)) (by decide)).trans el09) ((hg459 b1 12 0 3 (qS86 _ _ (qb82 _ _ hk64)) (by decide)).trans el19) ((hg459 b1 12 0 1 (qS86 _ _ (qb82 _ _ hk64)) (by decide)).trans el29) ((hg459 b34 6 0 1 (qS86 _ _ (qb82 _ _ hk72)) (by decide)).trans el39) ((hg459 b1 12 0 2 (qS86 _ _ (qb82 _ _ hk64)) (by decide)).trans el49) ((hg459 b18 4 0 0 (qS86 _ _ (qb82 _ _ hk65)) (by decide)).trans el59) ((hg459 b18 4 0 2 (qS86 _ _ (qb82 _ _ hk65)) (by decide)).trans el69) ((hg459 b18 4 0 3 (qS86 _ _ (qb82 _ _ hk65)) (by decide)).trans el79) ((hg459 b18 4 0 4 (qS86 _ _ (qb82 _ _ hk65)) (by decide)).trans el89) ((hg459 b32 10 0 0 (qS86 _ _ (qb82 _ _ hk70)) (by decide)).trans el99) ((hg459 b36 13 0 1 (qS86 _ _ (qb82 _ _ hs_y62)) (by decide)).trans el109) ((hg459 b36 13 0 10 (qS86 _ _ (qb82 _ _ hs_y62)) (by decide)).trans el119) ((hg459 b36 13 0 13 (qS86 _ _ (qb82 _ _ hs_y62)) (by decide)).trans el129) ((hg459 b36 13 0 14 (qS86 _ _ (qb82 _ _ hs_y62)) (by decide)).trans el139) ((hg459 b36 13 0 12 (qS86 _ _ (qb82 _ _ hs_y62)) (by decide)).trans el149) ((hg459 b32 10 0 1 (qS86 _ _ (qb82 _ _ hk70)) (by decide)).trans exk9) ((hg459 b36 13 0 2 (qS86 _ _ (qb82 _ _ hs_y62)) (by decide)).trans emk9) ((hg459 b1 12 0 12 (qS86 _ _ (qb82 _ _ hk64)) (by decide)).trans ext9) ((hg459 b36 13 0 3 (qS86 _ _ (qb82 _ _ hs_y62)) (by decide)).trans emt9) ((hg459 b33 5 0 3 (qS86 _ _ (qb82 _ _ hk71)) (by decide)).trans exc9) ((hg459 b36 13 0 69 (qS86 _ _ (qb82 _ _ hs_y62)) (by decide)).trans emc9) ((hg459 b35 0 0 2 (qS86 _ _ (qb82 _ _ hk73)) (by decide)).trans exb9) ((hg459 b36 13 0 16 (qS86 _ _ (qb82 _ _ hs_y62)) (by decide)).trans emb9) ((hg459 b1 12 0 16 (qS86 _ _ (qb82 _ _ hk64)) (by decide)).trans exsh9) ((hg459 b36 13 0 89 (qS86 _ _ (qb82 _ _ hs_y62)) (by decide)).trans emsh9) ((hg459 b1 12 0 17 (qS86 _ _ (qb82 _ _ hk64)) (by decide)).trans exsp9) ((hg459 b36 13 0 90 (qS86 _ _ (qb82 _ _ hs_y62)) (by decide)).trans emsp9) ((hg459 b36 13 0 17 (qS86 _ _ (qb82 _ _ hs_y62)) (by decide)).trans emsm9) (xWn.m wn9 (qS86 _ _ (qb82 _ _ hk69)) (qS86 _ _ (qb82 _ _ hk76)) hg459 xLe.rf (by decide)) (by rw [(xv_m hg459 (qS86 _ _ (qb82 _ _ hk67)) (by decide) (by decide)), (xv_m hg459 (qS86 _ _ (qb82 _ _ hk74)) (by decide) (by decide))]; exact wt9) (by rw [(xv_m hg459 (qS86 _ _ (qb82 _ _ hk68)) (by decide) (by decide)), (xv_m hg459 (qS86 _ _ (qb82 _ _ hk75)) (by decide) (by decide))]; exact ld9) (by rw [(xv_m hg459 (qS86 _ _ (qb82 _ _ hk66)) (by decide) (by decide)), (xv_m hg459 (qS86 _ _ (qb82 _ _ hs_b81)) (by decide) (by decide))]; exact sk9) (by rw [(xv_m hg459 (qS86 _ _ (qb82 _ _ hs_b79)) (by decide) (by decide)), (xv_m hg459 (qS86 _ _ (qb82 _ _ hs_b80)) (by decide) (by decide))]; exact xTc.mono tc9 (by omega)) dc9 ds9 (by omega) (by omega) (by omega)
        · refine X_tableIn hK 1205 27 (by decide) c91 (by decide) (by decide) dL_law_40 rfl (by decide) ?_
          refine X_aloadn hK (i := 1) 3 dL_law_1205 rfl rfl ?_
          refine X_aloadn hK (i := 0) 4 dL_law_1206 rfl rfl ?_
          refine X_iload hK (i := 4) 0 dL_law_1207 rfl ?_
          refine X_iconst hK dL_law_1209 ?_
          refine X_iadd hK dL_law_1210 ?_
          refine X_scr hK hX hbl hbA hL (by omega) (by omega) dL_law_1211 (fun z462 ez462 lz462 uz462 => ?_)
          refine X_aloadn hK (i := 0) 4 dL_law_1212 rfl rfl ?_
          refine X_iload hK (i := 4) 0 dL_law_1213 rfl ?_
          refine X_iconst hK dL_law_1215 ?_
          refine X_iadd hK dL_law_1216 ?_
          refine X_scr hK hX hbl hbA hL (by omega) (by omega) dL_law_1217 (fun z463 ez463 lz463 uz463 => ?_)
          refine X_aloadn hK (i := 0) 4 dL_law_1218 rfl rfl ?_
          refine X_iload hK (i := 4) 0 dL_law_1219 rfl ?_
          refine X_iconst hK dL_law_1221 ?_
          refine X_iadd hK dL_law_1222 ?_
          refine X_scr hK hX hbl hbA hL (by omega) (by omega) dL_law_1223 (fun z464 ez464 lz464 uz464 => ?_)
          refine X_callV hK [.int (iI z462), .int (iI z463), .int (iI z464)] [] lk_L_142 (c_X11_parted _ _ _ _ _ S86 g87 b1 z462 z463 z464 b32 k9 (qS86 _ _ (qb82 _ _ hk64)) (by omega) (by omega) (by omega) el09 (qS86 _ _ (qb82 _ _ hk70)) (by omega) exk9 pi9) (qS86 _ _ (qb82 _ _ hk64)) ⟨by decide, rfl⟩ dL_law_1224 rfl rfl (by simp [Value.category]) (by decide) (by omega) (by omega) (by decide) (fun r465 S467 g466 pr465 qr465 hg466 => ?_)
          obtain ⟨rfl, z468, rfl, lz468, uz468, k469, k470⟩ := pr465
          refine X_st [.int (iI z468)] rfl ?_
          refine X_pop hK dL_law_1227 rfl ?_
          refine X_aloadn hK (i := 2) 2 dL_law_1228 rfl rfl ?_
          refine X_aloadn hK (i := 0) 4 dL_law_1229 rfl rfl ?_
          refine X_iload hK (i := 4) 0 dL_law_1230 rfl ?_
          refine X_iconst hK dL_law_1232 ?_
          refine X_iadd hK dL_law_1233 ?_
          refine X_scrK hK hX hbl hbA hL (by omega) (by omega) ez462 dL_law_1234 ?_
          refine X_aloadn hK (i := 0) 4 dL_law_1235 rfl rfl ?_
          refine X_iload hK (i := 4) 0 dL_law_1236 rfl ?_
          refine X_iconst hK dL_law_1238 ?_
          refine X_iadd hK dL_law_1239 ?_
          refine X_scrK hK hX hbl hbA hL (by omega) (by omega) ez463 dL_law_1240 ?_
          refine X_aloadn hK (i := 0) 4 dL_law_1241 rfl rfl ?_
          refine X_iload hK (i := 4) 0 dL_law_1242 rfl ?_
          refine X_iconst hK dL_law_1244 ?_
          refine X_iadd hK dL_law_1245 ?_
          refine X_scrK hK hX hbl hbA hL (by omega) (by omega) ez464 dL_law_1246 ?_
          refine X_callV hK [.int (iI z462), .int (iI z463), .int (iI z464)] [] lk_L_146 (c_X12_parted _ _ _ _ _ S86 g466 b36 z462 z463 z464 k9 (qS86 _ _ (qb82 _ _ hs_y62)) (by omega) (by omega) (by omega) (by omega) ((hg466 b36 13 0 2 (qS86 _ _ (qb82 _ _ hs_y62)) (by decide)).trans emk9) (xMp_m mp9 hg466 xLe.rf (by decide))) (qS86 _ _ (qb82 _ _ hs_y62)) ⟨by decide, rfl⟩ dL_law_1247 rfl rfl (by simp [Value.category]) (by decide) (by omega) (by omega) (by decide) (fun r471 S473 g472 pr471 qr471 hg472 => ?_)
          obtain ⟨rfl, z474, rfl, lz474, uz474, k475, k476⟩ := pr471
          refine X_st [.int (iI z474)] rfl ?_
          refine X_pop hK dL_law_1250 rfl ?_
          refine X_goto hK 1465 dL_law_1251 (by decide) ?_
          refine X_iinc hK (i := 4) (z := i9) (n := 6) 0 [(4, .int (iI (i9 + 6))), (3, .ref b82), (2, .ref b36), (1, .ref b1), (0, .ref b)] dL_law_1465 rfl (by decide) rfl ?_
          refine X_goto hK 23 dL_law_1468 (by decide) ?_
          exact ih9 S86 qS86 g472 (i9 + 6) (0) t9 c9 b9 sh9 sp9 sm9 (by omega) (by omega) (by omega) (by omega) (by omega) (by omega) (by omega) (by omega) (xLs_mod (xLs_mod al9 hg466 (by decide)) hg472 (by decide)) si9 (xPi_m k470 hg472 xLe.rf (by decide)) k476 (xTw_m (xTw_m tw9 hg466 xLe.rf (by decide)) hg472 xLe.rf (by decide)) ((hg472 b1 12 0 0 (qS86 _ _ (qb82 _ _ hk64)) (by decide)).trans ((hg466 b1 12 0 0 (qS86 _ _ (qb82 _ _ hk64)) (by decide)).trans el09)) ((hg472 b1 12 0 3 (qS86 _ _ (qb82 _ _ hk64)) (by decide)).trans ((hg466 b1 12 0 3 (qS86 _ _ (qb82 _ _ hk64)) (by decide)).trans el19)) ((hg472 b1 12 0 1 (qS86 _ _ (qb82 _ _ hk64)) (by decide)).trans ((hg466 b1 12 0 1 (qS86 _ _ (qb82 _ _ hk64)) (by decide)).trans el29)) ((hg472 b34 6 0 1 (qS86 _ _ (qb82 _ _ hk72)) (by decide)).trans ((hg466 b34 6 0 1 (qS86 _ _ (qb82 _ _ hk72)) (by decide)).trans el39)) ((hg472 b1 12 0 2 (qS86 _ _ (qb82 _ _ hk64)) (by decide)).trans ((hg466 b1 12 0 2 (qS86 _ _ (qb82 _ _ hk64)) (by decide)).trans el49)) ((hg472 b18 4 0 0 (qS86 _ _ (qb82 _ _ hk65)) (by decide)).trans ((hg466 b18 4 0 0 (qS86 _ _ (qb82 _ _ hk65)) (by decide)).trans el59)) ((hg472 b18 4 0 2 (qS86 _ _ (qb82 _ _ hk65)) (by decide)).trans ((hg466 b18 4 0 2 (qS86 _ _ (qb82 _ _ hk65)) (by decide)).trans el69)) ((hg472 b18 4 0 3 (qS86 _ _ (qb82 _ _ hk65)) (by decide)).trans ((hg466 b18 4 0 3 (qS86 _ _ (qb82 _ _ hk65)) (by decide)).trans el79)) ((hg472 b18 4 0 4 (qS86 _ _ (qb82 _ _ hk65)) (by decide)).trans ((hg466 b18 4 0 4 (qS86 _ _ (qb82 _ _ hk65)) (by decide)).trans el89)) ((hg472 b32 10 0 0 (qS86 _ _ (qb82 _ _ hk70)) (by decide)).trans ((hg466 b32 10 0 0 (qS86 _ _ (qb82 _ _ hk70)) (by decide)).trans el99)) ((hg472 b36 13 0 1 (qS86 _ _ (qb82 _ _ hs_y62)) (by decide)).trans ((hg466 b36 13 0 1 (qS86 _ _ (qb82 _ _ hs_y62)) (by decide)).trans el109)) ((hg472 b36 13 0 10 (qS86 _ _ (qb82 _ _ hs_y62)) (by decide)).trans ((hg466 b36 13 0 10 (qS86 _ _ (qb82 _ _ hs_y62)) (by decide)).trans el119)) ((hg472 b36 13 0 13 (qS86 _ _ (qb82 _ _ hs_y62)) (by decide)).trans ((hg466 b36 13 0 13 (qS86 _ _ (qb82 _ _ hs_y62)) (by decide)).trans el129)) ((hg472 b36 13 0 14 (qS86 _ _ (qb82 _ _ hs_y62)) (by decide)).trans ((hg466 b36 13 0 14 (qS86 _ _ (qb82 _ _ hs_y62)) (by decide)).trans el139)) ((hg472 b36 13 0 12 (qS86 _ _ (qb82 _ _ hs_y62)) (by decide)).trans ((hg466 b36 13 0 12 (qS86 _ _ (qb82 _ _ hs_y62)) (by decide)).trans el149)) ((hg472 b32 10 0 1 (qS86 _ _ (qb82 _ _ hk70)) (by decide)).trans k469) k475 ((hg472 b1 12 0 12 (qS86 _ _ (qb82 _ _ hk64)) (by decide)).trans ((hg466 b1 12 0 12 (qS86 _ _ (qb82 _ _ hk64)) (by decide)).trans ext9)) ((hg472 b36 13 0 3 (qS86 _ _ (qb82 _ _ hs_y62)) (by decide)).trans ((hg466 b36 13 0 3 (qS86 _ _ (qb82 _ _ hs_y62)) (by decide)).trans emt9)) ((hg472 b33 5 0 3 (qS86 _ _ (qb82 _ _ hk71)) (by decide)).trans ((hg466 b33 5 0 3 (qS86 _ _ (qb82 _ _ hk71)) (by decide)).trans exc9)) ((hg472 b36 13 0 69 (qS86 _ _ (qb82 _ _ hs_y62)) (by decide)).trans ((hg466 b36 13 0 69 (qS86 _ _ (qb82 _ _ hs_y62)) (by decide)).trans emc9)) ((hg472 b35 0 0 2 (qS86 _ _ (qb82 _ _ hk73)) (by decide)).trans ((hg466 b35 0 0 2 (qS86 _ _ (qb82 _ _ hk73)) (by decide)).trans exb9)) ((hg472 b36 13 0 16 (qS86 _ _ (qb82 _ _ hs_y62)) (by decide)).trans ((hg466 b36 13 0 16 (qS86 _ _ (qb82 _ _ hs_y62)) (by decide)).trans emb9)) ((hg472 b1 12 0 16 (qS86 _ _ (qb82 _ _ hk64)) (by decide)).trans ((hg466 b1 12 0 16 (qS86 _ _ (qb82 _ _ hk64)) (by decide)).trans exsh9)) ((hg472 b36 13 0 89 (qS86 _ _ (qb82 _ _ hs_y62)) (by decide)).trans ((hg466 b36 13 0 89 (qS86 _ _ (qb82 _ _ hs_y62)) (by decide)).trans emsh9)) ((hg472 b1 12 0 17 (qS86 _ _ (qb82 _ _ hk64)) (by decide)).trans ((hg466 b1 12 0 17 (qS86 _ _ (qb82 _ _ hk64)) (by decide)).trans exsp9)) ((hg472 b36 13 0 90 (qS86 _ _ (qb82 _ _ hs_y62)) (by decide)).trans ((hg466 b36 13 0 90 (qS86 _ _ (qb82 _ _ hs_y62)) (by decide)).trans emsp9)) ((hg472 b36 13 0 17 (qS86 _ _ (qb82 _ _ hs_y62)) (by decide)).trans ((hg466 b36 13 0 17 (qS86 _ _ (qb82 _ _ hs_y62)) (by decide)).trans emsm9)) (xWn.m (xWn.m wn9 (qS86 _ _ (qb82 _ _ hk69)) (qS86 _ _ (qb82 _ _ hk76)) hg466 xLe.rf (by decide)) (qS86 _ _ (qb82 _ _ hk69)) (qS86 _ _ (qb82 _ _ hk76)) hg472 xLe.rf (by decide)) (by rw [(Eq.trans (xv_m hg472 (qS86 _ _ (qb82 _ _ hk67)) (by decide) (by decide)) (xv_m hg466 (qS86 _ _ (qb82 _ _ hk67)) (by decide) (by decide))), (Eq.trans (xv_m hg472 (qS86 _ _ (qb82 _ _ hk74)) (by decide) (by decide)) (xv_m hg466 (qS86 _ _ (qb82 _ _ hk74)) (by decide) (by decide)))]; exact wt9) (by rw [(Eq.trans (xv_m hg472 (qS86 _ _ (qb82 _ _ hk68)) (by decide) (by decide)) (xv_m hg466 (qS86 _ _ (qb82 _ _ hk68)) (by decide) (by decide))), (Eq.trans (xv_m hg472 (qS86 _ _ (qb82 _ _ hk75)) (by decide) (by decide)) (xv_m hg466 (qS86 _ _ (qb82 _ _ hk75)) (by decide) (by decide)))]; exact ld9) (by rw [(Eq.trans (xv_m hg472 (qS86 _ _ (qb82 _ _ hk66)) (by decide) (by decide)) (xv_m hg466 (qS86 _ _ (qb82 _ _ hk66)) (by decide) (by decide))), (Eq.trans (xv_m hg472 (qS86 _ _ (qb82 _ _ hs_b81)) (by decide) (by decide)) (xv_m hg466 (qS86 _ _ (qb82 _ _ hs_b81)) (by decide) (by decide)))]; exact sk9) (by rw [(Eq.trans (xv_m hg472 (qS86 _ _ (qb82 _ _ hs_b79)) (by decide) (by decide)) (xv_m hg466 (qS86 _ _ (qb82 _ _ hs_b79)) (by decide) (by decide))), (Eq.trans (xv_m hg472 (qS86 _ _ (qb82 _ _ hs_b80)) (by decide) (by decide)) (xv_m hg466 (qS86 _ _ (qb82 _ _ hs_b80)) (by decide) (by decide)))]; exact xTc.mono tc9 (by omega)) dc9 ds9 (by omega) (by omega) (by omega)
        · refine X_tableIn hK 1254 28 (by decide) c91 (by decide) (by decide) dL_law_40 rfl (by decide) ?_
          refine X_aloadn hK (i := 1) 3 dL_law_1254 rfl rfl ?_
          refine X_aloadn hK (i := 0) 4 dL_law_1255 rfl rfl ?_
          refine X_iload hK (i := 4) 0 dL_law_1256 rfl ?_
          refine X_iconst hK dL_law_1258 ?_
          refine X_iadd hK dL_law_1259 ?_
          refine X_scr hK hX hbl hbA hL (by omega) (by omega) dL_law_1260 (fun z477 ez477 lz477 uz477 => ?_)
          refine X_callV hK [.int (iI z477)] [] lk_L_147 (c_X11_partedAt _ _ _ _ _ S86 g87 b1 z477 (qS86 _ _ (qb82 _ _ hk64)) (by omega)) (qS86 _ _ (qb82 _ _ hk64)) ⟨by decide, rfl⟩ dL_law_1261 rfl rfl (by simp [Value.category]) (by decide) (by omega) (by omega) (by decide) (fun r478 S480 g479 pr478 qr478 hg479 => ?_)
          obtain ⟨rfl, rfl, z481, rfl, lz481, uz481⟩ := pr478
          refine X_st [.int (iI z481)] rfl ?_
          refine X_pop hK dL_law_1264 rfl ?_
          refine X_aloadn hK (i := 2) 2 dL_law_1265 rfl rfl ?_
          refine X_aloadn hK (i := 0) 4 dL_law_1266 rfl rfl ?_
          refine X_iload hK (i := 4) 0 dL_law_1267 rfl ?_
          refine X_iconst hK dL_law_1269 ?_
          refine X_iadd hK dL_law_1270 ?_
          refine X_scrK hK hX hbl hbA hL (by omega) (by omega) ez477 dL_law_1271 ?_
          refine X_callV hK [.int (iI z477)] [] lk_L_150 (c_X12_partedAt _ _ _ _ _ S86 g87 b36 z477 (qS86 _ _ (qb82 _ _ hs_y62)) (by omega)) (qS86 _ _ (qb82 _ _ hs_y62)) ⟨by decide, rfl⟩ dL_law_1272 rfl rfl (by simp [Value.category]) (by decide) (by omega) (by omega) (by decide) (fun r482 S484 g483 pr482 qr482 hg483 => ?_)
          obtain ⟨rfl, z485, rfl, lz485, uz485⟩ := pr482
          refine X_st [.int (iI z485)] rfl ?_
          refine X_pop hK dL_law_1275 rfl ?_
          refine X_goto hK 1465 dL_law_1276 (by decide) ?_
          refine X_iinc hK (i := 4) (z := i9) (n := 6) 0 [(4, .int (iI (i9 + 6))), (3, .ref b82), (2, .ref b36), (1, .ref b1), (0, .ref b)] dL_law_1465 rfl (by decide) rfl ?_
          refine X_goto hK 23 dL_law_1468 (by decide) ?_
          exact ih9 S86 qS86 g483 (i9 + 6) k9 t9 c9 b9 sh9 sp9 sm9 (by omega) (by omega) (by omega) (by omega) (by omega) (by omega) (by omega) (by omega) (xLs_mod al9 hg483 (by decide)) si9 (xPi_m pi9 hg483 xLe.rf (by decide)) (xMp_m mp9 hg483 xLe.rf (by decide)) (xTw_m tw9 hg483 xLe.rf (by decide)) ((hg483 b1 12 0 0 (qS86 _ _ (qb82 _ _ hk64)) (by decide)).trans el09) ((hg483 b1 12 0 3 (qS86 _ _ (qb82 _ _ hk64)) (by decide)).trans el19) ((hg483 b1 12 0 1 (qS86 _ _ (qb82 _ _ hk64)) (by decide)).trans el29) ((hg483 b34 6 0 1 (qS86 _ _ (qb82 _ _ hk72)) (by decide)).trans el39) ((hg483 b1 12 0 2 (qS86 _ _ (qb82 _ _ hk64)) (by decide)).trans el49) ((hg483 b18 4 0 0 (qS86 _ _ (qb82 _ _ hk65)) (by decide)).trans el59) ((hg483 b18 4 0 2 (qS86 _ _ (qb82 _ _ hk65)) (by decide)).trans el69) ((hg483 b18 4 0 3 (qS86 _ _ (qb82 _ _ hk65)) (by decide)).trans el79) ((hg483 b18 4 0 4 (qS86 _ _ (qb82 _ _ hk65)) (by decide)).trans el89) ((hg483 b32 10 0 0 (qS86 _ _ (qb82 _ _ hk70)) (by decide)).trans el99) ((hg483 b36 13 0 1 (qS86 _ _ (qb82 _ _ hs_y62)) (by decide)).trans el109) ((hg483 b36 13 0 10 (qS86 _ _ (qb82 _ _ hs_y62)) (by decide)).trans el119) ((hg483 b36 13 0 13 (qS86 _ _ (qb82 _ _ hs_y62)) (by decide)).trans el129) ((hg483 b36 13 0 14 (qS86 _ _ (qb82 _ _ hs_y62)) (by decide)).trans el139) ((hg483 b36 13 0 12 (qS86 _ _ (qb82 _ _ hs_y62)) (by decide)).trans el149) ((hg483 b32 10 0 1 (qS86 _ _ (qb82 _ _ hk70)) (by decide)).trans exk9) ((hg483 b36 13 0 2 (qS86 _ _ (qb82 _ _ hs_y62)) (by decide)).trans emk9) ((hg483 b1 12 0 12 (qS86 _ _ (qb82 _ _ hk64)) (by decide)).trans ext9) ((hg483 b36 13 0 3 (qS86 _ _ (qb82 _ _ hs_y62)) (by decide)).trans emt9) ((hg483 b33 5 0 3 (qS86 _ _ (qb82 _ _ hk71)) (by decide)).trans exc9) ((hg483 b36 13 0 69 (qS86 _ _ (qb82 _ _ hs_y62)) (by decide)).trans emc9) ((hg483 b35 0 0 2 (qS86 _ _ (qb82 _ _ hk73)) (by decide)).trans exb9) ((hg483 b36 13 0 16 (qS86 _ _ (qb82 _ _ hs_y62)) (by decide)).trans emb9) ((hg483 b1 12 0 16 (qS86 _ _ (qb82 _ _ hk64)) (by decide)).trans exsh9) ((hg483 b36 13 0 89 (qS86 _ _ (qb82 _ _ hs_y62)) (by decide)).trans emsh9) ((hg483 b1 12 0 17 (qS86 _ _ (qb82 _ _ hk64)) (by decide)).trans exsp9) ((hg483 b36 13 0 90 (qS86 _ _ (qb82 _ _ hs_y62)) (by decide)).trans emsp9) ((hg483 b36 13 0 17 (qS86 _ _ (qb82 _ _ hs_y62)) (by decide)).trans emsm9) (xWn.m wn9 (qS86 _ _ (qb82 _ _ hk69)) (qS86 _ _ (qb82 _ _ hk76)) hg483 xLe.rf (by decide)) (by rw [(xv_m hg483 (qS86 _ _ (qb82 _ _ hk67)) (by decide) (by decide)), (xv_m hg483 (qS86 _ _ (qb82 _ _ hk74)) (by decide) (by decide))]; exact wt9) (by rw [(xv_m hg483 (qS86 _ _ (qb82 _ _ hk68)) (by decide) (by decide)), (xv_m hg483 (qS86 _ _ (qb82 _ _ hk75)) (by decide) (by decide))]; exact ld9) (by rw [(xv_m hg483 (qS86 _ _ (qb82 _ _ hk66)) (by decide) (by decide)), (xv_m hg483 (qS86 _ _ (qb82 _ _ hs_b81)) (by decide) (by decide))]; exact sk9) (by rw [(xv_m hg483 (qS86 _ _ (qb82 _ _ hs_b79)) (by decide) (by decide)), (xv_m hg483 (qS86 _ _ (qb82 _ _ hs_b80)) (by decide) (by decide))]; exact xTc.mono tc9 (by omega)) dc9 ds9 (by omega) (by omega) (by omega)
        · refine X_tableIn hK 1279 29 (by decide) c91 (by decide) (by decide) dL_law_40 rfl (by decide) ?_
          refine X_aloadn hK (i := 1) 3 dL_law_1279 rfl rfl ?_
          refine X_aloadn hK (i := 0) 4 dL_law_1280 rfl rfl ?_
          refine X_iload hK (i := 4) 0 dL_law_1281 rfl ?_
          refine X_iconst hK dL_law_1283 ?_
          refine X_iadd hK dL_law_1284 ?_
          refine X_scr hK hX hbl hbA hL (by omega) (by omega) dL_law_1285 (fun z486 ez486 lz486 uz486 => ?_)
          refine X_callV hK [.int (iI z486)] [] lk_L_151 (c_X11_peace _ _ _ _ _ S86 g87 b1 z486 (qS86 _ _ (qb82 _ _ hk64)) (by omega) pi9) (qS86 _ _ (qb82 _ _ hk64)) ⟨by decide, rfl⟩ dL_law_1286 rfl rfl (by simp [Value.category]) (by decide) (by omega) (by omega) (by decide) (fun r487 S489 g488 pr487 qr487 hg488 => ?_)
          obtain ⟨rfl, rfl, z490, rfl, lz490, uz490⟩ := pr487
          refine X_st [.int (iI z490)] rfl ?_
          refine X_pop hK dL_law_1289 rfl ?_
          refine X_aloadn hK (i := 2) 2 dL_law_1290 rfl rfl ?_
          refine X_aloadn hK (i := 0) 4 dL_law_1291 rfl rfl ?_
          refine X_iload hK (i := 4) 0 dL_law_1292 rfl ?_
          refine X_iconst hK dL_law_1294 ?_
          refine X_iadd hK dL_law_1295 ?_
          refine X_scrK hK hX hbl hbA hL (by omega) (by omega) ez486 dL_law_1296 ?_
          refine X_callV hK [.int (iI z486)] [] lk_L_154 (c_X12_peace _ _ _ _ _ S86 g87 b36 z486 (qS86 _ _ (qb82 _ _ hs_y62)) (by omega) mp9) (qS86 _ _ (qb82 _ _ hs_y62)) ⟨by decide, rfl⟩ dL_law_1297 rfl rfl (by simp [Value.category]) (by decide) (by omega) (by omega) (by decide) (fun r491 S493 g492 pr491 qr491 hg492 => ?_)
          obtain ⟨rfl, z494, rfl, lz494, uz494⟩ := pr491
          refine X_st [.int (iI z494)] rfl ?_
          refine X_pop hK dL_law_1300 rfl ?_
          refine X_goto hK 1465 dL_law_1301 (by decide) ?_
          refine X_iinc hK (i := 4) (z := i9) (n := 6) 0 [(4, .int (iI (i9 + 6))), (3, .ref b82), (2, .ref b36), (1, .ref b1), (0, .ref b)] dL_law_1465 rfl (by decide) rfl ?_
          refine X_goto hK 23 dL_law_1468 (by decide) ?_
          exact ih9 S86 qS86 g492 (i9 + 6) k9 t9 c9 b9 sh9 sp9 sm9 (by omega) (by omega) (by omega) (by omega) (by omega) (by omega) (by omega) (by omega) (xLs_mod al9 hg492 (by decide)) si9 (xPi_m pi9 hg492 xLe.rf (by decide)) (xMp_m mp9 hg492 xLe.rf (by decide)) (xTw_m tw9 hg492 xLe.rf (by decide)) ((hg492 b1 12 0 0 (qS86 _ _ (qb82 _ _ hk64)) (by decide)).trans el09) ((hg492 b1 12 0 3 (qS86 _ _ (qb82 _ _ hk64)) (by decide)).trans el19) ((hg492 b1 12 0 1 (qS86 _ _ (qb82 _ _ hk64)) (by decide)).trans el29) ((hg492 b34 6 0 1 (qS86 _ _ (qb82 _ _ hk72)) (by decide)).trans el39) ((hg492 b1 12 0 2 (qS86 _ _ (qb82 _ _ hk64)) (by decide)).trans el49) ((hg492 b18 4 0 0 (qS86 _ _ (qb82 _ _ hk65)) (by decide)).trans el59) ((hg492 b18 4 0 2 (qS86 _ _ (qb82 _ _ hk65)) (by decide)).trans el69) ((hg492 b18 4 0 3 (qS86 _ _ (qb82 _ _ hk65)) (by decide)).trans el79) ((hg492 b18 4 0 4 (qS86 _ _ (qb82 _ _ hk65)) (by decide)).trans el89) ((hg492 b32 10 0 0 (qS86 _ _ (qb82 _ _ hk70)) (by decide)).trans el99) ((hg492 b36 13 0 1 (qS86 _ _ (qb82 _ _ hs_y62)) (by decide)).trans el109) ((hg492 b36 13 0 10 (qS86 _ _ (qb82 _ _ hs_y62)) (by decide)).trans el119) ((hg492 b36 13 0 13 (qS86 _ _ (qb82 _ _ hs_y62)) (by decide)).trans el129) ((hg492 b36 13 0 14 (qS86 _ _ (qb82 _ _ hs_y62)) (by decide)).trans el139) ((hg492 b36 13 0 12 (qS86 _ _ (qb82 _ _ hs_y62)) (by decide)).trans el149) ((hg492 b32 10 0 1 (qS86 _ _ (qb82 _ _ hk70)) (by decide)).trans exk9) ((hg492 b36 13 0 2 (qS86 _ _ (qb82 _ _ hs_y62)) (by decide)).trans emk9) ((hg492 b1 12 0 12 (qS86 _ _ (qb82 _ _ hk64)) (by decide)).trans ext9) ((hg492 b36 13 0 3 (qS86 _ _ (qb82 _ _ hs_y62)) (by decide)).trans emt9) ((hg492 b33 5 0 3 (qS86 _ _ (qb82 _ _ hk71)) (by decide)).trans exc9) ((hg492 b36 13 0 69 (qS86 _ _ (qb82 _ _ hs_y62)) (by decide)).trans emc9) ((hg492 b35 0 0 2 (qS86 _ _ (qb82 _ _ hk73)) (by decide)).trans exb9) ((hg492 b36 13 0 16 (qS86 _ _ (qb82 _ _ hs_y62)) (by decide)).trans emb9) ((hg492 b1 12 0 16 (qS86 _ _ (qb82 _ _ hk64)) (by decide)).trans exsh9) ((hg492 b36 13 0 89 (qS86 _ _ (qb82 _ _ hs_y62)) (by decide)).trans emsh9) ((hg492 b1 12 0 17 (qS86 _ _ (qb82 _ _ hk64)) (by decide)).trans exsp9) ((hg492 b36 13 0 90 (qS86 _ _ (qb82 _ _ hs_y62)) (by decide)).trans emsp9) ((hg492 b36 13 0 17 (qS86 _ _ (qb82 _ _ hs_y62)) (by decide)).trans emsm9) (xWn.m wn9 (qS86 _ _ (qb82 _ _ hk69)) (qS86 _ _ (qb82 _ _ hk76)) hg492 xLe.rf (by decide)) (by rw [(xv_m hg492 (qS86 _ _ (qb82 _ _ hk67)) (by decide) (by decide)), (xv_m hg492 (qS86 _ _ (qb82 _ _ hk74)) (by decide) (by decide))]; exact wt9) (by rw [(xv_m hg492 (qS86 _ _ (qb82 _ _ hk68)) (by decide) (by decide)), (xv_m hg492 (qS86 _ _ (qb82 _ _ hk75)) (by decide) (by decide))]; exact ld9) (by rw [(xv_m hg492 (qS86 _ _ (qb82 _ _ hk66)) (by decide) (by decide)), (xv_m hg492 (qS86 _ _ (qb82 _ _ hs_b81)) (by decide) (by decide))]; exact sk9) (by rw [(xv_m hg492 (qS86 _ _ (qb82 _ _ hs_b79)) (by decide) (by decide)), (xv_m hg492 (qS86 _ _ (qb82 _ _ hs_b80)) (by decide) (by decide))]; exact xTc.mono tc9 (by omega)) dc9 ds9 (by omega) (by omega) (by omega)
        · refine X_tableIn hK 1304 30 (by decide) c91 (by decide) (by decide) dL_law_40 rfl (by decide) ?_
          refine X_aloadn hK (i := 1) 3 dL_law_1304 rfl rfl ?_
          refine X_callVU hK [] [] lk_L_155 (c_X11_truck _ _ _ _ _ S86 g87 b1 b32 k9 (qS86 _ _ (qb82 _ _ hk64)) el09 (qS86 _ _ (qb82 _ _ hk70)) (by omega) exk9 si9) (qS86 _ _ (qb82 _ _ hk64)) ⟨by decide, rfl⟩ dL_law_1305 rfl rfl (by simp [Value.category]) (by decide) (by omega) (by omega) (by decide) (fun r495 S497 g496 dcr495 dsr495 pr495 qr495 hg496 => ?_)
          obtain ⟨wr495, z498, rfl, lz498, uz498, k499, k500, k501⟩ := pr495
          have A502 : xLs S497 g496 := xLs_al al9 hg496 (by decide) qr495 wr495 (by decide)
          refine X_st [.int (iI z498)] rfl ?_
          refine X_pop hK dL_law_1308 rfl ?_
          refine X_aloadn hK (i := 2) 2 dL_law_1309 rfl rfl ?_
          refine X_knowr 19100 10 (qr495 _ _ (qS86 _ _ (qb82 _ _ hs_y62))) (by decide) sl_13_85 (fun b503 eb503 hs_b503 => ?_)
          refine X_callV hK [] [] lk_L_158 (c_X12_truck _ _ _ _ _ S497 g496 b36 k9 b503 (qr495 _ _ (qS86 _ _ (qb82 _ _ hs_y62))) (by omega) ((hg496 b36 13 0 2 (qS86 _ _ (qb82 _ _ hs_y62)) (by decide)).trans emk9) eb503 hs_b503) (qr495 _ _ (qS86 _ _ (qb82 _ _ hs_y62))) ⟨by decide, rfl⟩ dL_law_1310 rfl rfl (by simp [Value.category]) (by decide) (by omega) (by omega) (by decide) (fun r504 S506 g505 pr504 qr504 hg505 => ?_)
          obtain ⟨rfl, z507, rfl, lz507, uz507, k508⟩ := pr504
          refine X_st [.int (iI z507)] rfl ?_
          refine X_pop hK dL_law_1313 rfl ?_
          refine X_goto hK 1465 dL_law_1314 (by decide) ?_
          refine X_iinc hK (i := 4) (z := i9) (n := 6) 0 [(4, .int (iI (i9 + 6))), (3, .ref b82), (2, .ref b36), (1, .ref b1), (0, .ref b)] dL_law_1465 rfl (by decide) rfl ?_
          refine X_goto hK 23 dL_law_1468 (by decide) ?_
          exact ih9 S497 (xLe.tr qS86 qr495) g505 (i9 + 6) (0) t9 c9 b9 sh9 sp9 sm9 (by omega) (by omega) (by omega) (by omega) (by omega) (by omega) (by omega) (by omega) (xLs_mod A502 hg505 (by decide)) k499 (xPi_m (xPi_m pi9 hg496 qr495 (by decide)) hg505 xLe.rf (by decide)) (xMp_m (xMp_m mp9 hg496 qr495 (by decide)) hg505 xLe.rf (by decide)) (xTw_m (xTw_m tw9 hg496 qr495 (by decide)) hg505 xLe.rf (by decide)) ((hg505 b1 12 0 0 (qr495 _ _ (qS86 _ _ (qb82 _ _ hk64))) (by decide)).trans ((hg496 b1 12 0 0 (qS86 _ _ (qb82 _ _ hk64)) (by decide)).trans el09)) ((hg505 b1 12 0 3 (qr495 _ _ (qS86 _ _ (qb82 _ _ hk64))) (by decide)).trans ((hg496 b1 12 0 3 (qS86 _ _ (qb82 _ _ hk64)) (by decide)).trans el19)) ((hg505 b1 12 0 1 (qr495 _ _ (qS86 _ _ (qb82 _ _ hk64))) (by decide)).trans ((hg496 b1 12 0 1 (qS86 _ _ (qb82 _ _ hk64)) (by decide)).trans el29)) ((hg505 b34 6 0 1 (qr495 _ _ (qS86 _ _ (qb82 _ _ hk72))) (by decide)).trans ((hg496 b34 6 0 1 (qS86 _ _ (qb82 _ _ hk72)) (by decide)).trans el39)) ((hg505 b1 12 0 2 (qr495 _ _ (qS86 _ _ (qb82 _ _ hk64))) (by decide)).trans ((hg496 b1 12 0 2 (qS86 _ _ (qb82 _ _ hk64)) (by decide)).trans el49)) ((hg505 b18 4 0 0 (qr495 _ _ (qS86 _ _ (qb82 _ _ hk65))) (by decide)).trans ((hg496 b18 4 0 0 (qS86 _ _ (qb82 _ _ hk65)) (by decide)).trans el59)) ((hg505 b18 4 0 2 (qr495 _ _ (qS86 _ _ (qb82 _ _ hk65))) (by decide)).trans ((hg496 b18 4 0 2 (qS86 _ _ (qb82 _ _ hk65)) (by decide)).trans el69)) ((hg505 b18 4 0 3 (qr495 _ _ (qS86 _ _ (qb82 _ _ hk65))) (by decide)).trans ((hg496 b18 4 0 3 (qS86 _ _ (qb82 _ _ hk65)) (by decide)).trans el79)) ((hg505 b18 4 0 4 (qr495 _ _ (qS86 _ _ (qb82 _ _ hk65))) (by decide)).trans ((hg496 b18 4 0 4 (qS86 _ _ (qb82 _ _ hk65)) (by decide)).trans el89)) ((hg505 b32 10 0 0 (qr495 _ _ (qS86 _ _ (qb82 _ _ hk70))) (by decide)).trans ((hg496 b32 10 0 0 (qS86 _ _ (qb82 _ _ hk70)) (by decide)).trans el99)) ((hg505 b36 13 0 1 (qr495 _ _ (qS86 _ _ (qb82 _ _ hs_y62))) (by decide)).trans ((hg496 b36 13 0 1 (qS86 _ _ (qb82 _ _ hs_y62)) (by decide)).trans el109)) ((hg505 b36 13 0 10 (qr495 _ _ (qS86 _ _ (qb82 _ _ hs_y62))) (by decide)).trans ((hg496 b36 13 0 10 (qS86 _ _ (qb82 _ _ hs_y62)) (by decide)).trans el119)) ((hg505 b36 13 0 13 (qr495 _ _ (qS86 _ _ (qb82 _ _ hs_y62))) (by decide)).trans ((hg496 b36 13 0 13 (qS86 _ _ (qb82 _ _ hs_y62)) (by decide)).trans el129)) ((hg505 b36 13 0 14 (qr495 _ _ (qS86 _ _ (qb82 _ _ hs_y62))) (by decide)).trans ((hg496 b36 13 0 14 (qS86 _ _ (qb82 _ _ hs_y62)) (by decide)).trans el139)) ((hg505 b36 13 0 12 (qr495 _ _ (qS86 _ _ (qb82 _ _ hs_y62))) (by decide)).trans ((hg496 b36 13 0 12 (qS86 _ _ (qb82 _ _ hs_y62)) (by decide)).trans el149)) ((hg505 b32 10 0 1 (qr495 _ _ (qS86 _ _ (qb82 _ _ hk70))) (by decide)).trans k501) k508 ((hg505 b1 12 0 12 (qr495 _ _ (qS86 _ _ (qb82 _ _ hk64))) (by decide)).trans ((hg496 b1 12 0 12 (qS86 _ _ (qb82 _ _ hk64)) (by decide)).trans ext9)) ((hg505 b36 13 0 3 (qr495 _ _ (qS86 _ _ (qb82 _ _ hs_y62))) (by decide)).trans ((hg496 b36 13 0 3 (qS86 _ _ (qb82 _ _ hs_y62)) (by decide)).trans emt9)) ((hg505 b33 5 0 3 (qr495 _ _ (qS86 _ _ (qb82 _ _ hk71))) (by decide)).trans ((hg496 b33 5 0 3 (qS86 _ _ (qb82 _ _ hk71)) (by decide)).trans exc9)) ((hg505 b36 13 0 69 (qr495 _ _ (qS86 _ _ (qb82 _ _ hs_y62))) (by decide)).trans ((hg496 b36 13 0 69 (qS86 _ _ (qb82 _ _ hs_y62)) (by decide)).trans emc9)) ((hg505 b35 0 0 2 (qr495 _ _ (qS86 _ _ (qb82 _ _ hk73))) (by decide)).trans ((hg496 b35 0 0 2 (qS86 _ _ (qb82 _ _ hk73)) (by decide)).trans exb9)) ((hg505 b36 13 0 16 (qr495 _ _ (qS86 _ _ (qb82 _ _ hs_y62))) (by decide)).trans ((hg496 b36 13 0 16 (qS86 _ _ (qb82 _ _ hs_y62)) (by decide)).trans emb9)) ((hg505 b1 12 0 16 (qr495 _ _ (qS86 _ _ (qb82 _ _ hk64))) (by decide)).trans ((hg496 b1 12 0 16 (qS86 _ _ (qb82 _ _ hk64)) (by decide)).trans exsh9)) ((hg505 b36 13 0 89 (qr495 _ _ (qS86 _ _ (qb82 _ _ hs_y62))) (by decide)).trans ((hg496 b36 13 0 89 (qS86 _ _ (qb82 _ _ hs_y62)) (by decide)).trans emsh9)) ((hg505 b1 12 0 17 (qr495 _ _ (qS86 _ _ (qb82 _ _ hk64))) (by decide)).trans ((hg496 b1 12 0 17 (qS86 _ _ (qb82 _ _ hk64)) (by decide)).trans exsp9)) ((hg505 b36 13 0 90 (qr495 _ _ (qS86 _ _ (qb82 _ _ hs_y62))) (by decide)).trans ((hg496 b36 13 0 90 (qS86 _ _ (qb82 _ _ hs_y62)) (by decide)).trans emsp9)) ((hg505 b36 13 0 17 (qr495 _ _ (qS86 _ _ (qb82 _ _ hs_y62))) (by decide)).trans ((hg496 b36 13 0 17 (qS86 _ _ (qb82 _ _ hs_y62)) (by decide)).trans emsm9)) (xWn.m (xWn.m wn9 (qS86 _ _ (qb82 _ _ hk69)) (qS86 _ _ (qb82 _ _ hk76)) hg496 qr495 (by decide)) (qr495 _ _ (qS86 _ _ (qb82 _ _ hk69))) (qr495 _ _ (qS86 _ _ (qb82 _ _ hk76))) hg505 xLe.rf (by decide)) (by rw [(Eq.trans (xv_m hg505 (qr495 _ _ (qS86 _ _ (qb82 _ _ hk67))) (by decide) (by decide)) (xv_m hg496 (qS86 _ _ (qb82 _ _ hk67)) (by decide) (by decide))), (Eq.trans (xv_m hg505 (qr495 _ _ (qS86 _ _ (qb82 _ _ hk74))) (by decide) (by decide)) (xv_m hg496 (qS86 _ _ (qb82 _ _ hk74)) (by decide) (by decide)))]; exact wt9) (by rw [(Eq.trans (xv_m hg505 (qr495 _ _ (qS86 _ _ (qb82 _ _ hk68))) (by decide) (by decide)) (xv_m hg496 (qS86 _ _ (qb82 _ _ hk68)) (by decide) (by decide))), (Eq.trans (xv_m hg505 (qr495 _ _ (qS86 _ _ (qb82 _ _ hk75))) (by decide) (by decide)) (xv_m hg496 (qS86 _ _ (qb82 _ _ hk75)) (by decide) (by decide)))]; exact ld9) (by rw [(Eq.trans (xv_m hg505 (qr495 _ _ (qS86 _ _ (qb82 _ _ hk66))) (by decide) (by decide)) (xv_m hg496 (qS86 _ _ (qb82 _ _ hk66)) (by decide) (by decide))), (Eq.trans (xv_m hg505 (qr495 _ _ (qS86 _ _ (qb82 _ _ hs_b81))) (by decide) (by decide)) (xv_m hg496 (qS86 _ _ (qb82 _ _ hs_b81)) (by decide) (by decide)))]; exact sk9) (by rw [(Eq.trans (xv_m hg505 (qr495 _ _ (qS86 _ _ (qb82 _ _ hs_b79))) (by decide) (by decide)) (xv_m hg496 (qS86 _ _ (qb82 _ _ hs_b79)) (by decide) (by decide))), (Eq.trans (xv_m hg505 (qr495 _ _ (qS86 _ _ (qb82 _ _ hs_b80))) (by decide) (by decide)) (xv_m hg496 (qS86 _ _ (qb82 _ _ hs_b80)) (by decide) (by decide)))]; exact xTc.mono tc9 (by omega)) (dc9 + dcr495) (ds9 + dsr495) (by omega) (by omega) (by omega)
        · refine X_tableIn hK 1317 31 (by decide) c91 (by decide) (by decide) dL_law_40 rfl (by decide) ?_
          refine X_aloadn hK (i := 1) 3 dL_law_1317 rfl rfl ?_
          refine X_aloadn hK (i := 0) 4 dL_law_1318 rfl rfl ?_
          refine X_iload hK (i := 4) 0 dL_law_1319 rfl ?_
          refine X_iconst hK dL_law_1321 ?_
          refine X_iadd hK dL_law_1322 ?_
          refine X_scr hK hX hbl hbA hL (by omega) (by omega) dL_law_1323 (fun z509 ez509 lz509 uz509 => ?_)
          refine X_callV hK [.int (iI z509)] [] lk_L_159 (c_X11_truckAt _ _ _ _ _ S86 g87 b1 z509 (qS86 _ _ (qb82 _ _ hk64)) (by omega)) (qS86 _ _ (qb82 _ _ hk64)) ⟨by decide, rfl⟩ dL_law_1324 rfl rfl (by simp [Value.category]) (by decide) (by omega) (by omega) (by decide) (fun r510 S512 g511 pr510 qr510 hg511 => ?_)
          obtain ⟨rfl, rfl, z513, rfl, lz513, uz513⟩ := pr510
          refine X_st [.int (iI z513)] rfl ?_
          refine X_pop hK dL_law_1327 rfl ?_
          refine X_aloadn hK (i := 2) 2 dL_law_1328 rfl rfl ?_
          refine X_aloadn hK (i := 0) 4 dL_law_1329 rfl rfl ?_
          refine X_iload hK (i := 4) 0 dL_law_1330 rfl ?_
          refine X_iconst hK dL_law_1332 ?_
          refine X_iadd hK dL_law_1333 ?_
          refine X_scrK hK hX hbl hbA hL (by omega) (by omega) ez509 dL_law_1334 ?_
          refine X_callV hK [.int (iI z509)] [] lk_L_162 (c_X12_truckAt _ _ _ _ _ S86 g87 b36 z509 (qS86 _ _ (qb82 _ _ hs_y62)) (by omega)) (qS86 _ _ (qb82 _ _ hs_y62)) ⟨by decide, rfl⟩ dL_law_1335 rfl rfl (by simp [Value.category]) (by decide) (by omega) (by omega) (by decide) (fun r514 S516 g515 pr514 qr514 hg515 => ?_)
          obtain ⟨rfl, z517, rfl, lz517, uz517⟩ := pr514
          refine X_st [.int (iI z517)] rfl ?_
          refine X_pop hK dL_law_1338 rfl ?_
          refine X_goto hK 1465 dL_law_1339 (by decide) ?_
          refine X_iinc hK (i := 4) (z := i9) (n := 6) 0 [(4, .int (iI (i9 + 6))), (3, .ref b82), (2, .ref b36), (1, .ref b1), (0, .ref b)] dL_law_1465 rfl (by decide) rfl ?_
          refine X_goto hK 23 dL_law_1468 (by decide) ?_
          exact ih9 S86 qS86 g515 (i9 + 6) k9 t9 c9 b9 sh9 sp9 sm9 (by omega) (by omega) (by omega) (by omega) (by omega) (by omega) (by omega) (by omega) (xLs_mod al9 hg515 (by decide)) si9 (xPi_m pi9 hg515 xLe.rf (by decide)) (xMp_m mp9 hg515 xLe.rf (by decide)) (xTw_m tw9 hg515 xLe.rf (by decide)) ((hg515 b1 12 0 0 (qS86 _ _ (qb82 _ _ hk64)) (by decide)).trans el09) ((hg515 b1 12 0 3 (qS86 _ _ (qb82 _ _ hk64)) (by decide)).trans el19) ((hg515 b1 12 0 1 (qS86 _ _ (qb82 _ _ hk64)) (by decide)).trans el29) ((hg515 b34 6 0 1 (qS86 _ _ (qb82 _ _ hk72)) (by decide)).trans el39) ((hg515 b1 12 0 2 (qS86 _ _ (qb82 _ _ hk64)) (by decide)).trans el49) ((hg515 b18 4 0 0 (qS86 _ _ (qb82 _ _ hk65)) (by decide)).trans el59) ((hg515 b18 4 0 2 (qS86 _ _ (qb82 _ _ hk65)) (by decide)).trans el69) ((hg515 b18 4 0 3 (qS86 _ _ (qb82 _ _ hk65)) (by decide)).trans el79) ((hg515 b18 4 0 4 (qS86 _ _ (qb82 _ _ hk65)) (by decide)).trans el89) ((hg515 b32 10 0 0 (qS86 _ _ (qb82 _ _ hk70)) (by decide)).trans el99) ((hg515 b36 13 0 1 (qS86 _ _ (qb82 _ _ hs_y62)) (by decide)).trans el109) ((hg515 b36 13 0 10 (qS86 _ _ (qb82 _ _ hs_y62)) (by decide)).trans el119) ((hg515 b36 13 0 13 (qS86 _ _ (qb82 _ _ hs_y62)) (by decide)).trans el129) ((hg515 b36 13 0 14 (qS86 _ _ (qb82 _ _ hs_y62)) (by decide)).trans el139) ((hg515 b36 13 0 12 (qS86 _ _ (qb82 _ _ hs_y62)) (by decide)).trans el149) ((hg515 b32 10 0 1 (qS86 _ _ (qb82 _ _ hk70)) (by decide)).trans exk9) ((hg515 b36 13 0 2 (qS86 _ _ (qb82 _ _ hs_y62)) (by decide)).trans emk9) ((hg515 b1 12 0 12 (qS86 _ _ (qb82 _ _ hk64)) (by decide)).trans ext9) ((hg515 b36 13 0 3 (qS86 _ _ (qb82 _ _ hs_y62)) (by decide)).trans emt9) ((hg515 b33 5 0 3 (qS86 _ _ (qb82 _ _ hk71)) (by decide)).trans exc9) ((hg515 b36 13 0 69 (qS86 _ _ (qb82 _ _ hs_y62)) (by decide)).trans emc9) ((hg515 b35 0 0 2 (qS86 _ _ (qb82 _ _ hk73)) (by decide)).trans exb9) ((hg515 b36 13 0 16 (qS86 _ _ (qb82 _ _ hs_y62)) (by decide)).trans emb9) ((hg515 b1 12 0 16 (qS86 _ _ (qb82 _ _ hk64)) (by decide)).trans exsh9) ((hg515 b36 13 0 89 (qS86 _ _ (qb82 _ _ hs_y62)) (by decide)).trans emsh9) ((hg515 b1 12 0 17 (qS86 _ _ (qb82 _ _ hk64)) (by decide)).trans exsp9) ((hg515 b36 13 0 90 (qS86 _ _ (qb82 _ _ hs_y62)) (by decide)).trans emsp9) ((hg515 b36 13 0 17 (qS86 _ _ (qb82 _ _ hs_y62)) (by decide)).trans emsm9) (xWn.m wn9 (qS86 _ _ (qb82 _ _ hk69)) (qS86 _ _ (qb82 _ _ hk76)) hg515 xLe.rf (by decide)) (by rw [(xv_m hg515 (qS86 _ _ (qb82 _ _ hk67)) (by decide) (by decide)), (xv_m hg515 (qS86 _ _ (qb82 _ _ hk74)) (by decide) (by decide))]; exact wt9) (by rw [(xv_m hg515 (qS86 _ _ (qb82 _ _ hk68)) (by decide) (by decide)), (xv_m hg515 (qS86 _ _ (qb82 _ _ hk75)) (by decide) (by decide))]; exact ld9) (by rw [(xv_m hg515 (qS86 _ _ (qb82 _ _ hk66)) (by decide) (by decide)), (xv_m hg515 (qS86 _ _ (qb82 _ _ hs_b81)) (by decide) (by decide))]; exact sk9) (by rw [(xv_m hg515 (qS86 _ _ (qb82 _ _ hs_b79)) (by decide) (by decide)), (xv_m hg515 (qS86 _ _ (qb82 _ _ hs_b80)) (by decide) (by decide))]; exact xTc.mono tc9 (by omega)) dc9 ds9 (by omega) (by omega) (by omega)
        · refine X_tableIn hK 1342 32 (by decide) c91 (by decide) (by decide) dL_law_40 rfl (by decide) ?_
          refine X_aloadn hK (i := 1) 3 dL_law_1342 rfl rfl ?_
          refine X_aloadn hK (i := 0) 4 dL_law_1343 rfl rfl ?_
          refine X_iload hK (i := 4) 0 dL_law_1344 rfl ?_
          refine X_iconst hK dL_law_1346 ?_
          refine X_iadd hK dL_law_1347 ?_
          refine X_scr hK hX hbl hbA hL (by omega) (by omega) dL_law_1348 (fun z518 ez518 lz518 uz518 => ?_)
          refine X_aloadn hK (i := 0) 4 dL_law_1349 rfl rfl ?_
          refine X_iload hK (i := 4) 0 dL_law_1350 rfl ?_
          refine X_iconst hK dL_law_1352 ?_
          refine X_iadd hK dL_law_1353 ?_
          refine X_scr hK hX hbl hbA hL (by omega) (by omega) dL_law_1354 (fun z519 ez519 lz519 uz519 => ?_)
          refine X_aloadn hK (i := 0) 4 dL_law_1355 rfl rfl ?_
          refine X_iload hK (i := 4) 0 dL_law_1356 rfl ?_
          refine X_iconst hK dL_law_1358 ?_
          refine X_iadd hK dL_law_1359 ?_
          refine X_scr hK hX hbl hbA hL (by omega) (by omega) dL_law_1360 (fun z520 ez520 lz520 uz520 => ?_)
          refine X_aloadn hK (i := 0) 4 dL_law_1361 rfl rfl ?_
          refine X_iload hK (i := 4) 0 dL_law_1362 rfl ?_
          refine X_iconst hK dL_law_1364 ?_
          refine X_iadd hK dL_law_1365 ?_
          refine X_scr hK hX hbl hbA hL (by omega) (by omega) dL_law_1366 (fun z521 ez521 lz521 uz521 => ?_)
          refine X_aloadn hK (i := 0) 4 dL_law_1367 rfl rfl ?_
          refine X_iload hK (i := 4) 0 dL_law_1368 rfl ?_
          refine X_iconst hK dL_law_1370 ?_
          refine X_iadd hK dL_law_1371 ?_
          refine X_scr hK hX hbl hbA hL (by omega) (by omega) dL_law_1372 (fun z522 ez522 lz522 uz522 => ?_)
          refine X_callV hK [.int (iI z518), .int (iI z519), .int (iI z520), .int (iI z521), .int (iI z522)] [] lk_L_163 (c_X11_strike _ _ _ _ _ S86 g87 b1 z518 z519 z520 z521 z522 b32 k9 b79 sh9 sp9 (qS86 _ _ (qb82 _ _ hk64)) (by omega) (by omega) (by omega) (by omega) (by omega) el09 (qS86 _ _ (qb82 _ _ hk70)) (by omega) exk9 el99 (qS86 _ _ (qb82 _ _ hs_b79)) (by omega) exsh9 (by omega) exsp9) (qS86 _ _ (qb82 _ _ hk64)) ⟨by decide, rfl⟩ dL_law_1373 rfl rfl (by simp [Value.category]) (by decide) (by omega) (by omega) (by decide) (fun r523 S525 g524 pr523 qr523 hg524 => ?_)
          obtain ⟨rfl, z526, rfl, lz526, uz526, k527, k528⟩ := pr523
          refine X_st [.int (iI z526)] rfl ?_
          obtain ⟨z529, z530, ez529, ez530, rz529, rz530, kz529⟩ := k528
          refine X_pop hK dL_law_1376 rfl ?_
          refine X_aloadn hK (i := 2) 2 dL_law_1377 rfl rfl ?_
          refine X_aloadn hK (i := 0) 4 dL_law_1378 rfl rfl ?_
          refine X_iload hK (i := 4) 0 dL_law_1379 rfl ?_
          refine X_iconst hK dL_law_1381 ?_
          refine X_iadd hK dL_law_1382 ?_
          refine X_scrK hK hX hbl hbA hL (by omega) (by omega) ez518 dL_law_1383 ?_
          refine X_aloadn hK (i := 0) 4 dL_law_1384 rfl rfl ?_
          refine X_iload hK (i := 4) 0 dL_law_1385 rfl ?_
          refine X_iconst hK dL_law_1387 ?_
          refine X_iadd hK dL_law_1388 ?_
          refine X_scrK hK hX hbl hbA hL (by omega) (by omega) ez519 dL_law_1389 ?_
          refine X_aloadn hK (i := 0) 4 dL_law_1390 rfl rfl ?_
          refine X_iload hK (i := 4) 0 dL_law_1391 rfl ?_
          refine X_iconst hK dL_law_1393 ?_
          refine X_iadd hK dL_law_1394 ?_
          refine X_scrK hK hX hbl hbA hL (by omega) (by omega) ez520 dL_law_1395 ?_
          refine X_aloadn hK (i := 0) 4 dL_law_1396 rfl rfl ?_
          refine X_iload hK (i := 4) 0 dL_law_1397 rfl ?_
          refine X_iconst hK dL_law_1399 ?_
          refine X_iadd hK dL_law_1400 ?_
          refine X_scrK hK hX hbl hbA hL (by omega) (by omega) ez521 dL_law_1401 ?_
          refine X_aloadn hK (i := 0) 4 dL_law_1402 rfl rfl ?_
          refine X_iload hK (i := 4) 0 dL_law_1403 rfl ?_
          refine X_iconst hK dL_law_1405 ?_
          refine X_iadd hK dL_law_1406 ?_
          refine X_scrK hK hX hbl hbA hL (by omega) (by omega) ez522 dL_law_1407 ?_
          refine X_callV hK [.int (iI z518), .int (iI z519), .int (iI z520), .int (iI z521), .int (iI z522)] [] lk_L_166 (c3_strike _ _ _ _ _ S86 g524 b36 z518 z519 z520 z521 z522 k9 b80 sh9 sp9 (qS86 _ _ (qb82 _ _ hs_y62)) (by omega) (by omega) (by omega) (by omega) (by omega) (by omega) ((hg524 b36 13 0 2 (qS86 _ _ (qb82 _ _ hs_y62)) (by decide)).trans emk9) ((hg524 b36 13 0 1 (qS86 _ _ (qb82 _ _ hs_y62)) (by decide)).trans el109) (qS86 _ _ (qb82 _ _ hs_b80)) (by omega) ((hg524 b36 13 0 89 (qS86 _ _ (qb82 _ _ hs_y62)) (by decide)).trans emsh9) (by omega) ((hg524 b36 13 0 90 (qS86 _ _ (qb82 _ _ hs_y62)) (by decide)).trans emsp9)) (qS86 _ _ (qb82 _ _ hs_y62)) ⟨by decide, rfl⟩ dL_law_1408 rfl rfl (by simp [Value.category]) (by decide) (by omega) (by omega) (by decide) (fun r531 S533 g532 pr531 qr531 hg532 => ?_)
          obtain ⟨rfl, z534, rfl, lz534, uz534, k535, k536⟩ := pr531
          refine X_st [.int (iI z534)] rfl ?_
          obtain ⟨z537, z538, ez537, ez538, rz537, rz538, kz537⟩ := k536
          obtain ⟨hq9, hhz537, hhz538⟩ := xSkr.det (by rw [(xv_m hg524 (qS86 _ _ (qb82 _ _ hs_b80)) (by decide) (by decide))]; exact tc9) kz529 kz537
          refine X_pop hK dL_law_1411 rfl ?_
          refine X_goto hK 1465 dL_law_1412 (by decide) ?_
          refine X_iinc hK (i := 4) (z := i9) (n := 6) 0 [(4, .int (iI (i9 + 6))), (3, .ref b82), (2, .ref b36), (1, .ref b1), (0, .ref b)] dL_law_1465 rfl (by decide) rfl ?_
          refine X_goto hK 23 dL_law_1468 (by decide) ?_
          exact ih9 S86 qS86 g532 (i9 + 6) (0) t9 c9 b9 z529 z530 sm9 (by omega) (by omega) (by omega) (by omega) (by omega) (by omega) (by omega) (by omega) (xLs_mod (xLs_mod al9 hg524 (by decide)) hg532 (by decide)) si9 (xPi_m (xPi_m pi9 hg524 xLe.rf (by decide)) hg532 xLe.rf (by decide)) (xMp_m (xMp_m mp9 hg524 xLe.rf (by decide)) hg532 xLe.rf (by decide)) (xTw_m (xTw_m tw9 hg524 xLe.rf (by decide)) hg532 xLe.rf (by decide)) ((hg532 b1 12 0 0 (qS86 _ _ (qb82 _ _ hk64)) (by decide)).trans ((hg524 b1 12 0 0 (qS86 _ _ (qb82 _ _ hk64)) (by decide)).trans el09)) ((hg532 b1 12 0 3 (qS86 _ _ (qb82 _ _ hk64)) (by decide)).trans ((hg524 b1 12 0 3 (qS86 _ _ (qb82 _ _ hk64)) (by decide)).trans el19)) ((hg532 b1 12 0 1 (qS86 _ _ (qb82 _ _ hk64)) (by decide)).trans ((hg524 b1 12 0 1 (qS86 _ _ (qb82 _ _ hk64)) (by decide)).trans el29)) ((hg532 b34 6 0 1 (qS86 _ _ (qb82 _ _ hk72)) (by decide)).trans ((hg524 b34 6 0 1 (qS86 _ _ (qb82 _ _ hk72)) (by decide)).trans el39)) ((hg532 b1 12 0 2 (qS86 _ _ (qb82 _ _ hk64)) (by decide)).trans ((hg524 b1 12 0 2 (qS86 _ _ (qb82 _ _ hk64)) (by decide)).trans el49)) ((hg532 b18 4 0 0 (qS86 _ _ (qb82 _ _ hk65)) (by decide)).trans ((hg524 b18 4 0 0 (qS86 _ _ (qb82 _ _ hk65)) (by decide)).trans el59)) ((hg532 b18 4 0 2 (qS86 _ _ (qb82 _ _ hk65)) (by decide)).trans ((hg524 b18 4 0 2 (qS86 _ _ (qb82 _ _ hk65)) (by decide)).trans el69)) ((hg532 b18 4 0 3 (qS86 _ _ (qb82 _ _ hk65)) (by decide)).trans ((hg524 b18 4 0 3 (qS86 _ _ (qb82 _ _ hk65)) (by decide)).trans el79)) ((hg532 b18 4 0 4 (qS86 _ _ (qb82 _ _ hk65)) (by decide)).trans ((hg524 b18 4 0 4 (qS86 _ _ (qb82 _ _ hk65)) (by decide)).trans el89)) ((hg532 b32 10 0 0 (qS86 _ _ (qb82 _ _ hk70)) (by decide)).trans ((hg524 b32 10 0 0 (qS86 _ _ (qb82 _ _ hk70)) (by decide)).trans el99)) ((hg532 b36 13 0 1 (qS86 _ _ (qb82 _ _ hs_y62)) (by decide)).trans ((hg524 b36 13 0 1 (qS86 _ _ (qb82 _ _ hs_y62)) (by decide)).trans el109)) ((hg532 b36 13 0 10 (qS86 _ _ (qb82 _ _ hs_y62)) (by decide)).trans ((hg524 b36 13 0 10 (qS86 _ _ (qb82 _ _ hs_y62)) (by decide)).trans el119)) ((hg532 b36 13 0 13 (qS86 _ _ (qb82 _ _ hs_y62)) (by decide)).trans ((hg524 b36 13 0 13 (qS86 _ _ (qb82 _ _ hs_y62)) (by decide)).trans el129)) ((hg532 b36 13 0 14 (qS86 _ _ (qb82 _ _ hs_y62)) (by decide)).trans ((hg524 b36 13 0 14 (qS86 _ _ (qb82 _ _ hs_y62)) (by decide)).trans el139)) ((hg532 b36 13 0 12 (qS86 _ _ (qb82 _ _ hs_y62)) (by decide)).trans ((hg524 b36 13 0 12 (qS86 _ _ (qb82 _ _ hs_y62)) (by decide)).trans el149)) ((hg532 b32 10 0 1 (qS86 _ _ (qb82 _ _ hk70)) (by decide)).trans k527) k535 ((hg532 b1 12 0 12 (qS86 _ _ (qb82 _ _ hk64)) (by decide)).trans ((hg524 b1 12 0 12 (qS86 _ _ (qb82 _ _ hk64)) (by decide)).trans ext9)) ((hg532 b36 13 0 3 (qS86 _ _ (qb82 _ _ hs_y62)) (by decide)).trans ((hg524 b36 13 0 3 (qS86 _ _ (qb82 _ _ hs_y62)) (by decide)).trans emt9)) ((hg532 b33 5 0 3 (qS86 _ _ (qb82 _ _ hk71)) (by decide)).trans ((hg524 b33 5 0 3 (qS86 _ _ (qb82 _ _ hk71)) (by decide)).trans exc9)) ((hg532 b36 13 0 69 (qS86 _ _ (qb82 _ _ hs_y62)) (by decide)).trans ((hg524 b36 13 0 69 (qS86 _ _ (qb82 _ _ hs_y62)) (by decide)).trans emc9)) ((hg532 b35 0 0 2 (qS86 _ _ (qb82 _ _ hk73)) (by decide)).trans ((hg524 b35 0 0 2 (qS86 _ _ (qb82 _ _ hk73)) (by decide)).trans exb9)) ((hg532 b36 13 0 16 (qS86 _ _ (qb82 _ _ hs_y62)) (by decide)).trans ((hg524 b36 13 0 16 (qS86 _ _ (qb82 _ _ hs_y62)) (by decide)).trans emb9)) ((hg532 b1 12 0 16 (qS86 _ _ (qb82 _ _ hk64)) (by decide)).trans ez529) (ez537.trans (by rw [hhz537])) ((hg532 b1 12 0 17 (qS86 _ _ (qb82 _ _ hk64)) (by decide)).trans ez530) (ez538.trans (by rw [hhz538])) ((hg532 b36 13 0 17 (qS86 _ _ (qb82 _ _ hs_y62)) (by decide)).trans ((hg524 b36 13 0 17 (qS86 _ _ (qb82 _ _ hs_y62)) (by decide)).trans emsm9)) (xWn.m (xWn.m wn9 (qS86 _ _ (qb82 _ _ hk69)) (qS86 _ _ (qb82 _ _ hk76)) hg524 xLe.rf (by decide)) (qS86 _ _ (qb82 _ _ hk69)) (qS86 _ _ (qb82 _ _ hk76)) hg532 xLe.rf (by decide)) (by rw [(Eq.trans (xv_m hg532 (qS86 _ _ (qb82 _ _ hk67)) (by decide) (by decide)) (xv_m hg524 (qS86 _ _ (qb82 _ _ hk67)) (by decide) (by decide))), (Eq.trans (xv_m hg532 (qS86 _ _ (qb82 _ _ hk74)) (by decide) (by decide)) (xv_m hg524 (qS86 _ _ (qb82 _ _ hk74)) (by decide) (by decide)))]; exact wt9) (by rw [(Eq.trans (xv_m hg532 (qS86 _ _ (qb82 _ _ hk68)) (by decide) (by decide)) (xv_m hg524 (qS86 _ _ (qb82 _ _ hk68)) (by decide) (by decide))), (Eq.trans (xv_m hg532 (qS86 _ _ (qb82 _ _ hk75)) (by decide) (by decide)) (xv_m hg524 (qS86 _ _ (qb82 _ _ hk75)) (by decide) (by decide)))]; exact ld9) (by rw [(Eq.trans (xv_m hg532 (qS86 _ _ (qb82 _ _ hk66)) (by decide) (by decide)) (xv_m hg524 (qS86 _ _ (qb82 _ _ hk66)) (by decide) (by decide))), (Eq.trans (xv_m hg532 (qS86 _ _ (qb82 _ _ hs_b81)) (by decide) (by decide)) (xv_m hg524 (qS86 _ _ (qb82 _ _ hs_b81)) (by decide) (by decide)))]; exact sk9) (by rw [(Eq.trans (xv_m hg532 (qS86 _ _ (qb82 _ _ hs_b79)) (by decide) (by decide)) (xv_m hg524 (qS86 _ _ (qb82 _ _ hs_b79)) (by decide) (by decide))), (Eq.trans (xv_m hg532 (qS86 _ _ (qb82 _ _ hs_b80)) (by decide) (by decide)) (xv_m hg524 (qS86 _ _ (qb82 _ _ hs_b80)) (by decide) (by decide)))]; exact xTc.mono tc9 (by omega)) dc9 ds9 (by omega) (by omega) (by omega)
        · refine X_tableIn hK 1415 33 (by decide) c91 (by decide) (by decide) dL_law_40 rfl (by decide) ?_
          refine X_aloadn hK (i := 1) 3 dL_law_1415 rfl rfl ?_
          refine X_aloadn hK (i := 0) 4 dL_law_1416 rfl rfl ?_
          refine X_iload hK (i := 4) 0 dL_law_1417 rfl ?_
          refine X_iconst hK dL_law_1419 ?_
          refine X_iadd hK dL_law_1420 ?_
          refine X_scr hK hX hbl hbA hL (by omega) (by omega) dL_law_1421 (fun z539 ez539 lz539 uz539 => ?_)
          refine X_callV hK [.int (iI z539)] [] lk_L_167 (c_X11_struck _ _ _ _ _ S86 g87 b1 z539 sh9 sp9 (qS86 _ _ (qb82 _ _ hk64)) (by omega) (by omega) exsh9 (by omega) exsp9) (qS86 _ _ (qb82 _ _ hk64)) ⟨by decide, rfl⟩ dL_law_1422 rfl rfl (by simp [Value.category]) (by decide) (by omega) (by omega) (by decide) (fun r540 S542 g541 pr540 qr540 hg541 => ?_)
          obtain ⟨rfl, rfl, z543, rfl, lz543, uz543, k544⟩ := pr540
          refine X_st [.int (iI z543)] rfl ?_
          refine X_pop hK dL_law_1425 rfl ?_
          refine X_aloadn hK (i := 2) 2 dL_law_1426 rfl rfl ?_
          refine X_aloadn hK (i := 0) 4 dL_law_1427 rfl rfl ?_
          refine X_iload hK (i := 4) 0 dL_law_1428 rfl ?_
          refine X_iconst hK dL_law_1430 ?_
          refine X_iadd hK dL_law_1431 ?_
          refine X_scrK hK hX hbl hbA hL (by omega) (by omega) ez539 dL_law_1432 ?_
          refine X_callV hK [.int (iI z539)] [] lk_L_170 (c_X12_struck _ _ _ _ _ S86 g87 b36 z539 sh9 sp9 (qS86 _ _ (qb82 _ _ hs_y62)) (by omega) (by omega) emsh9 (by omega) emsp9) (qS86 _ _ (qb82 _ _ hs_y62)) ⟨by decide, rfl⟩ dL_law_1433 rfl rfl (by simp [Value.category]) (by decide) (by omega) (by omega) (by decide) (fun r545 S547 g546 pr545 qr545 hg546 => ?_)
          obtain ⟨rfl, z548, rfl, lz548, uz548, k549⟩ := pr545
          refine X_st [.int (iI z548)] rfl ?_
          refine X_pop hK dL_law_1436 rfl ?_
          refine X_goto hK 1465 dL_law_1437 (by decide) ?_
          refine X_iinc hK (i := 4) (z := i9) (n := 6) 0 [(4, .int (iI (i9 + 6))), (3, .ref b82), (2, .ref b36), (1, .ref b1), (0, .ref b)] dL_law_1465 rfl (by decide) rfl ?_
          refine X_goto hK 23 dL_law_1468 (by decide) ?_
          exact ih9 S86 qS86 g546 (i9 + 6) k9 t9 c9 b9 sh9 sp9 sm9 (by omega) (by omega) (by omega) (by omega) (by omega) (by omega) (by omega) (by omega) (xLs_mod al9 hg546 (by decide)) si9 (xPi_m pi9 hg546 xLe.rf (by decide)) (xMp_m mp9 hg546 xLe.rf (by decide)) (xTw_m tw9 hg546 xLe.rf (by decide)) ((hg546 b1 12 0 0 (qS86 _ _ (qb82 _ _ hk64)) (by decide)).trans el09) ((hg546 b1 12 0 3 (qS86 _ _ (qb82 _ _ hk64)) (by decide)).trans el19) ((hg546 b1 12 0 1 (qS86 _ _ (qb82 _ _ hk64)) (by decide)).trans el29) ((hg546 b34 6 0 1 (qS86 _ _ (qb82 _ _ hk72)) (by decide)).trans el39) ((hg546 b1 12 0 2 (qS86 _ _ (qb82 _ _ hk64)) (by decide)).trans el49) ((hg546 b18 4 0 0 (qS86 _ _ (qb82 _ _ hk65)) (by decide)).trans el59) ((hg546 b18 4 0 2 (qS86 _ _ (qb82 _ _ hk65)) (by decide)).trans el69) ((hg546 b18 4 0 3 (qS86 _ _ (qb82 _ _ hk65)) (by decide)).trans el79) ((hg546 b18 4 0 4 (qS86 _ _ (qb82 _ _ hk65)) (by decide)).trans el89) ((hg546 b32 10 0 0 (qS86 _ _ (qb82 _ _ hk70)) (by decide)).trans el99) ((hg546 b36 13 0 1 (qS86 _ _ (qb82 _ _ hs_y62)) (by decide)).trans el109) ((hg546 b36 13 0 10 (qS86 _ _ (qb82 _ _ hs_y62)) (by decide)).trans el119) ((hg546 b36 13 0 13 (qS86 _ _ (qb82 _ _ hs_y62)) (by decide)).trans el129) ((hg546 b36 13 0 14 (qS86 _ _ (qb82 _ _ hs_y62)) (by decide)).trans el139) ((hg546 b36 13 0 12 (qS86 _ _ (qb82 _ _ hs_y62)) (by decide)).trans el149) ((hg546 b32 10 0 1 (qS86 _ _ (qb82 _ _ hk70)) (by decide)).trans exk9) ((hg546 b36 13 0 2 (qS86 _ _ (qb82 _ _ hs_y62)) (by decide)).trans emk9) ((hg546 b1 12 0 12 (qS86 _ _ (qb82 _ _ hk64)) (by decide)).trans ext9) ((hg546 b36 13 0 3 (qS86 _ _ (qb82 _ _ hs_y62)) (by decide)).trans emt9) ((hg546 b33 5 0 3 (qS86 _ _ (qb82 _ _ hk71)) (by decide)).trans exc9) ((hg546 b36 13 0 69 (qS86 _ _ (qb82 _ _ hs_y62)) (by decide)).trans emc9) ((hg546 b35 0 0 2 (qS86 _ _ (qb82 _ _ hk73)) (by decide)).trans exb9) ((hg546 b36 13 0 16 (qS86 _ _ (qb82 _ _ hs_y62)) (by decide)).trans emb9) ((hg546 b1 12 0 16 (qS86 _ _ (qb82 _ _ hk64)) (by decide)).trans exsh9) ((hg546 b36 13 0 89 (qS86 _ _ (qb82 _ _ hs_y62)) (by decide)).trans emsh9) ((hg546 b1 12 0 17 (qS86 _ _ (qb82 _ _ hk64)) (by decide)).trans exsp9) ((hg546 b36 13 0 90 (qS86 _ _ (qb82 _ _ hs_y62)) (by decide)).trans emsp9) ((hg546 b36 13 0 17 (qS86 _ _ (qb82 _ _ hs_y62)) (by decide)).trans emsm9) (xWn.m wn9 (qS86 _ _ (qb82 _ _ hk69)) (qS86 _ _ (qb82 _ _ hk76)) hg546 xLe.rf (by decide)) (by rw [(xv_m hg546 (qS86 _ _ (qb82 _ _ hk67)) (by decide) (by decide)), (xv_m hg546 (qS86 _ _ (qb82 _ _ hk74)) (by decide) (by decide))]; exact wt9) (by rw [(xv_m hg546 (qS86 _ _ (qb82 _ _ hk68)) (by decide) (by decide)), (xv_m hg546 (qS86 _ _ (qb82 _ _ hk75)) (by decide) (by decide))]; exact ld9) (by rw [(xv_m hg546 (qS86 _ _ (qb82 _ _ hk66)) (by decide) (by decide)), (xv_m hg546 (qS86 _ _ (qb82 _ _ hs_b81)) (by decide) (by decide))]; exact sk9) (by rw [(xv_m hg546 (qS86 _ _ (qb82 _ _ hs_b79)) (by decide) (by decide)), (xv_m hg546 (qS86 _ _ (qb82 _ _ hs_b80)) (by decide) (by decide))]; exact xTc.mono tc9 (by omega)) dc9 ds9 (by omega) (by omega) (by omega)
        · refine X_tableIn hK 1440 34 (by decide) c91 (by decide) (by decide) dL_law_40 rfl (by decide) ?_
          refine X_aloadn hK (i := 1) 3 dL_law_1440 rfl rfl ?_
          refine X_aloadn hK (i := 0) 4 dL_law_1441 rfl rfl ?_
          refine X_iload hK (i := 4) 0 dL_law_1442 rfl ?_
          refine X_iconst hK dL_law_1444 ?_
          refine X_iadd hK dL_law_1445 ?_
          refine X_scr hK hX hbl hbA hL (by omega) (by omega) dL_law_1446 (fun z550 ez550 lz550 uz550 => ?_)
          refine X_callV hK [.int (iI z550)] [] lk_L_171 (c_X11_count _ _ _ _ _ S86 g87 b1 z550 (qS86 _ _ (qb82 _ _ hk64)) (by omega) al9) (qS86 _ _ (qb82 _ _ hk64)) ⟨by decide, rfl⟩ dL_law_1447 rfl rfl (by simp [Value.category]) (by decide) (by omega) (by omega) (by decide) (fun r551 S553 g552 pr551 qr551 hg552 => ?_)
          obtain ⟨rfl, rfl, z554, rfl, lz554, uz554⟩ := pr551
          refine X_st [.int (iI z554)] rfl ?_
          refine X_pop hK dL_law_1450 rfl ?_
          refine X_aloadn hK (i := 2) 2 dL_law_1451 rfl rfl ?_
          refine X_aloadn hK (i := 0) 4 dL_law_1452 rfl rfl ?_
          refine X_iload hK (i := 4) 0 dL_law_1453 rfl ?_
          refine X_iconst hK dL_law_1455 ?_
          refine X_iadd hK dL_law_1456 ?_
          refine X_scrK hK hX hbl hbA hL (by omega) (by omega) ez550 dL_law_1457 ?_
          refine X_callV hK [.int (iI z550)] [] lk_L_174 (c_X12_count _ _ _ _ _ S86 g87 b36 z550 (qS86 _ _ (qb82 _ _ hs_y62)) (by omega)) (qS86 _ _ (qb82 _ _ hs_y62)) ⟨by decide, rfl⟩ dL_law_1458 rfl rfl (by simp [Value.category]) (by decide) (by omega) (by omega) (by decide) (fun r555 S557 g556 pr555 qr555 hg556 => ?_)
          obtain ⟨rfl, z558, rfl, lz558, uz558⟩ := pr555
          refine X_st [.int (iI z558)] rfl ?_
          refine X_pop hK dL_law_1461 rfl ?_
          refine X_goto hK 1465 dL_law_1462 (by decide) ?_
          refine X_iinc hK (i := 4) (z := i9) (n := 6) 0 [(4, .int (iI (i9 + 6))), (3, .ref b82), (2, .ref b36), (1, .ref b1), (0, .ref b)] dL_law_1465 rfl (by decide) rfl ?_
          refine X_goto hK 23 dL_law_1468 (by decide) ?_
          exact ih9 S86 qS86 g556 (i9 + 6) k9 t9 c9 b9 sh9 sp9 sm9 (by omega) (by omega) (by omega) (by omega) (by omega) (by omega) (by omega) (by omega) (xLs_mod al9 hg556 (by decide)) si9 (xPi_m pi9 hg556 xLe.rf (by decide)) (xMp_m mp9 hg556 xLe.rf (by decide)) (xTw_m tw9 hg556 xLe.rf (by decide)) ((hg556 b1 12 0 0 (qS86 _ _ (qb82 _ _ hk64)) (by decide)).trans el09) ((hg556 b1 12 0 3 (qS86 _ _ (qb82 _ _ hk64)) (by decide)).trans el19) ((hg556 b1 12 0 1 (qS86 _ _ (qb82 _ _ hk64)) (by decide)).trans el29) ((hg556 b34 6 0 1 (qS86 _ _ (qb82 _ _ hk72)) (by decide)).trans el39) ((hg556 b1 12 0 2 (qS86 _ _ (qb82 _ _ hk64)) (by decide)).trans el49) ((hg556 b18 4 0 0 (qS86 _ _ (qb82 _ _ hk65)) (by decide)).trans el59) ((hg556 b18 4 0 2 (qS86 _ _ (qb82 _ _ hk65)) (by decide)).trans el69) ((hg556 b18 4 0 3 (qS86 _ _ (qb82 _ _ hk65)) (by decide)).trans el79) ((hg556 b18 4 0 4 (qS86 _ _ (qb82 _ _ hk65)) (by decide)).trans el89) ((hg556 b32 10 0 0 (qS86 _ _ (qb82 _ _ hk70)) (by decide)).trans el99) ((hg556 b36 13 0 1 (qS86 _ _ (qb82 _ _ hs_y62)) (by decide)).trans el109) ((hg556 b36 13 0 10 (qS86 _ _ (qb82 _ _ hs_y62)) (by decide)).trans el119) ((hg556 b36 13 0 13 (qS86 _ _ (qb82 _ _ hs_y62)) (by decide)).trans el129) ((hg556 b36 13 0 14 (qS86 _ _ (qb82 _ _ hs_y62)) (by decide)).trans el139) ((hg556 b36 13 0 12 (qS86 _ _ (qb82 _ _ hs_y62)) (by decide)).trans el149) ((hg556 b32 10 0 1 (qS86 _ _ (qb82 _ _ hk70)) (by decide)).trans exk9) ((hg556 b36 13 0 2 (qS86 _ _ (qb82 _ _ hs_y62)) (by decide)).trans emk9) ((hg556 b1 12 0 12 (qS86 _ _ (qb82 _ _ hk64)) (by decide)).trans ext9) ((hg556 b36 13 0 3 (qS86 _ _ (qb82 _ _ hs_y62)) (by decide)).trans emt9) ((hg556 b33 5 0 3 (qS86 _ _ (qb82 _ _ hk71)) (by decide)).trans exc9) ((hg556 b36 13 0 69 (qS86 _ _ (qb82 _ _ hs_y62)) (by decide)).trans emc9) ((hg556 b35 0 0 2 (qS86 _ _ (qb82 _ _ hk73)) (by decide)).trans exb9) ((hg556 b36 13 0 16 (qS86 _ _ (qb82 _ _ hs_y62)) (by decide)).trans emb9) ((hg556 b1 12 0 16 (qS86 _ _ (qb82 _ _ hk64)) (by decide)).trans exsh9) ((hg556 b36 13 0 89 (qS86 _ _ (qb82 _ _ hs_y62)) (by decide)).trans emsh9) ((hg556 b1 12 0 17 (qS86 _ _ (qb82 _ _ hk64)) (by decide)).trans exsp9) ((hg556 b36 13 0 90 (qS86 _ _ (qb82 _ _ hs_y62)) (by decide)).trans emsp9) ((hg556 b36 13 0 17 (qS86 _ _ (qb82 _ _ hs_y62)) (by decide)).trans emsm9) (xWn.m wn9 (qS86 _ _ (qb82 _ _ hk69)) (qS86 _ _ (qb82 _ _ hk76)) hg556 xLe.rf (by decide)) (by rw [(xv_m hg556 (qS86 _ _ (qb82 _ _ hk67)) (by decide) (by decide)), (xv_m hg556 (qS86 _ _ (qb82 _ _ hk74)) (by decide) (by decide))]; exact wt9) (by rw [(xv_m hg556 (qS86 _ _ (qb82 _ _ hk68)) (by decide) (by decide)), (xv_m hg556 (qS86 _ _ (qb82 _ _ hk75)) (by decide) (by decide))]; exact ld9) (by rw [(xv_m hg556 (qS86 _ _ (qb82 _ _ hk66)) (by decide) (by decide)), (xv_m hg556 (qS86 _ _ (qb82 _ _ hs_b81)) (by decide) (by decide))]; exact sk9) (by rw [(xv_m hg556 (qS86 _ _ (qb82 _ _ hs_b79)) (by decide) (by decide)), (xv_m hg556 (qS86 _ _ (qb82 _ _ hs_b80)) (by decide) (by decide))]; exact xTc.mono tc9 (by omega)) dc9 ds9 (by omega) (by omega) (by omega)
  exact P9 4001 S83 xLe.rf g84 0 0 0 0 0 (-1) (-1) 0 (by omega) (by omega) (by omega) (by omega) (by omega) (by omega) (by omega) (by omega) A85 (xSi.nw (xSi.nw (xSi.nw (xSi.nw (xSi.nw k9 (xNw2.one hSy24) (by decide)) (xNw2.one hSb36) (by decide)) wr44 (by decide)) (xNw2.one hSy62) (by decide)) (xNw2.one hSb82) (by decide)) (xPi_m pi77 (hg84 ▸ xM_new (L := []) xM.rf nb82) qb82 (by decide)) (xMp_m mm78.1 (hg84 ▸ xM_new (L := []) xM.rf nb82) qb82 (by decide)) (xTw_m mm78.2 (hg84 ▸ xM_new (L := []) xM.rf nb82) qb82 (by decide)) ((xs_n hg84 hk64 nb82).trans ((hg45 b1 12 0 0 (qb36 _ _ hs_y24) (by decide)).trans ((xs_n hg38 hs_y24 nb36).trans eb32))) ((xs_n hg84 hk64 nb82).trans ((hg45 b1 12 0 3 (qb36 _ _ hs_y24) (by decide)).trans ((xs_n hg38 hs_y24 nb36).trans eb33))) ((xs_n hg84 hk64 nb82).trans ((hg45 b1 12 0 1 (qb36 _ _ hs_y24) (by decide)).trans ((xs_n hg38 hs_y24 nb36).trans eb34))) ((xs_n hg84 hk72 nb82).trans ((hg45 b34 6 0 1 hk42 (by decide)).trans ((xs_n hg38 (xhs_seal hoy24 (qr5 _ _ hs_b1) hs_b34 (by decide)) nb36).trans eb35))) ((xs_n hg84 hk64 nb82).trans ((hg45 b1 12 0 2 (qb36 _ _ hs_y24) (by decide)).trans ((xs_n hg38 hs_y24 nb36).trans eb18))) ((xs_n hg84 hk65 nb82).trans ((hg45 b18 4 0 0 (qb36 _ _ hk26) (by decide)).trans ((xs_n hg38 hk26 nb36).trans eb19))) ((xs_n hg84 hk65 nb82).trans ((hg45 b18 4 0 2 (qb36 _ _ hk26) (by decide)).trans ((xs_n hg38 hk26 nb36).trans eb20))) ((xs_n hg84 hk65 nb82).trans ((hg45 b18 4 0 3 (qb36 _ _ hk26) (by decide)).trans ((xs_n hg38 hk26 nb36).trans eb21))) ((xs_n hg84 hk65 nb82).trans ((hg45 b18 4 0 4 (qb36 _ _ hk26) (by decide)).trans ((xs_n hg38 hk26 nb36).trans eb22))) ((xs_n hg84 hk70 nb82).trans eb79) ((xs_n hg84 hs_y62 nb82).trans eb80) ((xs_n hg84 hs_y62 nb82).trans eb81) ((xs_n hg84 hs_y62 nb82).trans eb58) ((xs_n hg84 hs_y62 nb82).trans eb59) ((xs_n hg84 hs_y62 nb82).trans eb60) ((xs_n hg84 hk70 nb82).trans ((hg45 b32 10 0 1 hk40 (by decide)).trans ((xs_n hg38 (xhs_seal hoy24 (qr5 _ _ hs_b1) hs_b32 (by decide)) nb36).trans fb32))) ((xs_n hg84 hs_y62 nb82).trans tmm78) ((xs_n hg84 hk64 nb82).trans ((hg45 b1 12 0 12 (qb36 _ _ hs_y24) (by decide)).trans ((xs_n hg38 hs_y24 nb36).trans fb34))) ((xs_n hg84 hs_y62 nb82).trans k48) ((xs_n hg84 hk71 nb82).trans ((hg45 b33 5 0 3 hk41 (by decide)).trans ((xs_n hg38 (xhs_seal hoy24 (qr5 _ _ hs_b1) hs_b33 (by decide)) nb36).trans fb33))) ((xs_n hg84 hs_y62 nb82).trans k50) ((xs_n hg84 hk73 nb82).trans ((hg45 b35 0 0 2 hk43 (by decide)).trans ((xs_n hg38 (xhs_seal hoy24 (qr5 _ _ hs_b1) hs_b35 (by decide)) nb36).trans fb35))) ((xs_n hg84 hs_y62 nb82).trans k49) ((xs_n hg84 hk64 nb82).trans ((hg45 b1 12 0 16 (qb36 _ _ hs_y24) (by decide)).trans ((xs_n hg38 hs_y24 nb36).trans k12))) ((xs_n hg84 hs_y62 nb82).trans k51) ((xs_n hg84 hk64 nb82).trans ((hg45 b1 12 0 17 (qb36 _ _ hs_y24) (by decide)).trans ((xs_n hg38 hs_y24 nb36).trans k13))) ((xs_n hg84 hs_y62 nb82).trans k52) ((xs_n hg84 hs_y62 nb82).trans k53) (xWn.of (by have lt560 := (xLt.seal (qr5 _ _ hs_b1) hSy24 (by decide)); have gr559 := xGr.n zb22 lt560 hk30 (by decide) hg38 nb36; have lt562 := xLt.tr lt560 (xLt.le qb36); have gr561 := xGr.m gr559 lt562 (qb36 _ _ hk30) (by decide) hg45 (by decide) (by decide); have lt564 := xLt.tr lt562 (xLt.le qr44); have lt565 := xLt.tr lt564 (xLt.seal (qr44 _ _ hs_b36) hSy62 (by decide)); have gr563 := xGr.n gr561 lt565 hk69 (by decide) hg84 nb82; exact gr563) (xLt.tr (xLt.tr (xLt.tr (xLt.tr (xLt.seal (qr5 _ _ hs_b1) hSy24 (by decide)) (xLt.le qb36)) (xLt.le qr44)) (xLt.seal (qr44 _ _ hs_b36) hSy62 (by decide))) (xLt.le qb82)) (by rw [(xv_n hg84 hk76 nb82)]; exact zb60)) (xTc.all (by rw [(Eq.trans (Eq.trans (xv_n hg84 hk67 nb82) (xv_m hg45 (qb36 _ _ hk28) (by decide) (by decide))) (xv_n hg38 hk28 nb36))]; exact zb20) (by rw [(xv_n hg84 hk74 nb82)]; exact zb58)) (xTc.all (by rw [(Eq.trans (Eq.trans (xv_n hg84 hk68 nb82) (xv_m hg45 (qb36 _ _ hk29) (by decide) (by decide))) (xv_n hg38 hk29 nb36))]; exact zb21) (by rw [(xv_n hg84 hk75 nb82)]; exact zb59)) (xSm.zero (by rw [(Eq.trans (Eq.trans (xv_n hg84 hk66 nb82) (xv_m hg45 (qb36 _ _ hk27) (by decide) (by decide))) (xv_n hg38 hk27 nb36))]; exact zb19)) xTc.zero (((((0 + 1) + dcr5) + 1) + dcr44) + 1) (((((0 + 18) + dsr5) + 91) + dsr44) + (1 : Int).toNat) (by omega) (by omega) (by omega)
