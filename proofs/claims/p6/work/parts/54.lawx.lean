theorem m_1_0 : Cond.classLink RL 8 RX11 ∈ wsL_law := ch_1 _ (List.mem_of_getElem? (i := 0) rfl)
theorem m_1_1 : Cond.instantiable RX11 18 ∈ wsL_law := ch_1 _ (List.mem_of_getElem? (i := 1) rfl)
theorem m_1_3 : Cond.classLink RL 20 RX12 ∈ wsL_law := ch_1 _ (List.mem_of_getElem? (i := 3) rfl)
theorem m_1_4 : Cond.instantiable RX12 91 ∈ wsL_law := ch_1 _ (List.mem_of_getElem? (i := 4) rfl)
theorem m_1_7 : Cond.methodLink RL 19 yX11_init ∈ wsL_law := ch_1 _ (List.mem_of_getElem? (i := 7) rfl)
theorem m_1_8 : Cond.instanceMethod yX11_init ∈ wsL_law := ch_1 _ (List.mem_of_getElem? (i := 8) rfl)
theorem m_1_9 : Cond.code yX11_init cX11_init 1 none ∈ wsL_law := ch_1 _ (List.mem_of_getElem? (i := 9) rfl)
theorem m_7_22 : Cond.methodLink RL 22 yX12_init ∈ wsL_law := ch_7 _ (List.mem_of_getElem? (i := 22) rfl)
theorem m_7_23 : Cond.instanceMethod yX12_init ∈ wsL_law := ch_7 _ (List.mem_of_getElem? (i := 23) rfl)
theorem m_8_0 : Cond.code yX12_init cX12_init 1 none ∈ wsL_law := ch_8 _ (List.mem_of_getElem? (i := 0) rfl)
theorem m_10_16 : Cond.methodLink RL 23 yX11_feed ∈ wsL_law := ch_10 _ (List.mem_of_getElem? (i := 16) rfl)
theorem m_10_17 : Cond.instanceMethod yX11_feed ∈ wsL_law := ch_10 _ (List.mem_of_getElem? (i := 17) rfl)
theorem m_10_18 : Cond.selects RX11 yX11_feed yX11_feed ∈ wsL_law := ch_10 _ (List.mem_of_getElem? (i := 18) rfl)
theorem m_10_19 : Cond.code yX11_feed cX11_feed 6 (some .int) ∈ wsL_law := ch_10 _ (List.mem_of_getElem? (i := 19) rfl)
theorem m_11_1 : Cond.methodLink RL 27 yX12_feed ∈ wsL_law := ch_11 _ (List.mem_of_getElem? (i := 1) rfl)
theorem m_11_2 : Cond.instanceMethod yX12_feed ∈ wsL_law := ch_11 _ (List.mem_of_getElem? (i := 2) rfl)
theorem m_11_3 : Cond.selects RX12 yX12_feed yX12_feed ∈ wsL_law := ch_11 _ (List.mem_of_getElem? (i := 3) rfl)
theorem m_11_4 : Cond.code yX12_feed cX12_feed 6 (some .int) ∈ wsL_law := ch_11 _ (List.mem_of_getElem? (i := 4) rfl)
theorem m_11_11 : Cond.methodLink RL 28 yX11_end ∈ wsL_law := ch_11 _ (List.mem_of_getElem? (i := 11) rfl)
theorem m_11_12 : Cond.instanceMethod yX11_end ∈ wsL_law := ch_11 _ (List.mem_of_getElem? (i := 12) rfl)
theorem m_11_13 : Cond.selects RX11 yX11_end yX11_end ∈ wsL_law := ch_11 _ (List.mem_of_getElem? (i := 13) rfl)
theorem m_11_14 : Cond.code yX11_end cX11_end 2 (some .boolean) ∈ wsL_law := ch_11 _ (List.mem_of_getElem? (i := 14) rfl)
theorem m_11_15 : Cond.methodLink RL 32 yX12_end ∈ wsL_law := ch_11 _ (List.mem_of_getElem? (i := 15) rfl)
theorem m_11_16 : Cond.instanceMethod yX12_end ∈ wsL_law := ch_11 _ (List.mem_of_getElem? (i := 16) rfl)
theorem m_11_17 : Cond.selects RX12 yX12_end yX12_end ∈ wsL_law := ch_11 _ (List.mem_of_getElem? (i := 17) rfl)
theorem m_11_18 : Cond.code yX12_end cX12_end 2 (some .boolean) ∈ wsL_law := ch_11 _ (List.mem_of_getElem? (i := 18) rfl)
theorem m_11_19 : Cond.methodLink RL 33 yX11_boy ∈ wsL_law := ch_11 _ (List.mem_of_getElem? (i := 19) rfl)
theorem m_11_20 : Cond.instanceMethod yX11_boy ∈ wsL_law := ch_11 _ (List.mem_of_getElem? (i := 20) rfl)
theorem m_11_21 : Cond.selects RX11 yX11_boy yX11_boy ∈ wsL_law := ch_11 _ (List.mem_of_getElem? (i := 21) rfl)
theorem m_11_22 : Cond.code yX11_boy cX11_boy 6 (some .int) ∈ wsL_law := ch_11 _ (List.mem_of_getElem? (i := 22) rfl)
theorem m_15_7 : Cond.methodLink RL 37 yX12_boy ∈ wsL_law := ch_15 _ (List.mem_of_getElem? (i := 7) rfl)
theorem m_15_8 : Cond.instanceMethod yX12_boy ∈ wsL_law := ch_15 _ (List.mem_of_getElem? (i := 8) rfl)
theorem m_15_9 : Cond.selects RX12 yX12_boy yX12_boy ∈ wsL_law := ch_15 _ (List.mem_of_getElem? (i := 9) rfl)
theorem m_15_10 : Cond.code yX12_boy cX12_boy 5 (some .int) ∈ wsL_law := ch_15 _ (List.mem_of_getElem? (i := 10) rfl)
theorem m_15_15 : Cond.methodLink RL 38 yX11_badge ∈ wsL_law := ch_15 _ (List.mem_of_getElem? (i := 15) rfl)
theorem m_15_16 : Cond.instanceMethod yX11_badge ∈ wsL_law := ch_15 _ (List.mem_of_getElem? (i := 16) rfl)
theorem m_15_17 : Cond.selects RX11 yX11_badge yX11_badge ∈ wsL_law := ch_15 _ (List.mem_of_getElem? (i := 17) rfl)
theorem m_15_18 : Cond.code yX11_badge cX11_badge 3 (some .boolean) ∈ wsL_law := ch_15 _ (List.mem_of_getElem? (i := 18) rfl)
theorem m_16_18 : Cond.methodLink RL 42 yX12_badge ∈ wsL_law := ch_16 _ (List.mem_of_getElem? (i := 18) rfl)
theorem m_16_19 : Cond.instanceMethod yX12_badge ∈ wsL_law := ch_16 _ (List.mem_of_getElem? (i := 19) rfl)
theorem m_16_20 : Cond.selects RX12 yX12_badge yX12_badge ∈ wsL_law := ch_16 _ (List.mem_of_getElem? (i := 20) rfl)
theorem m_16_21 : Cond.code yX12_badge cX12_badge 3 (some .boolean) ∈ wsL_law := ch_16 _ (List.mem_of_getElem? (i := 21) rfl)
theorem m_17_2 : Cond.methodLink RL 43 yX11_owner ∈ wsL_law := ch_17 _ (List.mem_of_getElem? (i := 2) rfl)
theorem m_17_3 : Cond.instanceMethod yX11_owner ∈ wsL_law := ch_17 _ (List.mem_of_getElem? (i := 3) rfl)
theorem m_17_4 : Cond.selects RX11 yX11_owner yX11_owner ∈ wsL_law := ch_17 _ (List.mem_of_getElem? (i := 4) rfl)
theorem m_17_5 : Cond.code yX11_owner cX11_owner 3 (some .boolean) ∈ wsL_law := ch_17 _ (List.mem_of_getElem? (i := 5) rfl)
theorem m_17_10 : Cond.methodLink RL 46 yX12_owner ∈ wsL_law := ch_17 _ (List.mem_of_getElem? (i := 10) rfl)
theorem m_17_11 : Cond.instanceMethod yX12_owner ∈ wsL_law := ch_17 _ (List.mem_of_getElem? (i := 11) rfl)
theorem m_17_12 : Cond.selects RX12 yX12_owner yX12_owner ∈ wsL_law := ch_17 _ (List.mem_of_getElem? (i := 12) rfl)
theorem m_17_13 : Cond.code yX12_owner cX12_owner 3 (some .boolean) ∈ wsL_law := ch_17 _ (List.mem_of_getElem? (i := 13) rfl)
theorem m_17_17 : Cond.methodLink RL 47 yX11_weather ∈ wsL_law := ch_17 _ (List.mem_of_getElem? (i := 17) rfl)
theorem m_17_18 : Cond.instanceMethod yX11_weather ∈ wsL_law := ch_17 _ (List.mem_of_getElem? (i := 18) rfl)
theorem m_17_19 : Cond.selects RX11 yX11_weather yX11_weather ∈ wsL_law := ch_17 _ (List.mem_of_getElem? (i := 19) rfl)
theorem m_17_20 : Cond.code yX11_weather cX11_weather 2 (some .boolean) ∈ wsL_law := ch_17 _ (List.mem_of_getElem? (i := 20) rfl)
theorem m_18_7 : Cond.methodLink RL 51 yX12_weather ∈ wsL_law := ch_18 _ (List.mem_of_getElem? (i := 7) rfl)
theorem m_18_8 : Cond.instanceMethod yX12_weather ∈ wsL_law := ch_18 _ (List.mem_of_getElem? (i := 8) rfl)
theorem m_18_9 : Cond.selects RX12 yX12_weather yX12_weather ∈ wsL_law := ch_18 _ (List.mem_of_getElem? (i := 9) rfl)
theorem m_18_10 : Cond.code yX12_weather cX12_weather 3 (some .boolean) ∈ wsL_law := ch_18 _ (List.mem_of_getElem? (i := 10) rfl)
theorem m_18_16 : Cond.methodLink RL 52 yX11_sky ∈ wsL_law := ch_18 _ (List.mem_of_getElem? (i := 16) rfl)
theorem m_18_17 : Cond.instanceMethod yX11_sky ∈ wsL_law := ch_18 _ (List.mem_of_getElem? (i := 17) rfl)
theorem m_18_18 : Cond.selects RX11 yX11_sky yX11_sky ∈ wsL_law := ch_18 _ (List.mem_of_getElem? (i := 18) rfl)
theorem m_18_19 : Cond.code yX11_sky cX11_sky 2 (some .int) ∈ wsL_law := ch_18 _ (List.mem_of_getElem? (i := 19) rfl)
theorem m_18_21 : Cond.methodLink RL 55 yX12_sky ∈ wsL_law := ch_18 _ (List.mem_of_getElem? (i := 21) rfl)
theorem m_18_22 : Cond.instanceMethod yX12_sky ∈ wsL_law := ch_18 _ (List.mem_of_getElem? (i := 22) rfl)
theorem m_18_23 : Cond.selects RX12 yX12_sky yX12_sky ∈ wsL_law := ch_18 _ (List.mem_of_getElem? (i := 23) rfl)
theorem m_19_0 : Cond.code yX12_sky cX12_sky 2 (some .int) ∈ wsL_law := ch_19 _ (List.mem_of_getElem? (i := 0) rfl)
theorem m_19_8 : Cond.methodLink RL 56 yX11_headline ∈ wsL_law := ch_19 _ (List.mem_of_getElem? (i := 8) rfl)
theorem m_19_9 : Cond.instanceMethod yX11_headline ∈ wsL_law := ch_19 _ (List.mem_of_getElem? (i := 9) rfl)
theorem m_19_10 : Cond.selects RX11 yX11_headline yX11_headline ∈ wsL_law := ch_19 _ (List.mem_of_getElem? (i := 10) rfl)
theorem m_19_11 : Cond.code yX11_headline cX11_headline 4 (some .boolean) ∈ wsL_law := ch_19 _ (List.mem_of_getElem? (i := 11) rfl)
theorem m_19_19 : Cond.methodLink RL 60 yX12_headline ∈ wsL_law := ch_19 _ (List.mem_of_getElem? (i := 19) rfl)
theorem m_19_20 : Cond.instanceMethod yX12_headline ∈ wsL_law := ch_19 _ (List.mem_of_getElem? (i := 20) rfl)
theorem m_19_21 : Cond.selects RX12 yX12_headline yX12_headline ∈ wsL_law := ch_19 _ (List.mem_of_getElem? (i := 21) rfl)
theorem m_19_22 : Cond.code yX12_headline cX12_headline 4 (some .boolean) ∈ wsL_law := ch_19 _ (List.mem_of_getElem? (i := 22) rfl)
theorem m_20_3 : Cond.methodLink RL 61 yX11_table ∈ wsL_law := ch_20 _ (List.mem_of_getElem? (i := 3) rfl)
theorem m_20_4 : Cond.instanceMethod yX11_table ∈ wsL_law := ch_20 _ (List.mem_of_getElem? (i := 4) rfl)
theorem m_20_5 : Cond.selects RX11 yX11_table yX11_table ∈ wsL_law := ch_20 _ (List.mem_of_getElem? (i := 5) rfl)
theorem m_20_6 : Cond.code yX11_table cX11_table 4 (some .boolean) ∈ wsL_law := ch_20 _ (List.mem_of_getElem? (i := 6) rfl)
theorem m_20_12 : Cond.methodLink RL 64 yX12_table ∈ wsL_law := ch_20 _ (List.mem_of_getElem? (i := 12) rfl)
theorem m_20_13 : Cond.instanceMethod yX12_table ∈ wsL_law := ch_20 _ (List.mem_of_getElem? (i := 13) rfl)
theorem m_20_14 : Cond.selects RX12 yX12_table yX12_table ∈ wsL_law := ch_20 _ (List.mem_of_getElem? (i := 14) rfl)
theorem m_20_15 : Cond.code yX12_table cX12_table 4 (some .boolean) ∈ wsL_law := ch_20 _ (List.mem_of_getElem? (i := 15) rfl)
theorem m_20_16 : Cond.methodLink RL 65 yX11_want ∈ wsL_law := ch_20 _ (List.mem_of_getElem? (i := 16) rfl)
theorem m_20_17 : Cond.instanceMethod yX11_want ∈ wsL_law := ch_20 _ (List.mem_of_getElem? (i := 17) rfl)
theorem m_20_18 : Cond.selects RX11 yX11_want yX11_want ∈ wsL_law := ch_20 _ (List.mem_of_getElem? (i := 18) rfl)
theorem m_20_19 : Cond.code yX11_want cX11_want 4 (some .boolean) ∈ wsL_law := ch_20 _ (List.mem_of_getElem? (i := 19) rfl)
theorem m_20_21 : Cond.methodLink RL 68 yX12_want ∈ wsL_law := ch_20 _ (List.mem_of_getElem? (i := 21) rfl)
theorem m_20_22 : Cond.instanceMethod yX12_want ∈ wsL_law := ch_20 _ (List.mem_of_getElem? (i := 22) rfl)
theorem m_20_23 : Cond.selects RX12 yX12_want yX12_want ∈ wsL_law := ch_20 _ (List.mem_of_getElem? (i := 23) rfl)
theorem m_21_0 : Cond.code yX12_want cX12_want 4 (some .boolean) ∈ wsL_law := ch_21 _ (List.mem_of_getElem? (i := 0) rfl)
theorem m_21_1 : Cond.methodLink RL 69 yX11_asked ∈ wsL_law := ch_21 _ (List.mem_of_getElem? (i := 1) rfl)
theorem m_21_2 : Cond.instanceMethod yX11_asked ∈ wsL_law := ch_21 _ (List.mem_of_getElem? (i := 2) rfl)
theorem m_21_3 : Cond.selects RX11 yX11_asked yX11_asked ∈ wsL_law := ch_21 _ (List.mem_of_getElem? (i := 3) rfl)
theorem m_21_4 : Cond.code yX11_asked cX11_asked 5 (some .int) ∈ wsL_law := ch_21 _ (List.mem_of_getElem? (i := 4) rfl)
theorem m_21_9 : Cond.methodLink RL 73 yX12_asked ∈ wsL_law := ch_21 _ (List.mem_of_getElem? (i := 9) rfl)
theorem m_21_10 : Cond.instanceMethod yX12_asked ∈ wsL_law := ch_21 _ (List.mem_of_getElem? (i := 10) rfl)
theorem m_21_11 : Cond.selects RX12 yX12_asked yX12_asked ∈ wsL_law := ch_21 _ (List.mem_of_getElem? (i := 11) rfl)
theorem m_21_12 : Cond.code yX12_asked cX12_asked 5 (some .int) ∈ wsL_law := ch_21 _ (List.mem_of_getElem? (i := 12) rfl)
theorem m_21_17 : Cond.methodLink RL 74 yX11_minutes ∈ wsL_law := ch_21 _ (List.mem_of_getElem? (i := 17) rfl)
theorem m_21_18 : Cond.instanceMethod yX11_minutes ∈ wsL_law := ch_21 _ (List.mem_of_getElem? (i := 18) rfl)
theorem m_21_19 : Cond.selects RX11 yX11_minutes yX11_minutes ∈ wsL_law := ch_21 _ (List.mem_of_getElem? (i := 19) rfl)
theorem m_21_20 : Cond.code yX11_minutes cX11_minutes 4 (some .boolean) ∈ wsL_law := ch_21 _ (List.mem_of_getElem? (i := 20) rfl)
theorem m_21_22 : Cond.methodLink RL 77 yX12_minutes ∈ wsL_law := ch_21 _ (List.mem_of_getElem? (i := 22) rfl)
theorem m_21_23 : Cond.instanceMethod yX12_minutes ∈ wsL_law := ch_21 _ (List.mem_of_getElem? (i := 23) rfl)
theorem m_22_0 : Cond.selects RX12 yX12_minutes yX12_minutes ∈ wsL_law := ch_22 _ (List.mem_of_getElem? (i := 0) rfl)
theorem m_22_1 : Cond.code yX12_minutes cX12_minutes 4 (some .boolean) ∈ wsL_law := ch_22 _ (List.mem_of_getElem? (i := 1) rfl)
theorem m_22_7 : Cond.methodLink RL 78 yX11_terms ∈ wsL_law := ch_22 _ (List.mem_of_getElem? (i := 7) rfl)
theorem m_22_8 : Cond.instanceMethod yX11_terms ∈ wsL_law := ch_22 _ (List.mem_of_getElem? (i := 8) rfl)
theorem m_22_9 : Cond.selects RX11 yX11_terms yX11_terms ∈ wsL_law := ch_22 _ (List.mem_of_getElem? (i := 9) rfl)
theorem m_22_10 : Cond.code yX11_terms cX11_terms 3 (some .int) ∈ wsL_law := ch_22 _ (List.mem_of_getElem? (i := 10) rfl)
theorem m_28_3 : Cond.methodLink RL 81 yX12_terms ∈ wsL_law := ch_28 _ (List.mem_of_getElem? (i := 3) rfl)
theorem m_28_4 : Cond.instanceMethod yX12_terms ∈ wsL_law := ch_28 _ (List.mem_of_getElem? (i := 4) rfl)
theorem m_28_5 : Cond.selects RX12 yX12_terms yX12_terms ∈ wsL_law := ch_28 _ (List.mem_of_getElem? (i := 5) rfl)
theorem m_28_6 : Cond.code yX12_terms cX12_terms 4 (some .int) ∈ wsL_law := ch_28 _ (List.mem_of_getElem? (i := 6) rfl)
theorem m_32_9 : Cond.methodLink RL 82 yX11_fault ∈ wsL_law := ch_32 _ (List.mem_of_getElem? (i := 9) rfl)
theorem m_32_10 : Cond.instanceMethod yX11_fault ∈ wsL_law := ch_32 _ (List.mem_of_getElem? (i := 10) rfl)
theorem m_32_11 : Cond.selects RX11 yX11_fault yX11_fault ∈ wsL_law := ch_32 _ (List.mem_of_getElem? (i := 11) rfl)
theorem m_32_12 : Cond.code yX11_fault cX11_fault 1 (some .int) ∈ wsL_law := ch_32 _ (List.mem_of_getElem? (i := 12) rfl)
theorem m_32_13 : Cond.methodLink RL 86 yX12_fault ∈ wsL_law := ch_32 _ (List.mem_of_getElem? (i := 13) rfl)
theorem m_32_14 : Cond.instanceMethod yX12_fault ∈ wsL_law := ch_32 _ (List.mem_of_getElem? (i := 14) rfl)
theorem m_32_15 : Cond.selects RX12 yX12_fault yX12_fault ∈ wsL_law := ch_32 _ (List.mem_of_getElem? (i := 15) rfl)
theorem m_32_16 : Cond.code yX12_fault cX12_fault 1 (some .int) ∈ wsL_law := ch_32 _ (List.mem_of_getElem? (i := 16) rfl)
theorem m_32_17 : Cond.methodLink RL 87 yX11_bundle ∈ wsL_law := ch_32 _ (List.mem_of_getElem? (i := 17) rfl)
theorem m_32_18 : Cond.instanceMethod yX11_bundle ∈ wsL_law := ch_32 _ (List.mem_of_getElem? (i := 18) rfl)
theorem m_32_19 : Cond.selects RX11 yX11_bundle yX11_bundle ∈ wsL_law := ch_32 _ (List.mem_of_getElem? (i := 19) rfl)
theorem m_32_20 : Cond.code yX11_bundle cX11_bundle 7 (some .int) ∈ wsL_law := ch_32 _ (List.mem_of_getElem? (i := 20) rfl)
theorem m_36_1 : Cond.methodLink RL 90 yX12_bundle ∈ wsL_law := ch_36 _ (List.mem_of_getElem? (i := 1) rfl)
theorem m_36_2 : Cond.instanceMethod yX12_bundle ∈ wsL_law := ch_36 _ (List.mem_of_getElem? (i := 2) rfl)
theorem m_36_3 : Cond.selects RX12 yX12_bundle yX12_bundle ∈ wsL_law := ch_36 _ (List.mem_of_getElem? (i := 3) rfl)
theorem m_36_4 : Cond.code yX12_bundle cX12_bundle 8 (some .int) ∈ wsL_law := ch_36 _ (List.mem_of_getElem? (i := 4) rfl)
theorem m_37_4 : Cond.methodLink RL 91 yX11_told ∈ wsL_law := ch_37 _ (List.mem_of_getElem? (i := 4) rfl)
theorem m_37_5 : Cond.instanceMethod yX11_told ∈ wsL_law := ch_37 _ (List.mem_of_getElem? (i := 5) rfl)
theorem m_37_6 : Cond.selects RX11 yX11_told yX11_told ∈ wsL_law := ch_37 _ (List.mem_of_getElem? (i := 6) rfl)
theorem m_37_7 : Cond.code yX11_told cX11_told 5 (some .int) ∈ wsL_law := ch_37 _ (List.mem_of_getElem? (i := 7) rfl)
theorem m_37_18 : Cond.methodLink RL 94 yX12_told ∈ wsL_law := ch_37 _ (List.mem_of_getElem? (i := 18) rfl)
theorem m_37_19 : Cond.instanceMethod yX12_told ∈ wsL_law := ch_37 _ (List.mem_of_getElem? (i := 19) rfl)
theorem m_37_20 : Cond.selects RX12 yX12_told yX12_told ∈ wsL_law := ch_37 _ (List.mem_of_getElem? (i := 20) rfl)
theorem m_37_21 : Cond.code yX12_told cX12_told 4 (some .int) ∈ wsL_law := ch_37 _ (List.mem_of_getElem? (i := 21) rfl)
theorem m_38_2 : Cond.methodLink RL 95 yX11_why ∈ wsL_law := ch_38 _ (List.mem_of_getElem? (i := 2) rfl)
theorem m_38_3 : Cond.instanceMethod yX11_why ∈ wsL_law := ch_38 _ (List.mem_of_getElem? (i := 3) rfl)
theorem m_38_4 : Cond.selects RX11 yX11_why yX11_why ∈ wsL_law := ch_38 _ (List.mem_of_getElem? (i := 4) rfl)
theorem m_38_5 : Cond.code yX11_why cX11_why 1 (some .int) ∈ wsL_law := ch_38 _ (List.mem_of_getElem? (i := 5) rfl)
theorem m_38_6 : Cond.methodLink RL 98 yX12_why ∈ wsL_law := ch_38 _ (List.mem_of_getElem? (i := 6) rfl)
theorem m_38_7 : Cond.instanceMethod yX12_why ∈ wsL_law := ch_38 _ (List.mem_of_getElem? (i := 7) rfl)
theorem m_38_8 : Cond.selects RX12 yX12_why yX12_why ∈ wsL_law := ch_38 _ (List.mem_of_getElem? (i := 8) rfl)
theorem m_38_9 : Cond.code yX12_why cX12_why 1 (some .int) ∈ wsL_law := ch_38 _ (List.mem_of_getElem? (i := 9) rfl)
theorem m_38_10 : Cond.methodLink RL 99 yX11_close ∈ wsL_law := ch_38 _ (List.mem_of_getElem? (i := 10) rfl)
theorem m_38_11 : Cond.instanceMethod yX11_close ∈ wsL_law := ch_38 _ (List.mem_of_getElem? (i := 11) rfl)
theorem m_38_12 : Cond.selects RX11 yX11_close yX11_close ∈ wsL_law := ch_38 _ (List.mem_of_getElem? (i := 12) rfl)
theorem m_38_13 : Cond.code yX11_close cX11_close 1 (some .int) ∈ wsL_law := ch_38 _ (List.mem_of_getElem? (i := 13) rfl)
theorem m_40_16 : Cond.methodLink RL 102 yX12_close ∈ wsL_law := ch_40 _ (List.mem_of_getElem? (i := 16) rfl)
theorem m_40_17 : Cond.instanceMethod yX12_close ∈ wsL_law := ch_40 _ (List.mem_of_getElem? (i := 17) rfl)
theorem m_40_18 : Cond.selects RX12 yX12_close yX12_close ∈ wsL_law := ch_40 _ (List.mem_of_getElem? (i := 18) rfl)
theorem m_40_19 : Cond.code yX12_close cX12_close 4 (some .int) ∈ wsL_law := ch_40 _ (List.mem_of_getElem? (i := 19) rfl)
theorem m_42_3 : Cond.methodLink RL 108 yX12_of ∈ wsL_law := ch_42 _ (List.mem_of_getElem? (i := 3) rfl)
theorem m_42_4 : Cond.instanceMethod yX12_of ∈ wsL_law := ch_42 _ (List.mem_of_getElem? (i := 4) rfl)
theorem m_42_5 : Cond.selects RX12 yX12_of yX12_of ∈ wsL_law := ch_42 _ (List.mem_of_getElem? (i := 5) rfl)
theorem m_42_6 : Cond.code yX12_of cX12_of 3 (some .int) ∈ wsL_law := ch_42 _ (List.mem_of_getElem? (i := 6) rfl)
theorem m_42_18 : Cond.methodLink RL 112 yX12_coin ∈ wsL_law := ch_42 _ (List.mem_of_getElem? (i := 18) rfl)
theorem m_42_19 : Cond.instanceMethod yX12_coin ∈ wsL_law := ch_42 _ (List.mem_of_getElem? (i := 19) rfl)
theorem m_42_20 : Cond.selects RX12 yX12_coin yX12_coin ∈ wsL_law := ch_42 _ (List.mem_of_getElem? (i := 20) rfl)
theorem m_42_21 : Cond.code yX12_coin cX12_coin 2 (some .int) ∈ wsL_law := ch_42 _ (List.mem_of_getElem? (i := 21) rfl)
theorem m_42_22 : Cond.methodLink RL 113 yX11_counted ∈ wsL_law := ch_42 _ (List.mem_of_getElem? (i := 22) rfl)
theorem m_43_0 : Cond.instanceMethod yX11_counted ∈ wsL_law := ch_43 _ (List.mem_of_getElem? (i := 0) rfl)
theorem m_43_1 : Cond.selects RX11 yX11_counted yX11_counted ∈ wsL_law := ch_43 _ (List.mem_of_getElem? (i := 1) rfl)
theorem m_43_2 : Cond.code yX11_counted cX11_counted 5 (some .int) ∈ wsL_law := ch_43 _ (List.mem_of_getElem? (i := 2) rfl)
theorem m_43_9 : Cond.methodLink RL 116 yX12_counted ∈ wsL_law := ch_43 _ (List.mem_of_getElem? (i := 9) rfl)
theorem m_43_10 : Cond.instanceMethod yX12_counted ∈ wsL_law := ch_43 _ (List.mem_of_getElem? (i := 10) rfl)
theorem m_43_11 : Cond.selects RX12 yX12_counted yX12_counted ∈ wsL_law := ch_43 _ (List.mem_of_getElem? (i := 11) rfl)
theorem m_43_12 : Cond.code yX12_counted cX12_counted 5 (some .int) ∈ wsL_law := ch_43 _ (List.mem_of_getElem? (i := 12) rfl)
theorem m_43_14 : Cond.methodLink RL 117 yX11_falseCounts ∈ wsL_law := ch_43 _ (List.mem_of_getElem? (i := 14) rfl)
theorem m_43_15 : Cond.instanceMethod yX11_falseCounts ∈ wsL_law := ch_43 _ (List.mem_of_getElem? (i := 15) rfl)
theorem m_43_16 : Cond.selects RX11 yX11_falseCounts yX11_falseCounts ∈ wsL_law := ch_43 _ (List.mem_of_getElem? (i := 16) rfl)
theorem m_43_17 : Cond.code yX11_falseCounts cX11_falseCounts 2 (some .int) ∈ wsL_law := ch_43 _ (List.mem_of_getElem? (i := 17) rfl)
theorem m_44_6 : Cond.methodLink RL 120 yX12_falseCounts ∈ wsL_law := ch_44 _ (List.mem_of_getElem? (i := 6) rfl)
theorem m_44_7 : Cond.instanceMethod yX12_falseCounts ∈ wsL_law := ch_44 _ (List.mem_of_getElem? (i := 7) rfl)
theorem m_44_8 : Cond.selects RX12 yX12_falseCounts yX12_falseCounts ∈ wsL_law := ch_44 _ (List.mem_of_getElem? (i := 8) rfl)
theorem m_44_9 : Cond.code yX12_falseCounts cX12_falseCounts 7 (some .int) ∈ wsL_law := ch_44 _ (List.mem_of_getElem? (i := 9) rfl)
theorem m_44_18 : Cond.methodLink RL 121 yX11_shortOf ∈ wsL_law := ch_44 _ (List.mem_of_getElem? (i := 18) rfl)
theorem m_44_19 : Cond.instanceMethod yX11_shortOf ∈ wsL_law := ch_44 _ (List.mem_of_getElem? (i := 19) rfl)
theorem m_44_20 : Cond.selects RX11 yX11_shortOf yX11_shortOf ∈ wsL_law := ch_44 _ (List.mem_of_getElem? (i := 20) rfl)
theorem m_44_21 : Cond.code yX11_shortOf cX11_shortOf 2 (some .int) ∈ wsL_law := ch_44 _ (List.mem_of_getElem? (i := 21) rfl)
theorem m_45_17 : Cond.methodLink RL 124 yX12_shortOf ∈ wsL_law := ch_45 _ (List.mem_of_getElem? (i := 17) rfl)
theorem m_45_18 : Cond.instanceMethod yX12_shortOf ∈ wsL_law := ch_45 _ (List.mem_of_getElem? (i := 18) rfl)
theorem m_45_19 : Cond.selects RX12 yX12_shortOf yX12_shortOf ∈ wsL_law := ch_45 _ (List.mem_of_getElem? (i := 19) rfl)
theorem m_45_20 : Cond.code yX12_shortOf cX12_shortOf 9 (some .int) ∈ wsL_law := ch_45 _ (List.mem_of_getElem? (i := 20) rfl)
theorem m_46_1 : Cond.methodLink RL 125 yX11_best ∈ wsL_law := ch_46 _ (List.mem_of_getElem? (i := 1) rfl)
theorem m_46_2 : Cond.instanceMethod yX11_best ∈ wsL_law := ch_46 _ (List.mem_of_getElem? (i := 2) rfl)
theorem m_46_3 : Cond.selects RX11 yX11_best yX11_best ∈ wsL_law := ch_46 _ (List.mem_of_getElem? (i := 3) rfl)
theorem m_46_4 : Cond.code yX11_best cX11_best 7 (some .int) ∈ wsL_law := ch_46 _ (List.mem_of_getElem? (i := 4) rfl)
theorem m_47_0 : Cond.methodLink RL 128 yX12_best ∈ wsL_law := ch_47 _ (List.mem_of_getElem? (i := 0) rfl)
theorem m_47_1 : Cond.instanceMethod yX12_best ∈ wsL_law := ch_47 _ (List.mem_of_getElem? (i := 1) rfl)
theorem m_47_2 : Cond.selects RX12 yX12_best yX12_best ∈ wsL_law := ch_47 _ (List.mem_of_getElem? (i := 2) rfl)
theorem m_47_3 : Cond.code yX12_best cX12_best 19 (some .int) ∈ wsL_law := ch_47 _ (List.mem_of_getElem? (i := 3) rfl)
theorem m_47_5 : Cond.methodLink RL 129 yX11_expected ∈ wsL_law := ch_47 _ (List.mem_of_getElem? (i := 5) rfl)
theorem m_47_6 : Cond.instanceMethod yX11_expected ∈ wsL_law := ch_47 _ (List.mem_of_getElem? (i := 6) rfl)
theorem m_47_7 : Cond.selects RX11 yX11_expected yX11_expected ∈ wsL_law := ch_47 _ (List.mem_of_getElem? (i := 7) rfl)
theorem m_47_8 : Cond.code yX11_expected cX11_expected 1 (some .long) ∈ wsL_law := ch_47 _ (List.mem_of_getElem? (i := 8) rfl)
theorem m_47_10 : Cond.methodLink RL 133 yX12_expected ∈ wsL_law := ch_47 _ (List.mem_of_getElem? (i := 10) rfl)
theorem m_47_11 : Cond.instanceMethod yX12_expected ∈ wsL_law := ch_47 _ (List.mem_of_getElem? (i := 11) rfl)
theorem m_47_12 : Cond.selects RX12 yX12_expected yX12_expected ∈ wsL_law := ch_47 _ (List.mem_of_getElem? (i := 12) rfl)
theorem m_47_13 : Cond.code yX12_expected cX12_expected 1 (some .long) ∈ wsL_law := ch_47 _ (List.mem_of_getElem? (i := 13) rfl)
theorem m_47_14 : Cond.methodLink RL 134 yX11_tried ∈ wsL_law := ch_47 _ (List.mem_of_getElem? (i := 14) rfl)
theorem m_47_15 : Cond.instanceMethod yX11_tried ∈ wsL_law := ch_47 _ (List.mem_of_getElem? (i := 15) rfl)
theorem m_47_16 : Cond.selects RX11 yX11_tried yX11_tried ∈ wsL_law := ch_47 _ (List.mem_of_getElem? (i := 16) rfl)
theorem m_47_17 : Cond.code yX11_tried cX11_tried 1 (some .int) ∈ wsL_law := ch_47 _ (List.mem_of_getElem? (i := 17) rfl)
theorem m_48_3 : Cond.methodLink RL 137 yX12_tried ∈ wsL_law := ch_48 _ (List.mem_of_getElem? (i := 3) rfl)
theorem m_48_4 : Cond.instanceMethod yX12_tried ∈ wsL_law := ch_48 _ (List.mem_of_getElem? (i := 4) rfl)
theorem m_48_5 : Cond.selects RX12 yX12_tried yX12_tried ∈ wsL_law := ch_48 _ (List.mem_of_getElem? (i := 5) rfl)
theorem m_48_6 : Cond.code yX12_tried cX12_tried 5 (some .int) ∈ wsL_law := ch_48 _ (List.mem_of_getElem? (i := 6) rfl)
theorem m_48_12 : Cond.methodLink RL 138 yX11_triedEaten ∈ wsL_law := ch_48 _ (List.mem_of_getElem? (i := 12) rfl)
theorem m_48_13 : Cond.instanceMethod yX11_triedEaten ∈ wsL_law := ch_48 _ (List.mem_of_getElem? (i := 13) rfl)
theorem m_48_14 : Cond.selects RX11 yX11_triedEaten yX11_triedEaten ∈ wsL_law := ch_48 _ (List.mem_of_getElem? (i := 14) rfl)
theorem m_48_15 : Cond.code yX11_triedEaten cX11_triedEaten 1 (some .int) ∈ wsL_law := ch_48 _ (List.mem_of_getElem? (i := 15) rfl)
theorem m_48_16 : Cond.methodLink RL 141 yX12_triedEaten ∈ wsL_law := ch_48 _ (List.mem_of_getElem? (i := 16) rfl)
theorem m_48_17 : Cond.instanceMethod yX12_triedEaten ∈ wsL_law := ch_48 _ (List.mem_of_getElem? (i := 17) rfl)
theorem m_48_18 : Cond.selects RX12 yX12_triedEaten yX12_triedEaten ∈ wsL_law := ch_48 _ (List.mem_of_getElem? (i := 18) rfl)
theorem m_48_19 : Cond.code yX12_triedEaten cX12_triedEaten 1 (some .int) ∈ wsL_law := ch_48 _ (List.mem_of_getElem? (i := 19) rfl)
theorem m_48_20 : Cond.methodLink RL 142 yX11_parted ∈ wsL_law := ch_48 _ (List.mem_of_getElem? (i := 20) rfl)
theorem m_48_21 : Cond.instanceMethod yX11_parted ∈ wsL_law := ch_48 _ (List.mem_of_getElem? (i := 21) rfl)
theorem m_48_22 : Cond.selects RX11 yX11_parted yX11_parted ∈ wsL_law := ch_48 _ (List.mem_of_getElem? (i := 22) rfl)
theorem m_48_23 : Cond.code yX11_parted cX11_parted 6 (some .int) ∈ wsL_law := ch_48 _ (List.mem_of_getElem? (i := 23) rfl)
theorem m_51_16 : Cond.methodLink RL 146 yX12_parted ∈ wsL_law := ch_51 _ (List.mem_of_getElem? (i := 16) rfl)
theorem m_51_17 : Cond.instanceMethod yX12_parted ∈ wsL_law := ch_51 _ (List.mem_of_getElem? (i := 17) rfl)
theorem m_51_18 : Cond.selects RX12 yX12_parted yX12_parted ∈ wsL_law := ch_51 _ (List.mem_of_getElem? (i := 18) rfl)
theorem m_51_19 : Cond.code yX12_parted cX12_parted 7 (some .int) ∈ wsL_law := ch_51 _ (List.mem_of_getElem? (i := 19) rfl)
theorem m_52_16 : Cond.methodLink RL 147 yX11_partedAt ∈ wsL_law := ch_52 _ (List.mem_of_getElem? (i := 16) rfl)
theorem m_52_17 : Cond.instanceMethod yX11_partedAt ∈ wsL_law := ch_52 _ (List.mem_of_getElem? (i := 17) rfl)
theorem m_52_18 : Cond.selects RX11 yX11_partedAt yX11_partedAt ∈ wsL_law := ch_52 _ (List.mem_of_getElem? (i := 18) rfl)
theorem m_52_19 : Cond.code yX11_partedAt cX11_partedAt 2 (some .int) ∈ wsL_law := ch_52 _ (List.mem_of_getElem? (i := 19) rfl)
theorem m_52_22 : Cond.methodLink RL 150 yX12_partedAt ∈ wsL_law := ch_52 _ (List.mem_of_getElem? (i := 22) rfl)
theorem m_52_23 : Cond.instanceMethod yX12_partedAt ∈ wsL_law := ch_52 _ (List.mem_of_getElem? (i := 23) rfl)
theorem m_53_0 : Cond.selects RX12 yX12_partedAt yX12_partedAt ∈ wsL_law := ch_53 _ (List.mem_of_getElem? (i := 0) rfl)
theorem m_53_1 : Cond.code yX12_partedAt cX12_partedAt 2 (some .int) ∈ wsL_law := ch_53 _ (List.mem_of_getElem? (i := 1) rfl)
theorem m_53_2 : Cond.methodLink RL 151 yX11_peace ∈ wsL_law := ch_53 _ (List.mem_of_getElem? (i := 2) rfl)
theorem m_53_3 : Cond.instanceMethod yX11_peace ∈ wsL_law := ch_53 _ (List.mem_of_getElem? (i := 3) rfl)
theorem m_53_4 : Cond.selects RX11 yX11_peace yX11_peace ∈ wsL_law := ch_53 _ (List.mem_of_getElem? (i := 4) rfl)
theorem m_53_5 : Cond.code yX11_peace cX11_peace 2 (some .int) ∈ wsL_law := ch_53 _ (List.mem_of_getElem? (i := 5) rfl)
theorem m_53_10 : Cond.methodLink RL 154 yX12_peace ∈ wsL_law := ch_53 _ (List.mem_of_getElem? (i := 10) rfl)
theorem m_53_11 : Cond.instanceMethod yX12_peace ∈ wsL_law := ch_53 _ (List.mem_of_getElem? (i := 11) rfl)
theorem m_53_12 : Cond.selects RX12 yX12_peace yX12_peace ∈ wsL_law := ch_53 _ (List.mem_of_getElem? (i := 12) rfl)
theorem m_53_13 : Cond.code yX12_peace cX12_peace 2 (some .int) ∈ wsL_law := ch_53 _ (List.mem_of_getElem? (i := 13) rfl)
theorem m_53_14 : Cond.methodLink RL 155 yX11_truck ∈ wsL_law := ch_53 _ (List.mem_of_getElem? (i := 14) rfl)
theorem m_53_15 : Cond.instanceMethod yX11_truck ∈ wsL_law := ch_53 _ (List.mem_of_getElem? (i := 15) rfl)
theorem m_53_16 : Cond.selects RX11 yX11_truck yX11_truck ∈ wsL_law := ch_53 _ (List.mem_of_getElem? (i := 16) rfl)
theorem m_53_17 : Cond.code yX11_truck cX11_truck 2 (some .int) ∈ wsL_law := ch_53 _ (List.mem_of_getElem? (i := 17) rfl)
theorem m_55_10 : Cond.methodLink RL 158 yX12_truck ∈ wsL_law := ch_55 _ (List.mem_of_getElem? (i := 10) rfl)
theorem m_55_11 : Cond.instanceMethod yX12_truck ∈ wsL_law := ch_55 _ (List.mem_of_getElem? (i := 11) rfl)
theorem m_55_12 : Cond.selects RX12 yX12_truck yX12_truck ∈ wsL_law := ch_55 _ (List.mem_of_getElem? (i := 12) rfl)
theorem m_55_13 : Cond.code yX12_truck cX12_truck 7 (some .int) ∈ wsL_law := ch_55 _ (List.mem_of_getElem? (i := 13) rfl)
theorem m_56_2 : Cond.methodLink RL 159 yX11_truckAt ∈ wsL_law := ch_56 _ (List.mem_of_getElem? (i := 2) rfl)
theorem m_56_3 : Cond.instanceMethod yX11_truckAt ∈ wsL_law := ch_56 _ (List.mem_of_getElem? (i := 3) rfl)
theorem m_56_4 : Cond.selects RX11 yX11_truckAt yX11_truckAt ∈ wsL_law := ch_56 _ (List.mem_of_getElem? (i := 4) rfl)
theorem m_56_5 : Cond.code yX11_truckAt cX11_truckAt 2 (some .int) ∈ wsL_law := ch_56 _ (List.mem_of_getElem? (i := 5) rfl)
theorem m_56_8 : Cond.methodLink RL 162 yX12_truckAt ∈ wsL_law := ch_56 _ (List.mem_of_getElem? (i := 8) rfl)
theorem m_56_9 : Cond.instanceMethod yX12_truckAt ∈ wsL_law := ch_56 _ (List.mem_of_getElem? (i := 9) rfl)
theorem m_56_10 : Cond.selects RX12 yX12_truckAt yX12_truckAt ∈ wsL_law := ch_56 _ (List.mem_of_getElem? (i := 10) rfl)
theorem m_56_11 : Cond.code yX12_truckAt cX12_truckAt 2 (some .int) ∈ wsL_law := ch_56 _ (List.mem_of_getElem? (i := 11) rfl)
theorem m_56_12 : Cond.methodLink RL 163 yX11_strike ∈ wsL_law := ch_56 _ (List.mem_of_getElem? (i := 12) rfl)
theorem m_56_13 : Cond.instanceMethod yX11_strike ∈ wsL_law := ch_56 _ (List.mem_of_getElem? (i := 13) rfl)
theorem m_56_14 : Cond.selects RX11 yX11_strike yX11_strike ∈ wsL_law := ch_56 _ (List.mem_of_getElem? (i := 14) rfl)
theorem m_56_15 : Cond.code yX11_strike cX11_strike 7 (some .int) ∈ wsL_law := ch_56 _ (List.mem_of_getElem? (i := 15) rfl)
theorem m_57_5 : Cond.methodLink RL 166 yX12_strike ∈ wsL_law := ch_57 _ (List.mem_of_getElem? (i := 5) rfl)
theorem m_57_6 : Cond.instanceMethod yX12_strike ∈ wsL_law := ch_57 _ (List.mem_of_getElem? (i := 6) rfl)
theorem m_57_7 : Cond.selects RX12 yX12_strike yX12_strike ∈ wsL_law := ch_57 _ (List.mem_of_getElem? (i := 7) rfl)
theorem m_57_8 : Cond.code yX12_strike cX12_strike 13 (some .int) ∈ wsL_law := ch_57 _ (List.mem_of_getElem? (i := 8) rfl)
theorem m_57_12 : Cond.methodLink RL 167 yX11_struck ∈ wsL_law := ch_57 _ (List.mem_of_getElem? (i := 12) rfl)
theorem m_57_13 : Cond.instanceMethod yX11_struck ∈ wsL_law := ch_57 _ (List.mem_of_getElem? (i := 13) rfl)
theorem m_57_14 : Cond.selects RX11 yX11_struck yX11_struck ∈ wsL_law := ch_57 _ (List.mem_of_getElem? (i := 14) rfl)
theorem m_57_15 : Cond.code yX11_struck cX11_struck 2 (some .int) ∈ wsL_law := ch_57 _ (List.mem_of_getElem? (i := 15) rfl)
theorem m_57_16 : Cond.methodLink RL 170 yX12_struck ∈ wsL_law := ch_57 _ (List.mem_of_getElem? (i := 16) rfl)
theorem m_57_17 : Cond.instanceMethod yX12_struck ∈ wsL_law := ch_57 _ (List.mem_of_getElem? (i := 17) rfl)
theorem m_57_18 : Cond.selects RX12 yX12_struck yX12_struck ∈ wsL_law := ch_57 _ (List.mem_of_getElem? (i := 18) rfl)
theorem m_57_19 : Cond.code yX12_struck cX12_struck 2 (some .int) ∈ wsL_law := ch_57 _ (List.mem_of_getElem? (i := 19) rfl)
theorem m_57_20 : Cond.methodLink RL 171 yX11_count ∈ wsL_law := ch_57 _ (List.mem_of_getElem? (i := 20) rfl)
theorem m_57_21 : Cond.instanceMethod yX11_count ∈ wsL_law := ch_57 _ (List.mem_of_getElem? (i := 21) rfl)
theorem m_57_22 : Cond.selects RX11 yX11_count yX11_count ∈ wsL_law := ch_57 _ (List.mem_of_getElem? (i := 22) rfl)
theorem m_57_23 : Cond.code yX11_count cX11_count 2 (some .int) ∈ wsL_law := ch_57 _ (List.mem_of_getElem? (i := 23) rfl)
theorem m_58_0 : Cond.methodLink RL 174 yX12_count ∈ wsL_law := ch_58 _ (List.mem_of_getElem? (i := 0) rfl)
theorem m_58_1 : Cond.instanceMethod yX12_count ∈ wsL_law := ch_58 _ (List.mem_of_getElem? (i := 1) rfl)
theorem m_58_2 : Cond.selects RX12 yX12_count yX12_count ∈ wsL_law := ch_58 _ (List.mem_of_getElem? (i := 2) rfl)
theorem m_58_3 : Cond.code yX12_count cX12_count 2 (some .int) ∈ wsL_law := ch_58 _ (List.mem_of_getElem? (i := 3) rfl)
theorem dL_law_0 : decode cL_law 0 = .ok (.new 8, 3) := by decide +kernel
theorem dL_law_3 : decode cL_law 3 = .ok (.dup, 1) := by decide +kernel
theorem dL_law_4 : decode cL_law 4 = .ok (.invokespecial 19, 3) := by decide +kernel
theorem dL_law_7 : decode cL_law 7 = .ok (.astore_n 1, 1) := by decide +kernel
theorem dL_law_8 : decode cL_law 8 = .ok (.new 20, 3) := by decide +kernel
theorem dL_law_11 : decode cL_law 11 = .ok (.dup, 1) := by decide +kernel
theorem dL_law_12 : decode cL_law 12 = .ok (.invokespecial 22, 3) := by decide +kernel
theorem dL_law_15 : decode cL_law 15 = .ok (.astore_n 2, 1) := by decide +kernel
theorem dL_law_16 : decode cL_law 16 = .ok (.iconst 1, 1) := by decide +kernel
theorem dL_law_17 : decode cL_law 17 = .ok (.newarray .long, 2) := by decide +kernel
theorem dL_law_19 : decode cL_law 19 = .ok (.astore_n 3, 1) := by decide +kernel
theorem dL_law_20 : decode cL_law 20 = .ok (.iconst 0, 1) := by decide +kernel
theorem dL_law_21 : decode cL_law 21 = .ok (.istore 4, 2) := by decide +kernel
theorem dL_law_23 : decode cL_law 23 = .ok (.iload 4, 2) := by decide +kernel
theorem dL_law_25 : decode cL_law 25 = .ok (.aload_n 0, 1) := by decide +kernel
theorem dL_law_26 : decode cL_law 26 = .ok (.arraylength, 1) := by decide +kernel
theorem dL_law_27 : decode cL_law 27 = .ok (.bipush 6, 2) := by decide +kernel
theorem dL_law_29 : decode cL_law 29 = .ok (.isub, 1) := by decide +kernel
theorem dL_law_30 : decode cL_law 30 = .ok (.if_icmp .gt 1441, 3) := by decide +kernel
theorem dL_law_33 : decode cL_law 33 = .ok (.aload_n 0, 1) := by decide +kernel
theorem dL_law_34 : decode cL_law 34 = .ok (.iload 4, 2) := by decide +kernel
theorem dL_law_36 : decode cL_law 36 = .ok (.iaload, 1) := by decide +kernel
theorem dL_law_37 : decode cL_law 37 = .ok (.bipush 63, 2) := by decide +kernel
theorem dL_law_39 : decode cL_law 39 = .ok (.iand, 1) := by decide +kernel
theorem dL_law_40 : decode cL_law 40 = .ok (.tableswitch 1425 0 34 #[156, 229, 254, 331, 368, 405, 418, 443, 492, 541, 590, 651, 700, 725, 738, 811, 848, 861, 874, 914, 942, 1003, 1028, 1053, 1126, 1139, 1152, 1165, 1214, 1239, 1264, 1277, 1302, 1375, 1400], 156) := by decide +kernel
theorem dL_law_196 : decode cL_law 196 = .ok (.aload_n 1, 1) := by decide +kernel
theorem dL_law_197 : decode cL_law 197 = .ok (.aload_n 0, 1) := by decide +kernel
theorem dL_law_198 : decode cL_law 198 = .ok (.iload 4, 2) := by decide +kernel
theorem dL_law_200 : decode cL_law 200 = .ok (.iconst 1, 1) := by decide +kernel
theorem dL_law_201 : decode cL_law 201 = .ok (.iadd, 1) := by decide +kernel
theorem dL_law_202 : decode cL_law 202 = .ok (.iaload, 1) := by decide +kernel
theorem dL_law_203 : decode cL_law 203 = .ok (.aload_n 0, 1) := by decide +kernel
theorem dL_law_204 : decode cL_law 204 = .ok (.iload 4, 2) := by decide +kernel
theorem dL_law_206 : decode cL_law 206 = .ok (.iconst 2, 1) := by decide +kernel
theorem dL_law_207 : decode cL_law 207 = .ok (.iadd, 1) := by decide +kernel
theorem dL_law_208 : decode cL_law 208 = .ok (.iaload, 1) := by decide +kernel
theorem dL_law_209 : decode cL_law 209 = .ok (.aload_n 0, 1) := by decide +kernel
theorem dL_law_210 : decode cL_law 210 = .ok (.iload 4, 2) := by decide +kernel
theorem dL_law_212 : decode cL_law 212 = .ok (.iconst 3, 1) := by decide +kernel
theorem dL_law_213 : decode cL_law 213 = .ok (.iadd, 1) := by decide +kernel
theorem dL_law_214 : decode cL_law 214 = .ok (.iaload, 1) := by decide +kernel
theorem dL_law_215 : decode cL_law 215 = .ok (.aload_n 0, 1) := by decide +kernel
theorem dL_law_216 : decode cL_law 216 = .ok (.iload 4, 2) := by decide +kernel
theorem dL_law_218 : decode cL_law 218 = .ok (.iconst 4, 1) := by decide +kernel
theorem dL_law_219 : decode cL_law 219 = .ok (.iadd, 1) := by decide +kernel
theorem dL_law_220 : decode cL_law 220 = .ok (.iaload, 1) := by decide +kernel
theorem dL_law_221 : decode cL_law 221 = .ok (.aload_n 0, 1) := by decide +kernel
theorem dL_law_222 : decode cL_law 222 = .ok (.iload 4, 2) := by decide +kernel
theorem dL_law_224 : decode cL_law 224 = .ok (.iconst 5, 1) := by decide +kernel
theorem dL_law_225 : decode cL_law 225 = .ok (.iadd, 1) := by decide +kernel
theorem dL_law_226 : decode cL_law 226 = .ok (.iaload, 1) := by decide +kernel
theorem dL_law_227 : decode cL_law 227 = .ok (.invokevirtual 23, 3) := by decide +kernel
theorem dL_law_230 : decode cL_law 230 = .ok (.pop, 1) := by decide +kernel
theorem dL_law_231 : decode cL_law 231 = .ok (.aload_n 2, 1) := by decide +kernel
theorem dL_law_232 : decode cL_law 232 = .ok (.aload_n 0, 1) := by decide +kernel
theorem dL_law_233 : decode cL_law 233 = .ok (.iload 4, 2) := by decide +kernel
theorem dL_law_235 : decode cL_law 235 = .ok (.iconst 1, 1) := by decide +kernel
theorem dL_law_236 : decode cL_law 236 = .ok (.iadd, 1) := by decide +kernel
theorem dL_law_237 : decode cL_law 237 = .ok (.iaload, 1) := by decide +kernel
theorem dL_law_238 : decode cL_law 238 = .ok (.aload_n 0, 1) := by decide +kernel
theorem dL_law_239 : decode cL_law 239 = .ok (.iload 4, 2) := by decide +kernel
theorem dL_law_241 : decode cL_law 241 = .ok (.iconst 2, 1) := by decide +kernel
theorem dL_law_242 : decode cL_law 242 = .ok (.iadd, 1) := by decide +kernel
theorem dL_law_243 : decode cL_law 243 = .ok (.iaload, 1) := by decide +kernel
theorem dL_law_244 : decode cL_law 244 = .ok (.aload_n 0, 1) := by decide +kernel
theorem dL_law_245 : decode cL_law 245 = .ok (.iload 4, 2) := by decide +kernel
theorem dL_law_247 : decode cL_law 247 = .ok (.iconst 3, 1) := by decide +kernel
theorem dL_law_248 : decode cL_law 248 = .ok (.iadd, 1) := by decide +kernel
theorem dL_law_249 : decode cL_law 249 = .ok (.iaload, 1) := by decide +kernel
theorem dL_law_250 : decode cL_law 250 = .ok (.aload_n 0, 1) := by decide +kernel
theorem dL_law_251 : decode cL_law 251 = .ok (.iload 4, 2) := by decide +kernel
theorem dL_law_253 : decode cL_law 253 = .ok (.iconst 4, 1) := by decide +kernel
theorem dL_law_254 : decode cL_law 254 = .ok (.iadd, 1) := by decide +kernel
theorem dL_law_255 : decode cL_law 255 = .ok (.iaload, 1) := by decide +kernel
theorem dL_law_256 : decode cL_law 256 = .ok (.aload_n 0, 1) := by decide +kernel
theorem dL_law_257 : decode cL_law 257 = .ok (.iload 4, 2) := by decide +kernel
theorem dL_law_259 : decode cL_law 259 = .ok (.iconst 5, 1) := by decide +kernel
theorem dL_law_260 : decode cL_law 260 = .ok (.iadd, 1) := by decide +kernel
theorem dL_law_261 : decode cL_law 261 = .ok (.iaload, 1) := by decide +kernel
theorem dL_law_262 : decode cL_law 262 = .ok (.invokevirtual 27, 3) := by decide +kernel
theorem dL_law_265 : decode cL_law 265 = .ok (.pop, 1) := by decide +kernel
theorem dL_law_266 : decode cL_law 266 = .ok (.goto 1199, 3) := by decide +kernel
theorem dL_law_269 : decode cL_law 269 = .ok (.aload_n 1, 1) := by decide +kernel
theorem dL_law_270 : decode cL_law 270 = .ok (.aload_n 0, 1) := by decide +kernel
theorem dL_law_271 : decode cL_law 271 = .ok (.iload 4, 2) := by decide +kernel
theorem dL_law_273 : decode cL_law 273 = .ok (.iconst 1, 1) := by decide +kernel
theorem dL_law_274 : decode cL_law 274 = .ok (.iadd, 1) := by decide +kernel
theorem dL_law_275 : decode cL_law 275 = .ok (.iaload, 1) := by decide +kernel
theorem dL_law_276 : decode cL_law 276 = .ok (.invokevirtual 28, 3) := by decide +kernel
theorem dL_law_279 : decode cL_law 279 = .ok (.pop, 1) := by decide +kernel
theorem dL_law_280 : decode cL_law 280 = .ok (.aload_n 2, 1) := by decide +kernel
theorem dL_law_281 : decode cL_law 281 = .ok (.aload_n 0, 1) := by decide +kernel
theorem dL_law_282 : decode cL_law 282 = .ok (.iload 4, 2) := by decide +kernel
theorem dL_law_284 : decode cL_law 284 = .ok (.iconst 1, 1) := by decide +kernel
theorem dL_law_285 : decode cL_law 285 = .ok (.iadd, 1) := by decide +kernel
theorem dL_law_286 : decode cL_law 286 = .ok (.iaload, 1) := by decide +kernel
theorem dL_law_287 : decode cL_law 287 = .ok (.invokevirtual 32, 3) := by decide +kernel
theorem dL_law_290 : decode cL_law 290 = .ok (.pop, 1) := by decide +kernel
theorem dL_law_291 : decode cL_law 291 = .ok (.goto 1174, 3) := by decide +kernel
theorem dL_law_294 : decode cL_law 294 = .ok (.aload_n 1, 1) := by decide +kernel
theorem dL_law_295 : decode cL_law 295 = .ok (.aload_n 0, 1) := by decide +kernel
theorem dL_law_296 : decode cL_law 296 = .ok (.iload 4, 2) := by decide +kernel
theorem dL_law_298 : decode cL_law 298 = .ok (.iconst 1, 1) := by decide +kernel
theorem dL_law_299 : decode cL_law 299 = .ok (.iadd, 1) := by decide +kernel
theorem dL_law_300 : decode cL_law 300 = .ok (.iaload, 1) := by decide +kernel
theorem dL_law_301 : decode cL_law 301 = .ok (.aload_n 0, 1) := by decide +kernel
theorem dL_law_302 : decode cL_law 302 = .ok (.iload 4, 2) := by decide +kernel
theorem dL_law_304 : decode cL_law 304 = .ok (.iconst 2, 1) := by decide +kernel
theorem dL_law_305 : decode cL_law 305 = .ok (.iadd, 1) := by decide +kernel
theorem dL_law_306 : decode cL_law 306 = .ok (.iaload, 1) := by decide +kernel
theorem dL_law_307 : decode cL_law 307 = .ok (.ifCond .eq 7, 3) := by decide +kernel
theorem dL_law_310 : decode cL_law 310 = .ok (.iconst 1, 1) := by decide +kernel
theorem dL_law_311 : decode cL_law 311 = .ok (.goto 4, 3) := by decide +kernel
theorem dL_law_314 : decode cL_law 314 = .ok (.iconst 0, 1) := by decide +kernel
theorem dL_law_315 : decode cL_law 315 = .ok (.aload_n 0, 1) := by decide +kernel
theorem dL_law_316 : decode cL_law 316 = .ok (.iload 4, 2) := by decide +kernel
theorem dL_law_318 : decode cL_law 318 = .ok (.iconst 3, 1) := by decide +kernel
theorem dL_law_319 : decode cL_law 319 = .ok (.iadd, 1) := by decide +kernel
theorem dL_law_320 : decode cL_law 320 = .ok (.iaload, 1) := by decide +kernel
theorem dL_law_321 : decode cL_law 321 = .ok (.aload_n 0, 1) := by decide +kernel
theorem dL_law_322 : decode cL_law 322 = .ok (.iload 4, 2) := by decide +kernel
theorem dL_law_324 : decode cL_law 324 = .ok (.iconst 4, 1) := by decide +kernel
theorem dL_law_325 : decode cL_law 325 = .ok (.iadd, 1) := by decide +kernel
theorem dL_law_326 : decode cL_law 326 = .ok (.iaload, 1) := by decide +kernel
theorem dL_law_327 : decode cL_law 327 = .ok (.invokevirtual 33, 3) := by decide +kernel
theorem dL_law_330 : decode cL_law 330 = .ok (.pop, 1) := by decide +kernel
theorem dL_law_331 : decode cL_law 331 = .ok (.aload_n 2, 1) := by decide +kernel
theorem dL_law_332 : decode cL_law 332 = .ok (.aload_n 0, 1) := by decide +kernel
theorem dL_law_333 : decode cL_law 333 = .ok (.iload 4, 2) := by decide +kernel
theorem dL_law_335 : decode cL_law 335 = .ok (.iconst 1, 1) := by decide +kernel
theorem dL_law_336 : decode cL_law 336 = .ok (.iadd, 1) := by decide +kernel
theorem dL_law_337 : decode cL_law 337 = .ok (.iaload, 1) := by decide +kernel
theorem dL_law_338 : decode cL_law 338 = .ok (.aload_n 0, 1) := by decide +kernel
theorem dL_law_339 : decode cL_law 339 = .ok (.iload 4, 2) := by decide +kernel
theorem dL_law_341 : decode cL_law 341 = .ok (.iconst 2, 1) := by decide +kernel
theorem dL_law_342 : decode cL_law 342 = .ok (.iadd, 1) := by decide +kernel
theorem dL_law_343 : decode cL_law 343 = .ok (.iaload, 1) := by decide +kernel
theorem dL_law_344 : decode cL_law 344 = .ok (.ifCond .eq 7, 3) := by decide +kernel
theorem dL_law_347 : decode cL_law 347 = .ok (.iconst 1, 1) := by decide +kernel
theorem dL_law_348 : decode cL_law 348 = .ok (.goto 4, 3) := by decide +kernel
theorem dL_law_351 : decode cL_law 351 = .ok (.iconst 0, 1) := by decide +kernel
theorem dL_law_352 : decode cL_law 352 = .ok (.aload_n 0, 1) := by decide +kernel
theorem dL_law_353 : decode cL_law 353 = .ok (.iload 4, 2) := by decide +kernel
theorem dL_law_355 : decode cL_law 355 = .ok (.iconst 3, 1) := by decide +kernel
theorem dL_law_356 : decode cL_law 356 = .ok (.iadd, 1) := by decide +kernel
theorem dL_law_357 : decode cL_law 357 = .ok (.iaload, 1) := by decide +kernel
theorem dL_law_358 : decode cL_law 358 = .ok (.aload_n 0, 1) := by decide +kernel
theorem dL_law_359 : decode cL_law 359 = .ok (.iload 4, 2) := by decide +kernel
theorem dL_law_361 : decode cL_law 361 = .ok (.iconst 4, 1) := by decide +kernel
theorem dL_law_362 : decode cL_law 362 = .ok (.iadd, 1) := by decide +kernel
theorem dL_law_363 : decode cL_law 363 = .ok (.iaload, 1) := by decide +kernel
theorem dL_law_364 : decode cL_law 364 = .ok (.invokevirtual 37, 3) := by decide +kernel
theorem dL_law_367 : decode cL_law 367 = .ok (.pop, 1) := by decide +kernel
theorem dL_law_368 : decode cL_law 368 = .ok (.goto 1097, 3) := by decide +kernel
theorem dL_law_371 : decode cL_law 371 = .ok (.aload_n 1, 1) := by decide +kernel
theorem dL_law_372 : decode cL_law 372 = .ok (.aload_n 0, 1) := by decide +kernel
theorem dL_law_373 : decode cL_law 373 = .ok (.iload 4, 2) := by decide +kernel
theorem dL_law_375 : decode cL_law 375 = .ok (.iconst 1, 1) := by decide +kernel
theorem dL_law_376 : decode cL_law 376 = .ok (.iadd, 1) := by decide +kernel
theorem dL_law_377 : decode cL_law 377 = .ok (.iaload, 1) := by decide +kernel
theorem dL_law_378 : decode cL_law 378 = .ok (.aload_n 0, 1) := by decide +kernel
theorem dL_law_379 : decode cL_law 379 = .ok (.iload 4, 2) := by decide +kernel
theorem dL_law_381 : decode cL_law 381 = .ok (.iconst 2, 1) := by decide +kernel
theorem dL_law_382 : decode cL_law 382 = .ok (.iadd, 1) := by decide +kernel
theorem dL_law_383 : decode cL_law 383 = .ok (.iaload, 1) := by decide +kernel
theorem dL_law_384 : decode cL_law 384 = .ok (.invokevirtual 38, 3) := by decide +kernel
theorem dL_law_387 : decode cL_law 387 = .ok (.pop, 1) := by decide +kernel
theorem dL_law_388 : decode cL_law 388 = .ok (.aload_n 2, 1) := by decide +kernel
theorem dL_law_389 : decode cL_law 389 = .ok (.aload_n 0, 1) := by decide +kernel
theorem dL_law_390 : decode cL_law 390 = .ok (.iload 4, 2) := by decide +kernel
theorem dL_law_392 : decode cL_law 392 = .ok (.iconst 1, 1) := by decide +kernel
theorem dL_law_393 : decode cL_law 393 = .ok (.iadd, 1) := by decide +kernel
theorem dL_law_394 : decode cL_law 394 = .ok (.iaload, 1) := by decide +kernel
theorem dL_law_395 : decode cL_law 395 = .ok (.aload_n 0, 1) := by decide +kernel
theorem dL_law_396 : decode cL_law 396 = .ok (.iload 4, 2) := by decide +kernel
theorem dL_law_398 : decode cL_law 398 = .ok (.iconst 2, 1) := by decide +kernel
theorem dL_law_399 : decode cL_law 399 = .ok (.iadd, 1) := by decide +kernel
theorem dL_law_400 : decode cL_law 400 = .ok (.iaload, 1) := by decide +kernel
theorem dL_law_401 : decode cL_law 401 = .ok (.invokevirtual 42, 3) := by decide +kernel
theorem dL_law_404 : decode cL_law 404 = .ok (.pop, 1) := by decide +kernel
theorem dL_law_405 : decode cL_law 405 = .ok (.goto 1060, 3) := by decide +kernel
theorem dL_law_408 : decode cL_law 408 = .ok (.aload_n 1, 1) := by decide +kernel
theorem dL_law_409 : decode cL_law 409 = .ok (.aload_n 0, 1) := by decide +kernel
theorem dL_law_410 : decode cL_law 410 = .ok (.iload 4, 2) := by decide +kernel
theorem dL_law_412 : decode cL_law 412 = .ok (.iconst 1, 1) := by decide +kernel
theorem dL_law_413 : decode cL_law 413 = .ok (.iadd, 1) := by decide +kernel
theorem dL_law_414 : decode cL_law 414 = .ok (.iaload, 1) := by decide +kernel
theorem dL_law_415 : decode cL_law 415 = .ok (.aload_n 0, 1) := by decide +kernel
theorem dL_law_416 : decode cL_law 416 = .ok (.iload 4, 2) := by decide +kernel
theorem dL_law_418 : decode cL_law 418 = .ok (.iconst 2, 1) := by decide +kernel
theorem dL_law_419 : decode cL_law 419 = .ok (.iadd, 1) := by decide +kernel
theorem dL_law_420 : decode cL_law 420 = .ok (.iaload, 1) := by decide +kernel
theorem dL_law_421 : decode cL_law 421 = .ok (.invokevirtual 43, 3) := by decide +kernel
theorem dL_law_424 : decode cL_law 424 = .ok (.aload_n 2, 1) := by decide +kernel
theorem dL_law_425 : decode cL_law 425 = .ok (.aload_n 0, 1) := by decide +kernel
theorem dL_law_426 : decode cL_law 426 = .ok (.iload 4, 2) := by decide +kernel
theorem dL_law_428 : decode cL_law 428 = .ok (.iconst 1, 1) := by decide +kernel
theorem dL_law_429 : decode cL_law 429 = .ok (.iadd, 1) := by decide +kernel
theorem dL_law_430 : decode cL_law 430 = .ok (.iaload, 1) := by decide +kernel
theorem dL_law_431 : decode cL_law 431 = .ok (.aload_n 0, 1) := by decide +kernel
theorem dL_law_432 : decode cL_law 432 = .ok (.iload 4, 2) := by decide +kernel
theorem dL_law_434 : decode cL_law 434 = .ok (.iconst 2, 1) := by decide +kernel
theorem dL_law_435 : decode cL_law 435 = .ok (.iadd, 1) := by decide +kernel
theorem dL_law_436 : decode cL_law 436 = .ok (.iaload, 1) := by decide +kernel
theorem dL_law_437 : decode cL_law 437 = .ok (.invokevirtual 46, 3) := by decide +kernel
theorem dL_law_440 : decode cL_law 440 = .ok (.if_icmp .eq 1025, 3) := by decide +kernel
theorem dL_law_445 : decode cL_law 445 = .ok (.aload_n 1, 1) := by decide +kernel
theorem dL_law_446 : decode cL_law 446 = .ok (.invokevirtual 47, 3) := by decide +kernel
theorem dL_law_449 : decode cL_law 449 = .ok (.pop, 1) := by decide +kernel
theorem dL_law_450 : decode cL_law 450 = .ok (.aload_n 2, 1) := by decide +kernel
theorem dL_law_451 : decode cL_law 451 = .ok (.invokevirtual 51, 3) := by decide +kernel
theorem dL_law_454 : decode cL_law 454 = .ok (.pop, 1) := by decide +kernel
theorem dL_law_455 : decode cL_law 455 = .ok (.goto 1010, 3) := by decide +kernel
theorem dL_law_458 : decode cL_law 458 = .ok (.aload_n 1, 1) := by decide +kernel
theorem dL_law_459 : decode cL_law 459 = .ok (.aload_n 0, 1) := by decide +kernel
theorem dL_law_460 : decode cL_law 460 = .ok (.iload 4, 2) := by decide +kernel
theorem dL_law_462 : decode cL_law 462 = .ok (.iconst 1, 1) := by decide +kernel
theorem dL_law_463 : decode cL_law 463 = .ok (.iadd, 1) := by decide +kernel
theorem dL_law_464 : decode cL_law 464 = .ok (.iaload, 1) := by decide +kernel
theorem dL_law_465 : decode cL_law 465 = .ok (.invokevirtual 52, 3) := by decide +kernel
theorem dL_law_468 : decode cL_law 468 = .ok (.pop, 1) := by decide +kernel
theorem dL_law_469 : decode cL_law 469 = .ok (.aload_n 2, 1) := by decide +kernel
theorem dL_law_470 : decode cL_law 470 = .ok (.aload_n 0, 1) := by decide +kernel
theorem dL_law_471 : decode cL_law 471 = .ok (.iload 4, 2) := by decide +kernel
theorem dL_law_473 : decode cL_law 473 = .ok (.iconst 1, 1) := by decide +kernel
theorem dL_law_474 : decode cL_law 474 = .ok (.iadd, 1) := by decide +kernel
theorem dL_law_475 : decode cL_law 475 = .ok (.iaload, 1) := by decide +kernel
theorem dL_law_476 : decode cL_law 476 = .ok (.invokevirtual 55, 3) := by decide +kernel
theorem dL_law_479 : decode cL_law 479 = .ok (.pop, 1) := by decide +kernel
theorem dL_law_480 : decode cL_law 480 = .ok (.goto 985, 3) := by decide +kernel
theorem dL_law_483 : decode cL_law 483 = .ok (.aload_n 1, 1) := by decide +kernel
theorem dL_law_484 : decode cL_law 484 = .ok (.aload_n 0, 1) := by decide +kernel
theorem dL_law_485 : decode cL_law 485 = .ok (.iload 4, 2) := by decide +kernel
theorem dL_law_487 : decode cL_law 487 = .ok (.iconst 1, 1) := by decide +kernel
theorem dL_law_488 : decode cL_law 488 = .ok (.iadd, 1) := by decide +kernel
theorem dL_law_489 : decode cL_law 489 = .ok (.iaload, 1) := by decide +kernel
theorem dL_law_490 : decode cL_law 490 = .ok (.aload_n 0, 1) := by decide +kernel
theorem dL_law_491 : decode cL_law 491 = .ok (.iload 4, 2) := by decide +kernel
theorem dL_law_493 : decode cL_law 493 = .ok (.iconst 2, 1) := by decide +kernel
theorem dL_law_494 : decode cL_law 494 = .ok (.iadd, 1) := by decide +kernel
theorem dL_law_495 : decode cL_law 495 = .ok (.iaload, 1) := by decide +kernel
theorem dL_law_496 : decode cL_law 496 = .ok (.aload_n 0, 1) := by decide +kernel
theorem dL_law_497 : decode cL_law 497 = .ok (.iload 4, 2) := by decide +kernel
theorem dL_law_499 : decode cL_law 499 = .ok (.iconst 3, 1) := by decide +kernel
theorem dL_law_500 : decode cL_law 500 = .ok (.iadd, 1) := by decide +kernel
theorem dL_law_501 : decode cL_law 501 = .ok (.iaload, 1) := by decide +kernel
theorem dL_law_502 : decode cL_law 502 = .ok (.invokevirtual 56, 3) := by decide +kernel
theorem dL_law_505 : decode cL_law 505 = .ok (.pop, 1) := by decide +kernel
theorem dL_law_506 : decode cL_law 506 = .ok (.aload_n 2, 1) := by decide +kernel
theorem dL_law_507 : decode cL_law 507 = .ok (.aload_n 0, 1) := by decide +kernel
theorem dL_law_508 : decode cL_law 508 = .ok (.iload 4, 2) := by decide +kernel
theorem dL_law_510 : decode cL_law 510 = .ok (.iconst 1, 1) := by decide +kernel
theorem dL_law_511 : decode cL_law 511 = .ok (.iadd, 1) := by decide +kernel
theorem dL_law_512 : decode cL_law 512 = .ok (.iaload, 1) := by decide +kernel
theorem dL_law_513 : decode cL_law 513 = .ok (.aload_n 0, 1) := by decide +kernel
theorem dL_law_514 : decode cL_law 514 = .ok (.iload 4, 2) := by decide +kernel
theorem dL_law_516 : decode cL_law 516 = .ok (.iconst 2, 1) := by decide +kernel
theorem dL_law_517 : decode cL_law 517 = .ok (.iadd, 1) := by decide +kernel
theorem dL_law_518 : decode cL_law 518 = .ok (.iaload, 1) := by decide +kernel
theorem dL_law_519 : decode cL_law 519 = .ok (.aload_n 0, 1) := by decide +kernel
theorem dL_law_520 : decode cL_law 520 = .ok (.iload 4, 2) := by decide +kernel
theorem dL_law_522 : decode cL_law 522 = .ok (.iconst 3, 1) := by decide +kernel
theorem dL_law_523 : decode cL_law 523 = .ok (.iadd, 1) := by decide +kernel
theorem dL_law_524 : decode cL_law 524 = .ok (.iaload, 1) := by decide +kernel
theorem dL_law_525 : decode cL_law 525 = .ok (.invokevirtual 60, 3) := by decide +kernel
theorem dL_law_528 : decode cL_law 528 = .ok (.pop, 1) := by decide +kernel
theorem dL_law_529 : decode cL_law 529 = .ok (.goto 936, 3) := by decide +kernel
theorem dL_law_532 : decode cL_law 532 = .ok (.aload_n 1, 1) := by decide +kernel
theorem dL_law_533 : decode cL_law 533 = .ok (.aload_n 0, 1) := by decide +kernel
theorem dL_law_534 : decode cL_law 534 = .ok (.iload 4, 2) := by decide +kernel
theorem dL_law_536 : decode cL_law 536 = .ok (.iconst 1, 1) := by decide +kernel
theorem dL_law_537 : decode cL_law 537 = .ok (.iadd, 1) := by decide +kernel
theorem dL_law_538 : decode cL_law 538 = .ok (.iaload, 1) := by decide +kernel
theorem dL_law_539 : decode cL_law 539 = .ok (.aload_n 0, 1) := by decide +kernel
theorem dL_law_540 : decode cL_law 540 = .ok (.iload 4, 2) := by decide +kernel
theorem dL_law_542 : decode cL_law 542 = .ok (.iconst 2, 1) := by decide +kernel
theorem dL_law_543 : decode cL_law 543 = .ok (.iadd, 1) := by decide +kernel
theorem dL_law_544 : decode cL_law 544 = .ok (.iaload, 1) := by decide +kernel
theorem dL_law_545 : decode cL_law 545 = .ok (.aload_n 0, 1) := by decide +kernel
theorem dL_law_546 : decode cL_law 546 = .ok (.iload 4, 2) := by decide +kernel
theorem dL_law_548 : decode cL_law 548 = .ok (.iconst 3, 1) := by decide +kernel
theorem dL_law_549 : decode cL_law 549 = .ok (.iadd, 1) := by decide +kernel
theorem dL_law_550 : decode cL_law 550 = .ok (.iaload, 1) := by decide +kernel
theorem dL_law_551 : decode cL_law 551 = .ok (.invokevirtual 61, 3) := by decide +kernel
theorem dL_law_554 : decode cL_law 554 = .ok (.pop, 1) := by decide +kernel
theorem dL_law_555 : decode cL_law 555 = .ok (.aload_n 2, 1) := by decide +kernel
theorem dL_law_556 : decode cL_law 556 = .ok (.aload_n 0, 1) := by decide +kernel
theorem dL_law_557 : decode cL_law 557 = .ok (.iload 4, 2) := by decide +kernel
theorem dL_law_559 : decode cL_law 559 = .ok (.iconst 1, 1) := by decide +kernel
theorem dL_law_560 : decode cL_law 560 = .ok (.iadd, 1) := by decide +kernel
theorem dL_law_561 : decode cL_law 561 = .ok (.iaload, 1) := by decide +kernel
theorem dL_law_562 : decode cL_law 562 = .ok (.aload_n 0, 1) := by decide +kernel
theorem dL_law_563 : decode cL_law 563 = .ok (.iload 4, 2) := by decide +kernel
theorem dL_law_565 : decode cL_law 565 = .ok (.iconst 2, 1) := by decide +kernel
theorem dL_law_566 : decode cL_law 566 = .ok (.iadd, 1) := by decide +kernel
theorem dL_law_567 : decode cL_law 567 = .ok (.iaload, 1) := by decide +kernel
theorem dL_law_568 : decode cL_law 568 = .ok (.aload_n 0, 1) := by decide +kernel
theorem dL_law_569 : decode cL_law 569 = .ok (.iload 4, 2) := by decide +kernel
theorem dL_law_571 : decode cL_law 571 = .ok (.iconst 3, 1) := by decide +kernel
theorem dL_law_572 : decode cL_law 572 = .ok (.iadd, 1) := by decide +kernel
theorem dL_law_573 : decode cL_law 573 = .ok (.iaload, 1) := by decide +kernel
theorem dL_law_574 : decode cL_law 574 = .ok (.invokevirtual 64, 3) := by decide +kernel
theorem dL_law_577 : decode cL_law 577 = .ok (.pop, 1) := by decide +kernel
theorem dL_law_578 : decode cL_law 578 = .ok (.goto 887, 3) := by decide +kernel
theorem dL_law_581 : decode cL_law 581 = .ok (.aload_n 1, 1) := by decide +kernel
theorem dL_law_582 : decode cL_law 582 = .ok (.aload_n 0, 1) := by decide +kernel
theorem dL_law_583 : decode cL_law 583 = .ok (.iload 4, 2) := by decide +kernel
theorem dL_law_585 : decode cL_law 585 = .ok (.iconst 1, 1) := by decide +kernel
theorem dL_law_586 : decode cL_law 586 = .ok (.iadd, 1) := by decide +kernel
theorem dL_law_587 : decode cL_law 587 = .ok (.iaload, 1) := by decide +kernel
theorem dL_law_588 : decode cL_law 588 = .ok (.aload_n 0, 1) := by decide +kernel
theorem dL_law_589 : decode cL_law 589 = .ok (.iload 4, 2) := by decide +kernel
theorem dL_law_591 : decode cL_law 591 = .ok (.iconst 2, 1) := by decide +kernel
theorem dL_law_592 : decode cL_law 592 = .ok (.iadd, 1) := by decide +kernel
theorem dL_law_593 : decode cL_law 593 = .ok (.iaload, 1) := by decide +kernel
theorem dL_law_594 : decode cL_law 594 = .ok (.aload_n 0, 1) := by decide +kernel
theorem dL_law_595 : decode cL_law 595 = .ok (.iload 4, 2) := by decide +kernel
theorem dL_law_597 : decode cL_law 597 = .ok (.iconst 3, 1) := by decide +kernel
theorem dL_law_598 : decode cL_law 598 = .ok (.iadd, 1) := by decide +kernel
theorem dL_law_599 : decode cL_law 599 = .ok (.iaload, 1) := by decide +kernel
theorem dL_law_600 : decode cL_law 600 = .ok (.invokevirtual 65, 3) := by decide +kernel
theorem dL_law_603 : decode cL_law 603 = .ok (.pop, 1) := by decide +kernel
theorem dL_law_604 : decode cL_law 604 = .ok (.aload_n 2, 1) := by decide +kernel
theorem dL_law_605 : decode cL_law 605 = .ok (.aload_n 0, 1) := by decide +kernel
theorem dL_law_606 : decode cL_law 606 = .ok (.iload 4, 2) := by decide +kernel
theorem dL_law_608 : decode cL_law 608 = .ok (.iconst 1, 1) := by decide +kernel
theorem dL_law_609 : decode cL_law 609 = .ok (.iadd, 1) := by decide +kernel
theorem dL_law_610 : decode cL_law 610 = .ok (.iaload, 1) := by decide +kernel
theorem dL_law_611 : decode cL_law 611 = .ok (.aload_n 0, 1) := by decide +kernel
theorem dL_law_612 : decode cL_law 612 = .ok (.iload 4, 2) := by decide +kernel
theorem dL_law_614 : decode cL_law 614 = .ok (.iconst 2, 1) := by decide +kernel
theorem dL_law_615 : decode cL_law 615 = .ok (.iadd, 1) := by decide +kernel
theorem dL_law_616 : decode cL_law 616 = .ok (.iaload, 1) := by decide +kernel
theorem dL_law_617 : decode cL_law 617 = .ok (.aload_n 0, 1) := by decide +kernel
theorem dL_law_618 : decode cL_law 618 = .ok (.iload 4, 2) := by decide +kernel
theorem dL_law_620 : decode cL_law 620 = .ok (.iconst 3, 1) := by decide +kernel
theorem dL_law_621 : decode cL_law 621 = .ok (.iadd, 1) := by decide +kernel
theorem dL_law_622 : decode cL_law 622 = .ok (.iaload, 1) := by decide +kernel
theorem dL_law_623 : decode cL_law 623 = .ok (.invokevirtual 68, 3) := by decide +kernel
theorem dL_law_626 : decode cL_law 626 = .ok (.pop, 1) := by decide +kernel
theorem dL_law_627 : decode cL_law 627 = .ok (.goto 838, 3) := by decide +kernel
theorem dL_law_630 : decode cL_law 630 = .ok (.aload_n 1, 1) := by decide +kernel
theorem dL_law_631 : decode cL_law 631 = .ok (.aload_n 0, 1) := by decide +kernel
theorem dL_law_632 : decode cL_law 632 = .ok (.iload 4, 2) := by decide +kernel
theorem dL_law_634 : decode cL_law 634 = .ok (.iconst 1, 1) := by decide +kernel
theorem dL_law_635 : decode cL_law 635 = .ok (.iadd, 1) := by decide +kernel
theorem dL_law_636 : decode cL_law 636 = .ok (.iaload, 1) := by decide +kernel
theorem dL_law_637 : decode cL_law 637 = .ok (.aload_n 0, 1) := by decide +kernel
theorem dL_law_638 : decode cL_law 638 = .ok (.iload 4, 2) := by decide +kernel
theorem dL_law_640 : decode cL_law 640 = .ok (.iconst 2, 1) := by decide +kernel
theorem dL_law_641 : decode cL_law 641 = .ok (.iadd, 1) := by decide +kernel
theorem dL_law_642 : decode cL_law 642 = .ok (.iaload, 1) := by decide +kernel
theorem dL_law_643 : decode cL_law 643 = .ok (.aload_n 0, 1) := by decide +kernel
theorem dL_law_644 : decode cL_law 644 = .ok (.iload 4, 2) := by decide +kernel
theorem dL_law_646 : decode cL_law 646 = .ok (.iconst 3, 1) := by decide +kernel
theorem dL_law_647 : decode cL_law 647 = .ok (.iadd, 1) := by decide +kernel
theorem dL_law_648 : decode cL_law 648 = .ok (.iaload, 1) := by decide +kernel
theorem dL_law_649 : decode cL_law 649 = .ok (.aload_n 0, 1) := by decide +kernel
theorem dL_law_650 : decode cL_law 650 = .ok (.iload 4, 2) := by decide +kernel
theorem dL_law_652 : decode cL_law 652 = .ok (.iconst 4, 1) := by decide +kernel
theorem dL_law_653 : decode cL_law 653 = .ok (.iadd, 1) := by decide +kernel
theorem dL_law_654 : decode cL_law 654 = .ok (.iaload, 1) := by decide +kernel
theorem dL_law_655 : decode cL_law 655 = .ok (.invokevirtual 69, 3) := by decide +kernel
theorem dL_law_658 : decode cL_law 658 = .ok (.pop, 1) := by decide +kernel
theorem dL_law_659 : decode cL_law 659 = .ok (.aload_n 2, 1) := by decide +kernel
theorem dL_law_660 : decode cL_law 660 = .ok (.aload_n 0, 1) := by decide +kernel
theorem dL_law_661 : decode cL_law 661 = .ok (.iload 4, 2) := by decide +kernel
theorem dL_law_663 : decode cL_law 663 = .ok (.iconst 1, 1) := by decide +kernel
theorem dL_law_664 : decode cL_law 664 = .ok (.iadd, 1) := by decide +kernel
theorem dL_law_665 : decode cL_law 665 = .ok (.iaload, 1) := by decide +kernel
theorem dL_law_666 : decode cL_law 666 = .ok (.aload_n 0, 1) := by decide +kernel
theorem dL_law_667 : decode cL_law 667 = .ok (.iload 4, 2) := by decide +kernel
theorem dL_law_669 : decode cL_law 669 = .ok (.iconst 2, 1) := by decide +kernel
theorem dL_law_670 : decode cL_law 670 = .ok (.iadd, 1) := by decide +kernel
theorem dL_law_671 : decode cL_law 671 = .ok (.iaload, 1) := by decide +kernel
theorem dL_law_672 : decode cL_law 672 = .ok (.aload_n 0, 1) := by decide +kernel
theorem dL_law_673 : decode cL_law 673 = .ok (.iload 4, 2) := by decide +kernel
theorem dL_law_675 : decode cL_law 675 = .ok (.iconst 3, 1) := by decide +kernel
theorem dL_law_676 : decode cL_law 676 = .ok (.iadd, 1) := by decide +kernel
theorem dL_law_677 : decode cL_law 677 = .ok (.iaload, 1) := by decide +kernel
theorem dL_law_678 : decode cL_law 678 = .ok (.aload_n 0, 1) := by decide +kernel
theorem dL_law_679 : decode cL_law 679 = .ok (.iload 4, 2) := by decide +kernel
theorem dL_law_681 : decode cL_law 681 = .ok (.iconst 4, 1) := by decide +kernel
theorem dL_law_682 : decode cL_law 682 = .ok (.iadd, 1) := by decide +kernel
theorem dL_law_683 : decode cL_law 683 = .ok (.iaload, 1) := by decide +kernel
theorem dL_law_684 : decode cL_law 684 = .ok (.invokevirtual 73, 3) := by decide +kernel
theorem dL_law_687 : decode cL_law 687 = .ok (.pop, 1) := by decide +kernel
theorem dL_law_688 : decode cL_law 688 = .ok (.goto 777, 3) := by decide +kernel
theorem dL_law_691 : decode cL_law 691 = .ok (.aload_n 1, 1) := by decide +kernel
theorem dL_law_692 : decode cL_law 692 = .ok (.aload_n 0, 1) := by decide +kernel
theorem dL_law_693 : decode cL_law 693 = .ok (.iload 4, 2) := by decide +kernel
theorem dL_law_695 : decode cL_law 695 = .ok (.iconst 1, 1) := by decide +kernel
theorem dL_law_696 : decode cL_law 696 = .ok (.iadd, 1) := by decide +kernel
theorem dL_law_697 : decode cL_law 697 = .ok (.iaload, 1) := by decide +kernel
theorem dL_law_698 : decode cL_law 698 = .ok (.aload_n 0, 1) := by decide +kernel
theorem dL_law_699 : decode cL_law 699 = .ok (.iload 4, 2) := by decide +kernel
theorem dL_law_701 : decode cL_law 701 = .ok (.iconst 2, 1) := by decide +kernel
theorem dL_law_702 : decode cL_law 702 = .ok (.iadd, 1) := by decide +kernel
theorem dL_law_703 : decode cL_law 703 = .ok (.iaload, 1) := by decide +kernel
theorem dL_law_704 : decode cL_law 704 = .ok (.aload_n 0, 1) := by decide +kernel
theorem dL_law_705 : decode cL_law 705 = .ok (.iload 4, 2) := by decide +kernel
theorem dL_law_707 : decode cL_law 707 = .ok (.iconst 3, 1) := by decide +kernel
theorem dL_law_708 : decode cL_law 708 = .ok (.iadd, 1) := by decide +kernel
theorem dL_law_709 : decode cL_law 709 = .ok (.iaload, 1) := by decide +kernel
theorem dL_law_710 : decode cL_law 710 = .ok (.invokevirtual 74, 3) := by decide +kernel
theorem dL_law_713 : decode cL_law 713 = .ok (.pop, 1) := by decide +kernel
theorem dL_law_714 : decode cL_law 714 = .ok (.aload_n 2, 1) := by decide +kernel
theorem dL_law_715 : decode cL_law 715 = .ok (.aload_n 0, 1) := by decide +kernel
theorem dL_law_716 : decode cL_law 716 = .ok (.iload 4, 2) := by decide +kernel
theorem dL_law_718 : decode cL_law 718 = .ok (.iconst 1, 1) := by decide +kernel
theorem dL_law_719 : decode cL_law 719 = .ok (.iadd, 1) := by decide +kernel
theorem dL_law_720 : decode cL_law 720 = .ok (.iaload, 1) := by decide +kernel
theorem dL_law_721 : decode cL_law 721 = .ok (.aload_n 0, 1) := by decide +kernel
theorem dL_law_722 : decode cL_law 722 = .ok (.iload 4, 2) := by decide +kernel
theorem dL_law_724 : decode cL_law 724 = .ok (.iconst 2, 1) := by decide +kernel
theorem dL_law_725 : decode cL_law 725 = .ok (.iadd, 1) := by decide +kernel
theorem dL_law_726 : decode cL_law 726 = .ok (.iaload, 1) := by decide +kernel
theorem dL_law_727 : decode cL_law 727 = .ok (.aload_n 0, 1) := by decide +kernel
theorem dL_law_728 : decode cL_law 728 = .ok (.iload 4, 2) := by decide +kernel
theorem dL_law_730 : decode cL_law 730 = .ok (.iconst 3, 1) := by decide +kernel
theorem dL_law_731 : decode cL_law 731 = .ok (.iadd, 1) := by decide +kernel
theorem dL_law_732 : decode cL_law 732 = .ok (.iaload, 1) := by decide +kernel
theorem dL_law_733 : decode cL_law 733 = .ok (.invokevirtual 77, 3) := by decide +kernel
theorem dL_law_736 : decode cL_law 736 = .ok (.pop, 1) := by decide +kernel
theorem dL_law_737 : decode cL_law 737 = .ok (.goto 728, 3) := by decide +kernel
theorem dL_law_740 : decode cL_law 740 = .ok (.aload_n 1, 1) := by decide +kernel
theorem dL_law_741 : decode cL_law 741 = .ok (.aload_n 0, 1) := by decide +kernel
theorem dL_law_742 : decode cL_law 742 = .ok (.iload 4, 2) := by decide +kernel
theorem dL_law_744 : decode cL_law 744 = .ok (.iconst 1, 1) := by decide +kernel
theorem dL_law_745 : decode cL_law 745 = .ok (.iadd, 1) := by decide +kernel
theorem dL_law_746 : decode cL_law 746 = .ok (.iaload, 1) := by decide +kernel
theorem dL_law_747 : decode cL_law 747 = .ok (.invokevirtual 78, 3) := by decide +kernel
theorem dL_law_750 : decode cL_law 750 = .ok (.pop, 1) := by decide +kernel
theorem dL_law_751 : decode cL_law 751 = .ok (.aload_n 2, 1) := by decide +kernel
theorem dL_law_752 : decode cL_law 752 = .ok (.aload_n 0, 1) := by decide +kernel
theorem dL_law_753 : decode cL_law 753 = .ok (.iload 4, 2) := by decide +kernel
theorem dL_law_755 : decode cL_law 755 = .ok (.iconst 1, 1) := by decide +kernel
theorem dL_law_756 : decode cL_law 756 = .ok (.iadd, 1) := by decide +kernel
theorem dL_law_757 : decode cL_law 757 = .ok (.iaload, 1) := by decide +kernel
theorem dL_law_758 : decode cL_law 758 = .ok (.invokevirtual 81, 3) := by decide +kernel
theorem dL_law_761 : decode cL_law 761 = .ok (.pop, 1) := by decide +kernel
theorem dL_law_762 : decode cL_law 762 = .ok (.goto 703, 3) := by decide +kernel
theorem dL_law_765 : decode cL_law 765 = .ok (.aload_n 1, 1) := by decide +kernel
theorem dL_law_766 : decode cL_law 766 = .ok (.invokevirtual 82, 3) := by decide +kernel
theorem dL_law_769 : decode cL_law 769 = .ok (.pop, 1) := by decide +kernel
theorem dL_law_770 : decode cL_law 770 = .ok (.aload_n 2, 1) := by decide +kernel
theorem dL_law_771 : decode cL_law 771 = .ok (.invokevirtual 86, 3) := by decide +kernel
theorem dL_law_774 : decode cL_law 774 = .ok (.pop, 1) := by decide +kernel
theorem dL_law_775 : decode cL_law 775 = .ok (.goto 690, 3) := by decide +kernel
theorem dL_law_778 : decode cL_law 778 = .ok (.aload_n 1, 1) := by decide +kernel
theorem dL_law_779 : decode cL_law 779 = .ok (.aload_n 0, 1) := by decide +kernel
theorem dL_law_780 : decode cL_law 780 = .ok (.iload 4, 2) := by decide +kernel
theorem dL_law_782 : decode cL_law 782 = .ok (.iconst 1, 1) := by decide +kernel
theorem dL_law_783 : decode cL_law 783 = .ok (.iadd, 1) := by decide +kernel
theorem dL_law_784 : decode cL_law 784 = .ok (.iaload, 1) := by decide +kernel
theorem dL_law_785 : decode cL_law 785 = .ok (.aload_n 0, 1) := by decide +kernel
theorem dL_law_786 : decode cL_law 786 = .ok (.iload 4, 2) := by decide +kernel
theorem dL_law_788 : decode cL_law 788 = .ok (.iconst 2, 1) := by decide +kernel
theorem dL_law_789 : decode cL_law 789 = .ok (.iadd, 1) := by decide +kernel
theorem dL_law_790 : decode cL_law 790 = .ok (.iaload, 1) := by decide +kernel
theorem dL_law_791 : decode cL_law 791 = .ok (.aload_n 0, 1) := by decide +kernel
theorem dL_law_792 : decode cL_law 792 = .ok (.iload 4, 2) := by decide +kernel
theorem dL_law_794 : decode cL_law 794 = .ok (.iconst 3, 1) := by decide +kernel
theorem dL_law_795 : decode cL_law 795 = .ok (.iadd, 1) := by decide +kernel
theorem dL_law_796 : decode cL_law 796 = .ok (.iaload, 1) := by decide +kernel
theorem dL_law_797 : decode cL_law 797 = .ok (.aload_n 0, 1) := by decide +kernel
theorem dL_law_798 : decode cL_law 798 = .ok (.iload 4, 2) := by decide +kernel
theorem dL_law_800 : decode cL_law 800 = .ok (.iconst 4, 1) := by decide +kernel
theorem dL_law_801 : decode cL_law 801 = .ok (.iadd, 1) := by decide +kernel
theorem dL_law_802 : decode cL_law 802 = .ok (.iaload, 1) := by decide +kernel
theorem dL_law_803 : decode cL_law 803 = .ok (.aload_n 0, 1) := by decide +kernel
theorem dL_law_804 : decode cL_law 804 = .ok (.iload 4, 2) := by decide +kernel
theorem dL_law_806 : decode cL_law 806 = .ok (.iconst 5, 1) := by decide +kernel
theorem dL_law_807 : decode cL_law 807 = .ok (.iadd, 1) := by decide +kernel
theorem dL_law_808 : decode cL_law 808 = .ok (.iaload, 1) := by decide +kernel
theorem dL_law_809 : decode cL_law 809 = .ok (.invokevirtual 87, 3) := by decide +kernel
theorem dL_law_812 : decode cL_law 812 = .ok (.pop, 1) := by decide +kernel
theorem dL_law_813 : decode cL_law 813 = .ok (.aload_n 2, 1) := by decide +kernel
theorem dL_law_814 : decode cL_law 814 = .ok (.aload_n 0, 1) := by decide +kernel
theorem dL_law_815 : decode cL_law 815 = .ok (.iload 4, 2) := by decide +kernel
theorem dL_law_817 : decode cL_law 817 = .ok (.iconst 1, 1) := by decide +kernel
theorem dL_law_818 : decode cL_law 818 = .ok (.iadd, 1) := by decide +kernel
theorem dL_law_819 : decode cL_law 819 = .ok (.iaload, 1) := by decide +kernel
theorem dL_law_820 : decode cL_law 820 = .ok (.aload_n 0, 1) := by decide +kernel
theorem dL_law_821 : decode cL_law 821 = .ok (.iload 4, 2) := by decide +kernel
theorem dL_law_823 : decode cL_law 823 = .ok (.iconst 2, 1) := by decide +kernel
theorem dL_law_824 : decode cL_law 824 = .ok (.iadd, 1) := by decide +kernel
theorem dL_law_825 : decode cL_law 825 = .ok (.iaload, 1) := by decide +kernel
theorem dL_law_826 : decode cL_law 826 = .ok (.aload_n 0, 1) := by decide +kernel
theorem dL_law_827 : decode cL_law 827 = .ok (.iload 4, 2) := by decide +kernel
theorem dL_law_829 : decode cL_law 829 = .ok (.iconst 3, 1) := by decide +kernel
theorem dL_law_830 : decode cL_law 830 = .ok (.iadd, 1) := by decide +kernel
theorem dL_law_831 : decode cL_law 831 = .ok (.iaload, 1) := by decide +kernel
theorem dL_law_832 : decode cL_law 832 = .ok (.aload_n 0, 1) := by decide +kernel
theorem dL_law_833 : decode cL_law 833 = .ok (.iload 4, 2) := by decide +kernel
theorem dL_law_835 : decode cL_law 835 = .ok (.iconst 4, 1) := by decide +kernel
theorem dL_law_836 : decode cL_law 836 = .ok (.iadd, 1) := by decide +kernel
theorem dL_law_837 : decode cL_law 837 = .ok (.iaload, 1) := by decide +kernel
theorem dL_law_838 : decode cL_law 838 = .ok (.aload_n 0, 1) := by decide +kernel
theorem dL_law_839 : decode cL_law 839 = .ok (.iload 4, 2) := by decide +kernel
theorem dL_law_841 : decode cL_law 841 = .ok (.iconst 5, 1) := by decide +kernel
theorem dL_law_842 : decode cL_law 842 = .ok (.iadd, 1) := by decide +kernel
theorem dL_law_843 : decode cL_law 843 = .ok (.iaload, 1) := by decide +kernel
theorem dL_law_844 : decode cL_law 844 = .ok (.invokevirtual 90, 3) := by decide +kernel
theorem dL_law_847 : decode cL_law 847 = .ok (.pop, 1) := by decide +kernel
theorem dL_law_848 : decode cL_law 848 = .ok (.goto 617, 3) := by decide +kernel
theorem dL_law_851 : decode cL_law 851 = .ok (.aload_n 1, 1) := by decide +kernel
theorem dL_law_852 : decode cL_law 852 = .ok (.aload_n 0, 1) := by decide +kernel
theorem dL_law_853 : decode cL_law 853 = .ok (.iload 4, 2) := by decide +kernel
theorem dL_law_855 : decode cL_law 855 = .ok (.iconst 1, 1) := by decide +kernel
theorem dL_law_856 : decode cL_law 856 = .ok (.iadd, 1) := by decide +kernel
theorem dL_law_857 : decode cL_law 857 = .ok (.iaload, 1) := by decide +kernel
theorem dL_law_858 : decode cL_law 858 = .ok (.aload_n 0, 1) := by decide +kernel
theorem dL_law_859 : decode cL_law 859 = .ok (.iload 4, 2) := by decide +kernel
theorem dL_law_861 : decode cL_law 861 = .ok (.iconst 2, 1) := by decide +kernel
theorem dL_law_862 : decode cL_law 862 = .ok (.iadd, 1) := by decide +kernel
theorem dL_law_863 : decode cL_law 863 = .ok (.iaload, 1) := by decide +kernel
theorem dL_law_864 : decode cL_law 864 = .ok (.invokevirtual 91, 3) := by decide +kernel
theorem dL_law_867 : decode cL_law 867 = .ok (.pop, 1) := by decide +kernel
theorem dL_law_868 : decode cL_law 868 = .ok (.aload_n 2, 1) := by decide +kernel
theorem dL_law_869 : decode cL_law 869 = .ok (.aload_n 0, 1) := by decide +kernel
theorem dL_law_870 : decode cL_law 870 = .ok (.iload 4, 2) := by decide +kernel
theorem dL_law_872 : decode cL_law 872 = .ok (.iconst 1, 1) := by decide +kernel
theorem dL_law_873 : decode cL_law 873 = .ok (.iadd, 1) := by decide +kernel
theorem dL_law_874 : decode cL_law 874 = .ok (.iaload, 1) := by decide +kernel
theorem dL_law_875 : decode cL_law 875 = .ok (.aload_n 0, 1) := by decide +kernel
theorem dL_law_876 : decode cL_law 876 = .ok (.iload 4, 2) := by decide +kernel
theorem dL_law_878 : decode cL_law 878 = .ok (.iconst 2, 1) := by decide +kernel
theorem dL_law_879 : decode cL_law 879 = .ok (.iadd, 1) := by decide +kernel
theorem dL_law_880 : decode cL_law 880 = .ok (.iaload, 1) := by decide +kernel
theorem dL_law_881 : decode cL_law 881 = .ok (.invokevirtual 94, 3) := by decide +kernel
theorem dL_law_884 : decode cL_law 884 = .ok (.pop, 1) := by decide +kernel
theorem dL_law_885 : decode cL_law 885 = .ok (.goto 580, 3) := by decide +kernel
theorem dL_law_888 : decode cL_law 888 = .ok (.aload_n 1, 1) := by decide +kernel
theorem dL_law_889 : decode cL_law 889 = .ok (.invokevirtual 95, 3) := by decide +kernel
theorem dL_law_892 : decode cL_law 892 = .ok (.pop, 1) := by decide +kernel
theorem dL_law_893 : decode cL_law 893 = .ok (.aload_n 2, 1) := by decide +kernel
theorem dL_law_894 : decode cL_law 894 = .ok (.invokevirtual 98, 3) := by decide +kernel
theorem dL_law_897 : decode cL_law 897 = .ok (.pop, 1) := by decide +kernel
theorem dL_law_898 : decode cL_law 898 = .ok (.goto 567, 3) := by decide +kernel
theorem dL_law_901 : decode cL_law 901 = .ok (.aload_n 1, 1) := by decide +kernel
theorem dL_law_902 : decode cL_law 902 = .ok (.invokevirtual 99, 3) := by decide +kernel
theorem dL_law_905 : decode cL_law 905 = .ok (.pop, 1) := by decide +kernel
theorem dL_law_906 : decode cL_law 906 = .ok (.aload_n 2, 1) := by decide +kernel
theorem dL_law_907 : decode cL_law 907 = .ok (.invokevirtual 102, 3) := by decide +kernel
theorem dL_law_910 : decode cL_law 910 = .ok (.pop, 1) := by decide +kernel
theorem dL_law_911 : decode cL_law 911 = .ok (.goto 554, 3) := by decide +kernel
theorem dL_law_914 : decode cL_law 914 = .ok (.aload_n 1, 1) := by decide +kernel
theorem dL_law_915 : decode cL_law 915 = .ok (.aload_n 0, 1) := by decide +kernel
theorem dL_law_916 : decode cL_law 916 = .ok (.iload 4, 2) := by decide +kernel
theorem dL_law_918 : decode cL_law 918 = .ok (.iconst 1, 1) := by decide +kernel
theorem dL_law_919 : decode cL_law 919 = .ok (.iadd, 1) := by decide +kernel
theorem dL_law_920 : decode cL_law 920 = .ok (.iaload, 1) := by decide +kernel
theorem dL_law_921 : decode cL_law 921 = .ok (.aload_n 0, 1) := by decide +kernel
theorem dL_law_922 : decode cL_law 922 = .ok (.iload 4, 2) := by decide +kernel
theorem dL_law_924 : decode cL_law 924 = .ok (.iconst 2, 1) := by decide +kernel
theorem dL_law_925 : decode cL_law 925 = .ok (.iadd, 1) := by decide +kernel
theorem dL_law_926 : decode cL_law 926 = .ok (.iaload, 1) := by decide +kernel
theorem dL_law_927 : decode cL_law 927 = .ok (.aload_n 3, 1) := by decide +kernel
theorem dL_law_928 : decode cL_law 928 = .ok (.invokestatic 103, 3) := by decide +kernel
theorem dL_law_931 : decode cL_law 931 = .ok (.istore 5, 2) := by decide +kernel
theorem dL_law_933 : decode cL_law 933 = .ok (.aload_n 2, 1) := by decide +kernel
theorem dL_law_934 : decode cL_law 934 = .ok (.aload_n 0, 1) := by decide +kernel
theorem dL_law_935 : decode cL_law 935 = .ok (.iload 4, 2) := by decide +kernel
theorem dL_law_937 : decode cL_law 937 = .ok (.iconst 1, 1) := by decide +kernel
theorem dL_law_938 : decode cL_law 938 = .ok (.iadd, 1) := by decide +kernel
theorem dL_law_939 : decode cL_law 939 = .ok (.iaload, 1) := by decide +kernel
theorem dL_law_940 : decode cL_law 940 = .ok (.aload_n 0, 1) := by decide +kernel
theorem dL_law_941 : decode cL_law 941 = .ok (.iload 4, 2) := by decide +kernel
theorem dL_law_943 : decode cL_law 943 = .ok (.iconst 2, 1) := by decide +kernel
theorem dL_law_944 : decode cL_law 944 = .ok (.iadd, 1) := by decide +kernel
theorem dL_law_945 : decode cL_law 945 = .ok (.iaload, 1) := by decide +kernel
theorem dL_law_946 : decode cL_law 946 = .ok (.invokevirtual 108, 3) := by decide +kernel
theorem dL_law_949 : decode cL_law 949 = .ok (.istore 6, 2) := by decide +kernel
theorem dL_law_951 : decode cL_law 951 = .ok (.goto 514, 3) := by decide +kernel
theorem dL_law_954 : decode cL_law 954 = .ok (.aload_n 1, 1) := by decide +kernel
theorem dL_law_955 : decode cL_law 955 = .ok (.aload_n 0, 1) := by decide +kernel
theorem dL_law_956 : decode cL_law 956 = .ok (.iload 4, 2) := by decide +kernel
theorem dL_law_958 : decode cL_law 958 = .ok (.iconst 1, 1) := by decide +kernel
theorem dL_law_959 : decode cL_law 959 = .ok (.iadd, 1) := by decide +kernel
theorem dL_law_960 : decode cL_law 960 = .ok (.iaload, 1) := by decide +kernel
theorem dL_law_961 : decode cL_law 961 = .ok (.aload_n 3, 1) := by decide +kernel
theorem dL_law_962 : decode cL_law 962 = .ok (.invokestatic 109, 3) := by decide +kernel
theorem dL_law_965 : decode cL_law 965 = .ok (.istore 5, 2) := by decide +kernel
theorem dL_law_967 : decode cL_law 967 = .ok (.aload_n 2, 1) := by decide +kernel
theorem dL_law_968 : decode cL_law 968 = .ok (.aload_n 0, 1) := by decide +kernel
theorem dL_law_969 : decode cL_law 969 = .ok (.iload 4, 2) := by decide +kernel
theorem dL_law_971 : decode cL_law 971 = .ok (.iconst 1, 1) := by decide +kernel
theorem dL_law_972 : decode cL_law 972 = .ok (.iadd, 1) := by decide +kernel
theorem dL_law_973 : decode cL_law 973 = .ok (.iaload, 1) := by decide +kernel
theorem dL_law_974 : decode cL_law 974 = .ok (.invokevirtual 112, 3) := by decide +kernel
theorem dL_law_977 : decode cL_law 977 = .ok (.istore 6, 2) := by decide +kernel
theorem dL_law_979 : decode cL_law 979 = .ok (.goto 486, 3) := by decide +kernel
theorem dL_law_982 : decode cL_law 982 = .ok (.aload_n 1, 1) := by decide +kernel
theorem dL_law_983 : decode cL_law 983 = .ok (.aload_n 0, 1) := by decide +kernel
theorem dL_law_984 : decode cL_law 984 = .ok (.iload 4, 2) := by decide +kernel
theorem dL_law_986 : decode cL_law 986 = .ok (.iconst 1, 1) := by decide +kernel
theorem dL_law_987 : decode cL_law 987 = .ok (.iadd, 1) := by decide +kernel
theorem dL_law_988 : decode cL_law 988 = .ok (.iaload, 1) := by decide +kernel
theorem dL_law_989 : decode cL_law 989 = .ok (.aload_n 0, 1) := by decide +kernel
theorem dL_law_990 : decode cL_law 990 = .ok (.iload 4, 2) := by decide +kernel
theorem dL_law_992 : decode cL_law 992 = .ok (.iconst 2, 1) := by decide +kernel
theorem dL_law_993 : decode cL_law 993 = .ok (.iadd, 1) := by decide +kernel
theorem dL_law_994 : decode cL_law 994 = .ok (.iaload, 1) := by decide +kernel
theorem dL_law_995 : decode cL_law 995 = .ok (.aload_n 0, 1) := by decide +kernel
theorem dL_law_996 : decode cL_law 996 = .ok (.iload 4, 2) := by decide +kernel
theorem dL_law_998 : decode cL_law 998 = .ok (.iconst 3, 1) := by decide +kernel
theorem dL_law_999 : decode cL_law 999 = .ok (.iadd, 1) := by decide +kernel
theorem dL_law_1000 : decode cL_law 1000 = .ok (.iaload, 1) := by decide +kernel
theorem dL_law_1001 : decode cL_law 1001 = .ok (.aload_n 0, 1) := by decide +kernel
theorem dL_law_1002 : decode cL_law 1002 = .ok (.iload 4, 2) := by decide +kernel
theorem dL_law_1004 : decode cL_law 1004 = .ok (.iconst 4, 1) := by decide +kernel
theorem dL_law_1005 : decode cL_law 1005 = .ok (.iadd, 1) := by decide +kernel
theorem dL_law_1006 : decode cL_law 1006 = .ok (.iaload, 1) := by decide +kernel
theorem dL_law_1007 : decode cL_law 1007 = .ok (.invokevirtual 113, 3) := by decide +kernel
theorem dL_law_1010 : decode cL_law 1010 = .ok (.pop, 1) := by decide +kernel
theorem dL_law_1011 : decode cL_law 1011 = .ok (.aload_n 2, 1) := by decide +kernel
theorem dL_law_1012 : decode cL_law 1012 = .ok (.aload_n 0, 1) := by decide +kernel
theorem dL_law_1013 : decode cL_law 1013 = .ok (.iload 4, 2) := by decide +kernel
theorem dL_law_1015 : decode cL_law 1015 = .ok (.iconst 1, 1) := by decide +kernel
theorem dL_law_1016 : decode cL_law 1016 = .ok (.iadd, 1) := by decide +kernel
theorem dL_law_1017 : decode cL_law 1017 = .ok (.iaload, 1) := by decide +kernel
theorem dL_law_1018 : decode cL_law 1018 = .ok (.aload_n 0, 1) := by decide +kernel
theorem dL_law_1019 : decode cL_law 1019 = .ok (.iload 4, 2) := by decide +kernel
theorem dL_law_1021 : decode cL_law 1021 = .ok (.iconst 2, 1) := by decide +kernel
theorem dL_law_1022 : decode cL_law 1022 = .ok (.iadd, 1) := by decide +kernel
theorem dL_law_1023 : decode cL_law 1023 = .ok (.iaload, 1) := by decide +kernel
theorem dL_law_1024 : decode cL_law 1024 = .ok (.aload_n 0, 1) := by decide +kernel
theorem dL_law_1025 : decode cL_law 1025 = .ok (.iload 4, 2) := by decide +kernel
theorem dL_law_1027 : decode cL_law 1027 = .ok (.iconst 3, 1) := by decide +kernel
theorem dL_law_1028 : decode cL_law 1028 = .ok (.iadd, 1) := by decide +kernel
theorem dL_law_1029 : decode cL_law 1029 = .ok (.iaload, 1) := by decide +kernel
theorem dL_law_1030 : decode cL_law 1030 = .ok (.aload_n 0, 1) := by decide +kernel
theorem dL_law_1031 : decode cL_law 1031 = .ok (.iload 4, 2) := by decide +kernel
theorem dL_law_1033 : decode cL_law 1033 = .ok (.iconst 4, 1) := by decide +kernel
theorem dL_law_1034 : decode cL_law 1034 = .ok (.iadd, 1) := by decide +kernel
theorem dL_law_1035 : decode cL_law 1035 = .ok (.iaload, 1) := by decide +kernel
theorem dL_law_1036 : decode cL_law 1036 = .ok (.invokevirtual 116, 3) := by decide +kernel
theorem dL_law_1039 : decode cL_law 1039 = .ok (.pop, 1) := by decide +kernel
theorem dL_law_1040 : decode cL_law 1040 = .ok (.goto 425, 3) := by decide +kernel
theorem dL_law_1043 : decode cL_law 1043 = .ok (.aload_n 1, 1) := by decide +kernel
theorem dL_law_1044 : decode cL_law 1044 = .ok (.aload_n 0, 1) := by decide +kernel
theorem dL_law_1045 : decode cL_law 1045 = .ok (.iload 4, 2) := by decide +kernel
theorem dL_law_1047 : decode cL_law 1047 = .ok (.iconst 1, 1) := by decide +kernel
theorem dL_law_1048 : decode cL_law 1048 = .ok (.iadd, 1) := by decide +kernel
theorem dL_law_1049 : decode cL_law 1049 = .ok (.iaload, 1) := by decide +kernel
theorem dL_law_1050 : decode cL_law 1050 = .ok (.invokevirtual 117, 3) := by decide +kernel
theorem dL_law_1053 : decode cL_law 1053 = .ok (.pop, 1) := by decide +kernel
theorem dL_law_1054 : decode cL_law 1054 = .ok (.aload_n 2, 1) := by decide +kernel
theorem dL_law_1055 : decode cL_law 1055 = .ok (.aload_n 0, 1) := by decide +kernel
theorem dL_law_1056 : decode cL_law 1056 = .ok (.iload 4, 2) := by decide +kernel
theorem dL_law_1058 : decode cL_law 1058 = .ok (.iconst 1, 1) := by decide +kernel
theorem dL_law_1059 : decode cL_law 1059 = .ok (.iadd, 1) := by decide +kernel
theorem dL_law_1060 : decode cL_law 1060 = .ok (.iaload, 1) := by decide +kernel
theorem dL_law_1061 : decode cL_law 1061 = .ok (.invokevirtual 120, 3) := by decide +kernel
theorem dL_law_1064 : decode cL_law 1064 = .ok (.pop, 1) := by decide +kernel
theorem dL_law_1065 : decode cL_law 1065 = .ok (.goto 400, 3) := by decide +kernel
theorem dL_law_1068 : decode cL_law 1068 = .ok (.aload_n 1, 1) := by decide +kernel
theorem dL_law_1069 : decode cL_law 1069 = .ok (.aload_n 0, 1) := by decide +kernel
theorem dL_law_1070 : decode cL_law 1070 = .ok (.iload 4, 2) := by decide +kernel
theorem dL_law_1072 : decode cL_law 1072 = .ok (.iconst 1, 1) := by decide +kernel
theorem dL_law_1073 : decode cL_law 1073 = .ok (.iadd, 1) := by decide +kernel
theorem dL_law_1074 : decode cL_law 1074 = .ok (.iaload, 1) := by decide +kernel
theorem dL_law_1075 : decode cL_law 1075 = .ok (.invokevirtual 121, 3) := by decide +kernel
theorem dL_law_1078 : decode cL_law 1078 = .ok (.pop, 1) := by decide +kernel
theorem dL_law_1079 : decode cL_law 1079 = .ok (.aload_n 2, 1) := by decide +kernel
theorem dL_law_1080 : decode cL_law 1080 = .ok (.aload_n 0, 1) := by decide +kernel
theorem dL_law_1081 : decode cL_law 1081 = .ok (.iload 4, 2) := by decide +kernel
theorem dL_law_1083 : decode cL_law 1083 = .ok (.iconst 1, 1) := by decide +kernel
theorem dL_law_1084 : decode cL_law 1084 = .ok (.iadd, 1) := by decide +kernel
theorem dL_law_1085 : decode cL_law 1085 = .ok (.iaload, 1) := by decide +kernel
theorem dL_law_1086 : decode cL_law 1086 = .ok (.invokevirtual 124, 3) := by decide +kernel
theorem dL_law_1089 : decode cL_law 1089 = .ok (.pop, 1) := by decide +kernel
theorem dL_law_1090 : decode cL_law 1090 = .ok (.goto 375, 3) := by decide +kernel
theorem dL_law_1093 : decode cL_law 1093 = .ok (.aload_n 1, 1) := by decide +kernel
theorem dL_law_1094 : decode cL_law 1094 = .ok (.aload_n 0, 1) := by decide +kernel
theorem dL_law_1095 : decode cL_law 1095 = .ok (.iload 4, 2) := by decide +kernel
theorem dL_law_1097 : decode cL_law 1097 = .ok (.iconst 1, 1) := by decide +kernel
theorem dL_law_1098 : decode cL_law 1098 = .ok (.iadd, 1) := by decide +kernel
theorem dL_law_1099 : decode cL_law 1099 = .ok (.iaload, 1) := by decide +kernel
theorem dL_law_1100 : decode cL_law 1100 = .ok (.aload_n 0, 1) := by decide +kernel
theorem dL_law_1101 : decode cL_law 1101 = .ok (.iload 4, 2) := by decide +kernel
theorem dL_law_1103 : decode cL_law 1103 = .ok (.iconst 2, 1) := by decide +kernel
theorem dL_law_1104 : decode cL_law 1104 = .ok (.iadd, 1) := by decide +kernel
theorem dL_law_1105 : decode cL_law 1105 = .ok (.iaload, 1) := by decide +kernel
theorem dL_law_1106 : decode cL_law 1106 = .ok (.aload_n 0, 1) := by decide +kernel
theorem dL_law_1107 : decode cL_law 1107 = .ok (.iload 4, 2) := by decide +kernel
theorem dL_law_1109 : decode cL_law 1109 = .ok (.iconst 3, 1) := by decide +kernel
theorem dL_law_1110 : decode cL_law 1110 = .ok (.iadd, 1) := by decide +kernel
theorem dL_law_1111 : decode cL_law 1111 = .ok (.iaload, 1) := by decide +kernel
theorem dL_law_1112 : decode cL_law 1112 = .ok (.aload_n 0, 1) := by decide +kernel
theorem dL_law_1113 : decode cL_law 1113 = .ok (.iload 4, 2) := by decide +kernel
theorem dL_law_1115 : decode cL_law 1115 = .ok (.iconst 4, 1) := by decide +kernel
theorem dL_law_1116 : decode cL_law 1116 = .ok (.iadd, 1) := by decide +kernel
theorem dL_law_1117 : decode cL_law 1117 = .ok (.iaload, 1) := by decide +kernel
theorem dL_law_1118 : decode cL_law 1118 = .ok (.aload_n 0, 1) := by decide +kernel
theorem dL_law_1119 : decode cL_law 1119 = .ok (.iload 4, 2) := by decide +kernel
theorem dL_law_1121 : decode cL_law 1121 = .ok (.iconst 5, 1) := by decide +kernel
theorem dL_law_1122 : decode cL_law 1122 = .ok (.iadd, 1) := by decide +kernel
theorem dL_law_1123 : decode cL_law 1123 = .ok (.iaload, 1) := by decide +kernel
theorem dL_law_1124 : decode cL_law 1124 = .ok (.invokevirtual 125, 3) := by decide +kernel
theorem dL_law_1127 : decode cL_law 1127 = .ok (.pop, 1) := by decide +kernel
theorem dL_law_1128 : decode cL_law 1128 = .ok (.aload_n 2, 1) := by decide +kernel
theorem dL_law_1129 : decode cL_law 1129 = .ok (.aload_n 0, 1) := by decide +kernel
theorem dL_law_1130 : decode cL_law 1130 = .ok (.iload 4, 2) := by decide +kernel
theorem dL_law_1132 : decode cL_law 1132 = .ok (.iconst 1, 1) := by decide +kernel
theorem dL_law_1133 : decode cL_law 1133 = .ok (.iadd, 1) := by decide +kernel
theorem dL_law_1134 : decode cL_law 1134 = .ok (.iaload, 1) := by decide +kernel
theorem dL_law_1135 : decode cL_law 1135 = .ok (.aload_n 0, 1) := by decide +kernel
theorem dL_law_1136 : decode cL_law 1136 = .ok (.iload 4, 2) := by decide +kernel
theorem dL_law_1138 : decode cL_law 1138 = .ok (.iconst 2, 1) := by decide +kernel
theorem dL_law_1139 : decode cL_law 1139 = .ok (.iadd, 1) := by decide +kernel
theorem dL_law_1140 : decode cL_law 1140 = .ok (.iaload, 1) := by decide +kernel
theorem dL_law_1141 : decode cL_law 1141 = .ok (.aload_n 0, 1) := by decide +kernel
theorem dL_law_1142 : decode cL_law 1142 = .ok (.iload 4, 2) := by decide +kernel
theorem dL_law_1144 : decode cL_law 1144 = .ok (.iconst 3, 1) := by decide +kernel
theorem dL_law_1145 : decode cL_law 1145 = .ok (.iadd, 1) := by decide +kernel
theorem dL_law_1146 : decode cL_law 1146 = .ok (.iaload, 1) := by decide +kernel
theorem dL_law_1147 : decode cL_law 1147 = .ok (.aload_n 0, 1) := by decide +kernel
theorem dL_law_1148 : decode cL_law 1148 = .ok (.iload 4, 2) := by decide +kernel
theorem dL_law_1150 : decode cL_law 1150 = .ok (.iconst 4, 1) := by decide +kernel
theorem dL_law_1151 : decode cL_law 1151 = .ok (.iadd, 1) := by decide +kernel
theorem dL_law_1152 : decode cL_law 1152 = .ok (.iaload, 1) := by decide +kernel
theorem dL_law_1153 : decode cL_law 1153 = .ok (.aload_n 0, 1) := by decide +kernel
theorem dL_law_1154 : decode cL_law 1154 = .ok (.iload 4, 2) := by decide +kernel
theorem dL_law_1156 : decode cL_law 1156 = .ok (.iconst 5, 1) := by decide +kernel
theorem dL_law_1157 : decode cL_law 1157 = .ok (.iadd, 1) := by decide +kernel
theorem dL_law_1158 : decode cL_law 1158 = .ok (.iaload, 1) := by decide +kernel
theorem dL_law_1159 : decode cL_law 1159 = .ok (.invokevirtual 128, 3) := by decide +kernel
theorem dL_law_1162 : decode cL_law 1162 = .ok (.pop, 1) := by decide +kernel
theorem dL_law_1163 : decode cL_law 1163 = .ok (.goto 302, 3) := by decide +kernel
theorem dL_law_1166 : decode cL_law 1166 = .ok (.aload_n 1, 1) := by decide +kernel
theorem dL_law_1167 : decode cL_law 1167 = .ok (.invokevirtual 129, 3) := by decide +kernel
theorem dL_law_1170 : decode cL_law 1170 = .ok (.pop2, 1) := by decide +kernel
theorem dL_law_1171 : decode cL_law 1171 = .ok (.aload_n 2, 1) := by decide +kernel
theorem dL_law_1172 : decode cL_law 1172 = .ok (.invokevirtual 133, 3) := by decide +kernel
theorem dL_law_1175 : decode cL_law 1175 = .ok (.pop2, 1) := by decide +kernel
theorem dL_law_1176 : decode cL_law 1176 = .ok (.goto 289, 3) := by decide +kernel
theorem dL_law_1179 : decode cL_law 1179 = .ok (.aload_n 1, 1) := by decide +kernel
theorem dL_law_1180 : decode cL_law 1180 = .ok (.invokevirtual 134, 3) := by decide +kernel
theorem dL_law_1183 : decode cL_law 1183 = .ok (.pop, 1) := by decide +kernel
theorem dL_law_1184 : decode cL_law 1184 = .ok (.aload_n 2, 1) := by decide +kernel
theorem dL_law_1185 : decode cL_law 1185 = .ok (.invokevirtual 137, 3) := by decide +kernel
theorem dL_law_1188 : decode cL_law 1188 = .ok (.pop, 1) := by decide +kernel
theorem dL_law_1189 : decode cL_law 1189 = .ok (.goto 276, 3) := by decide +kernel
theorem dL_law_1192 : decode cL_law 1192 = .ok (.aload_n 1, 1) := by decide +kernel
theorem dL_law_1193 : decode cL_law 1193 = .ok (.invokevirtual 138, 3) := by decide +kernel
theorem dL_law_1196 : decode cL_law 1196 = .ok (.pop, 1) := by decide +kernel
theorem dL_law_1197 : decode cL_law 1197 = .ok (.aload_n 2, 1) := by decide +kernel
theorem dL_law_1198 : decode cL_law 1198 = .ok (.invokevirtual 141, 3) := by decide +kernel
theorem dL_law_1201 : decode cL_law 1201 = .ok (.pop, 1) := by decide +kernel
theorem dL_law_1202 : decode cL_law 1202 = .ok (.goto 263, 3) := by decide +kernel
theorem dL_law_1205 : decode cL_law 1205 = .ok (.aload_n 1, 1) := by decide +kernel
theorem dL_law_1206 : decode cL_law 1206 = .ok (.aload_n 0, 1) := by decide +kernel
theorem dL_law_1207 : decode cL_law 1207 = .ok (.iload 4, 2) := by decide +kernel
theorem dL_law_1209 : decode cL_law 1209 = .ok (.iconst 1, 1) := by decide +kernel
theorem dL_law_1210 : decode cL_law 1210 = .ok (.iadd, 1) := by decide +kernel
theorem dL_law_1211 : decode cL_law 1211 = .ok (.iaload, 1) := by decide +kernel
theorem dL_law_1212 : decode cL_law 1212 = .ok (.aload_n 0, 1) := by decide +kernel
theorem dL_law_1213 : decode cL_law 1213 = .ok (.iload 4, 2) := by decide +kernel
theorem dL_law_1215 : decode cL_law 1215 = .ok (.iconst 2, 1) := by decide +kernel
theorem dL_law_1216 : decode cL_law 1216 = .ok (.iadd, 1) := by decide +kernel
theorem dL_law_1217 : decode cL_law 1217 = .ok (.iaload, 1) := by decide +kernel
theorem dL_law_1218 : decode cL_law 1218 = .ok (.aload_n 0, 1) := by decide +kernel
theorem dL_law_1219 : decode cL_law 1219 = .ok (.iload 4, 2) := by decide +kernel
theorem dL_law_1221 : decode cL_law 1221 = .ok (.iconst 3, 1) := by decide +kernel
theorem dL_law_1222 : decode cL_law 1222 = .ok (.iadd, 1) := by decide +kernel
theorem dL_law_1223 : decode cL_law 1223 = .ok (.iaload, 1) := by decide +kernel
theorem dL_law_1224 : decode cL_law 1224 = .ok (.invokevirtual 142, 3) := by decide +kernel
theorem dL_law_1227 : decode cL_law 1227 = .ok (.pop, 1) := by decide +kernel
theorem dL_law_1228 : decode cL_law 1228 = .ok (.aload_n 2, 1) := by decide +kernel
theorem dL_law_1229 : decode cL_law 1229 = .ok (.aload_n 0, 1) := by decide +kernel
theorem dL_law_1230 : decode cL_law 1230 = .ok (.iload 4, 2) := by decide +kernel
theorem dL_law_1232 : decode cL_law 1232 = .ok (.iconst 1, 1) := by decide +kernel
theorem dL_law_1233 : decode cL_law 1233 = .ok (.iadd, 1) := by decide +kernel
theorem dL_law_1234 : decode cL_law 1234 = .ok (.iaload, 1) := by decide +kernel
theorem dL_law_1235 : decode cL_law 1235 = .ok (.aload_n 0, 1) := by decide +kernel
theorem dL_law_1236 : decode cL_law 1236 = .ok (.iload 4, 2) := by decide +kernel
theorem dL_law_1238 : decode cL_law 1238 = .ok (.iconst 2, 1) := by decide +kernel
theorem dL_law_1239 : decode cL_law 1239 = .ok (.iadd, 1) := by decide +kernel
theorem dL_law_1240 : decode cL_law 1240 = .ok (.iaload, 1) := by decide +kernel
theorem dL_law_1241 : decode cL_law 1241 = .ok (.aload_n 0, 1) := by decide +kernel
theorem dL_law_1242 : decode cL_law 1242 = .ok (.iload 4, 2) := by decide +kernel
theorem dL_law_1244 : decode cL_law 1244 = .ok (.iconst 3, 1) := by decide +kernel
theorem dL_law_1245 : decode cL_law 1245 = .ok (.iadd, 1) := by decide +kernel
theorem dL_law_1246 : decode cL_law 1246 = .ok (.iaload, 1) := by decide +kernel
theorem dL_law_1247 : decode cL_law 1247 = .ok (.invokevirtual 146, 3) := by decide +kernel
theorem dL_law_1250 : decode cL_law 1250 = .ok (.pop, 1) := by decide +kernel
theorem dL_law_1251 : decode cL_law 1251 = .ok (.goto 214, 3) := by decide +kernel
theorem dL_law_1254 : decode cL_law 1254 = .ok (.aload_n 1, 1) := by decide +kernel
theorem dL_law_1255 : decode cL_law 1255 = .ok (.aload_n 0, 1) := by decide +kernel
theorem dL_law_1256 : decode cL_law 1256 = .ok (.iload 4, 2) := by decide +kernel
theorem dL_law_1258 : decode cL_law 1258 = .ok (.iconst 1, 1) := by decide +kernel
theorem dL_law_1259 : decode cL_law 1259 = .ok (.iadd, 1) := by decide +kernel
theorem dL_law_1260 : decode cL_law 1260 = .ok (.iaload, 1) := by decide +kernel
theorem dL_law_1261 : decode cL_law 1261 = .ok (.invokevirtual 147, 3) := by decide +kernel
theorem dL_law_1264 : decode cL_law 1264 = .ok (.pop, 1) := by decide +kernel
theorem dL_law_1265 : decode cL_law 1265 = .ok (.aload_n 2, 1) := by decide +kernel
theorem dL_law_1266 : decode cL_law 1266 = .ok (.aload_n 0, 1) := by decide +kernel
theorem dL_law_1267 : decode cL_law 1267 = .ok (.iload 4, 2) := by decide +kernel
theorem dL_law_1269 : decode cL_law 1269 = .ok (.iconst 1, 1) := by decide +kernel
theorem dL_law_1270 : decode cL_law 1270 = .ok (.iadd, 1) := by decide +kernel
theorem dL_law_1271 : decode cL_law 1271 = .ok (.iaload, 1) := by decide +kernel
theorem dL_law_1272 : decode cL_law 1272 = .ok (.invokevirtual 150, 3) := by decide +kernel
theorem dL_law_1275 : decode cL_law 1275 = .ok (.pop, 1) := by decide +kernel
theorem dL_law_1276 : decode cL_law 1276 = .ok (.goto 189, 3) := by decide +kernel
theorem dL_law_1279 : decode cL_law 1279 = .ok (.aload_n 1, 1) := by decide +kernel
theorem dL_law_1280 : decode cL_law 1280 = .ok (.aload_n 0, 1) := by decide +kernel
theorem dL_law_1281 : decode cL_law 1281 = .ok (.iload 4, 2) := by decide +kernel
theorem dL_law_1283 : decode cL_law 1283 = .ok (.iconst 1, 1) := by decide +kernel
theorem dL_law_1284 : decode cL_law 1284 = .ok (.iadd, 1) := by decide +kernel
theorem dL_law_1285 : decode cL_law 1285 = .ok (.iaload, 1) := by decide +kernel
theorem dL_law_1286 : decode cL_law 1286 = .ok (.invokevirtual 151, 3) := by decide +kernel
theorem dL_law_1289 : decode cL_law 1289 = .ok (.pop, 1) := by decide +kernel
theorem dL_law_1290 : decode cL_law 1290 = .ok (.aload_n 2, 1) := by decide +kernel
theorem dL_law_1291 : decode cL_law 1291 = .ok (.aload_n 0, 1) := by decide +kernel
theorem dL_law_1292 : decode cL_law 1292 = .ok (.iload 4, 2) := by decide +kernel
theorem dL_law_1294 : decode cL_law 1294 = .ok (.iconst 1, 1) := by decide +kernel
theorem dL_law_1295 : decode cL_law 1295 = .ok (.iadd, 1) := by decide +kernel
theorem dL_law_1296 : decode cL_law 1296 = .ok (.iaload, 1) := by decide +kernel
theorem dL_law_1297 : decode cL_law 1297 = .ok (.invokevirtual 154, 3) := by decide +kernel
theorem dL_law_1300 : decode cL_law 1300 = .ok (.pop, 1) := by decide +kernel
theorem dL_law_1301 : decode cL_law 1301 = .ok (.goto 164, 3) := by decide +kernel
theorem dL_law_1304 : decode cL_law 1304 = .ok (.aload_n 1, 1) := by decide +kernel
theorem dL_law_1305 : decode cL_law 1305 = .ok (.invokevirtual 155, 3) := by decide +kernel
theorem dL_law_1308 : decode cL_law 1308 = .ok (.pop, 1) := by decide +kernel
theorem dL_law_1309 : decode cL_law 1309 = .ok (.aload_n 2, 1) := by decide +kernel
theorem dL_law_1310 : decode cL_law 1310 = .ok (.invokevirtual 158, 3) := by decide +kernel
theorem dL_law_1313 : decode cL_law 1313 = .ok (.pop, 1) := by decide +kernel
theorem dL_law_1314 : decode cL_law 1314 = .ok (.goto 151, 3) := by decide +kernel
theorem dL_law_1317 : decode cL_law 1317 = .ok (.aload_n 1, 1) := by decide +kernel
theorem dL_law_1318 : decode cL_law 1318 = .ok (.aload_n 0, 1) := by decide +kernel
theorem dL_law_1319 : decode cL_law 1319 = .ok (.iload 4, 2) := by decide +kernel
theorem dL_law_1321 : decode cL_law 1321 = .ok (.iconst 1, 1) := by decide +kernel
theorem dL_law_1322 : decode cL_law 1322 = .ok (.iadd, 1) := by decide +kernel
theorem dL_law_1323 : decode cL_law 1323 = .ok (.iaload, 1) := by decide +kernel
theorem dL_law_1324 : decode cL_law 1324 = .ok (.invokevirtual 159, 3) := by decide +kernel
theorem dL_law_1327 : decode cL_law 1327 = .ok (.pop, 1) := by decide +kernel
theorem dL_law_1328 : decode cL_law 1328 = .ok (.aload_n 2, 1) := by decide +kernel
theorem dL_law_1329 : decode cL_law 1329 = .ok (.aload_n 0, 1) := by decide +kernel
theorem dL_law_1330 : decode cL_law 1330 = .ok (.iload 4, 2) := by decide +kernel
theorem dL_law_1332 : decode cL_law 1332 = .ok (.iconst 1, 1) := by decide +kernel
theorem dL_law_1333 : decode cL_law 1333 = .ok (.iadd, 1) := by decide +kernel
theorem dL_law_1334 : decode cL_law 1334 = .ok (.iaload, 1) := by decide +kernel
theorem dL_law_1335 : decode cL_law 1335 = .ok (.invokevirtual 162, 3) := by decide +kernel
theorem dL_law_1338 : decode cL_law 1338 = .ok (.pop, 1) := by decide +kernel
theorem dL_law_1339 : decode cL_law 1339 = .ok (.goto 126, 3) := by decide +kernel
theorem dL_law_1342 : decode cL_law 1342 = .ok (.aload_n 1, 1) := by decide +kernel
theorem dL_law_1343 : decode cL_law 1343 = .ok (.aload_n 0, 1) := by decide +kernel
theorem dL_law_1344 : decode cL_law 1344 = .ok (.iload 4, 2) := by decide +kernel
theorem dL_law_1346 : decode cL_law 1346 = .ok (.iconst 1, 1) := by decide +kernel
theorem dL_law_1347 : decode cL_law 1347 = .ok (.iadd, 1) := by decide +kernel
theorem dL_law_1348 : decode cL_law 1348 = .ok (.iaload, 1) := by decide +kernel
theorem dL_law_1349 : decode cL_law 1349 = .ok (.aload_n 0, 1) := by decide +kernel
theorem dL_law_1350 : decode cL_law 1350 = .ok (.iload 4, 2) := by decide +kernel
theorem dL_law_1352 : decode cL_law 1352 = .ok (.iconst 2, 1) := by decide +kernel
theorem dL_law_1353 : decode cL_law 1353 = .ok (.iadd, 1) := by decide +kernel
theorem dL_law_1354 : decode cL_law 1354 = .ok (.iaload, 1) := by decide +kernel
theorem dL_law_1355 : decode cL_law 1355 = .ok (.aload_n 0, 1) := by decide +kernel
theorem dL_law_1356 : decode cL_law 1356 = .ok (.iload 4, 2) := by decide +kernel
theorem dL_law_1358 : decode cL_law 1358 = .ok (.iconst 3, 1) := by decide +kernel
theorem dL_law_1359 : decode cL_law 1359 = .ok (.iadd, 1) := by decide +kernel
theorem dL_law_1360 : decode cL_law 1360 = .ok (.iaload, 1) := by decide +kernel
theorem dL_law_1361 : decode cL_law 1361 = .ok (.aload_n 0, 1) := by decide +kernel
theorem dL_law_1362 : decode cL_law 1362 = .ok (.iload 4, 2) := by decide +kernel
theorem dL_law_1364 : decode cL_law 1364 = .ok (.iconst 4, 1) := by decide +kernel
theorem dL_law_1365 : decode cL_law 1365 = .ok (.iadd, 1) := by decide +kernel
theorem dL_law_1366 : decode cL_law 1366 = .ok (.iaload, 1) := by decide +kernel
theorem dL_law_1367 : decode cL_law 1367 = .ok (.aload_n 0, 1) := by decide +kernel
theorem dL_law_1368 : decode cL_law 1368 = .ok (.iload 4, 2) := by decide +kernel
theorem dL_law_1370 : decode cL_law 1370 = .ok (.iconst 5, 1) := by decide +kernel
theorem dL_law_1371 : decode cL_law 1371 = .ok (.iadd, 1) := by decide +kernel
theorem dL_law_1372 : decode cL_law 1372 = .ok (.iaload, 1) := by decide +kernel
theorem dL_law_1373 : decode cL_law 1373 = .ok (.invokevirtual 163, 3) := by decide +kernel
theorem dL_law_1376 : decode cL_law 1376 = .ok (.pop, 1) := by decide +kernel
theorem dL_law_1377 : decode cL_law 1377 = .ok (.aload_n 2, 1) := by decide +kernel
theorem dL_law_1378 : decode cL_law 1378 = .ok (.aload_n 0, 1) := by decide +kernel
theorem dL_law_1379 : decode cL_law 1379 = .ok (.iload 4, 2) := by decide +kernel
theorem dL_law_1381 : decode cL_law 1381 = .ok (.iconst 1, 1) := by decide +kernel
theorem dL_law_1382 : decode cL_law 1382 = .ok (.iadd, 1) := by decide +kernel
theorem dL_law_1383 : decode cL_law 1383 = .ok (.iaload, 1) := by decide +kernel
theorem dL_law_1384 : decode cL_law 1384 = .ok (.aload_n 0, 1) := by decide +kernel
theorem dL_law_1385 : decode cL_law 1385 = .ok (.iload 4, 2) := by decide +kernel
theorem dL_law_1387 : decode cL_law 1387 = .ok (.iconst 2, 1) := by decide +kernel
theorem dL_law_1388 : decode cL_law 1388 = .ok (.iadd, 1) := by decide +kernel
theorem dL_law_1389 : decode cL_law 1389 = .ok (.iaload, 1) := by decide +kernel
theorem dL_law_1390 : decode cL_law 1390 = .ok (.aload_n 0, 1) := by decide +kernel
theorem dL_law_1391 : decode cL_law 1391 = .ok (.iload 4, 2) := by decide +kernel
theorem dL_law_1393 : decode cL_law 1393 = .ok (.iconst 3, 1) := by decide +kernel
theorem dL_law_1394 : decode cL_law 1394 = .ok (.iadd, 1) := by decide +kernel
theorem dL_law_1395 : decode cL_law 1395 = .ok (.iaload, 1) := by decide +kernel
theorem dL_law_1396 : decode cL_law 1396 = .ok (.aload_n 0, 1) := by decide +kernel
theorem dL_law_1397 : decode cL_law 1397 = .ok (.iload 4, 2) := by decide +kernel
theorem dL_law_1399 : decode cL_law 1399 = .ok (.iconst 4, 1) := by decide +kernel
theorem dL_law_1400 : decode cL_law 1400 = .ok (.iadd, 1) := by decide +kernel
theorem dL_law_1401 : decode cL_law 1401 = .ok (.iaload, 1) := by decide +kernel
theorem dL_law_1402 : decode cL_law 1402 = .ok (.aload_n 0, 1) := by decide +kernel
theorem dL_law_1403 : decode cL_law 1403 = .ok (.iload 4, 2) := by decide +kernel
theorem dL_law_1405 : decode cL_law 1405 = .ok (.iconst 5, 1) := by decide +kernel
theorem dL_law_1406 : decode cL_law 1406 = .ok (.iadd, 1) := by decide +kernel
theorem dL_law_1407 : decode cL_law 1407 = .ok (.iaload, 1) := by decide +kernel
theorem dL_law_1408 : decode cL_law 1408 = .ok (.invokevirtual 166, 3) := by decide +kernel
theorem dL_law_1411 : decode cL_law 1411 = .ok (.pop, 1) := by decide +kernel
theorem dL_law_1412 : decode cL_law 1412 = .ok (.goto 53, 3) := by decide +kernel
theorem dL_law_1415 : decode cL_law 1415 = .ok (.aload_n 1, 1) := by decide +kernel
theorem dL_law_1416 : decode cL_law 1416 = .ok (.aload_n 0, 1) := by decide +kernel
theorem dL_law_1417 : decode cL_law 1417 = .ok (.iload 4, 2) := by decide +kernel
theorem dL_law_1419 : decode cL_law 1419 = .ok (.iconst 1, 1) := by decide +kernel
theorem dL_law_1420 : decode cL_law 1420 = .ok (.iadd, 1) := by decide +kernel
theorem dL_law_1421 : decode cL_law 1421 = .ok (.iaload, 1) := by decide +kernel
theorem dL_law_1422 : decode cL_law 1422 = .ok (.invokevirtual 167, 3) := by decide +kernel
theorem dL_law_1425 : decode cL_law 1425 = .ok (.pop, 1) := by decide +kernel
theorem dL_law_1426 : decode cL_law 1426 = .ok (.aload_n 2, 1) := by decide +kernel
theorem dL_law_1427 : decode cL_law 1427 = .ok (.aload_n 0, 1) := by decide +kernel
theorem dL_law_1428 : decode cL_law 1428 = .ok (.iload 4, 2) := by decide +kernel
theorem dL_law_1430 : decode cL_law 1430 = .ok (.iconst 1, 1) := by decide +kernel
theorem dL_law_1431 : decode cL_law 1431 = .ok (.iadd, 1) := by decide +kernel
theorem dL_law_1432 : decode cL_law 1432 = .ok (.iaload, 1) := by decide +kernel
theorem dL_law_1433 : decode cL_law 1433 = .ok (.invokevirtual 170, 3) := by decide +kernel
theorem dL_law_1436 : decode cL_law 1436 = .ok (.pop, 1) := by decide +kernel
theorem dL_law_1437 : decode cL_law 1437 = .ok (.goto 28, 3) := by decide +kernel
theorem dL_law_1440 : decode cL_law 1440 = .ok (.aload_n 1, 1) := by decide +kernel
theorem dL_law_1441 : decode cL_law 1441 = .ok (.aload_n 0, 1) := by decide +kernel
theorem dL_law_1442 : decode cL_law 1442 = .ok (.iload 4, 2) := by decide +kernel
theorem dL_law_1444 : decode cL_law 1444 = .ok (.iconst 1, 1) := by decide +kernel
theorem dL_law_1445 : decode cL_law 1445 = .ok (.iadd, 1) := by decide +kernel
theorem dL_law_1446 : decode cL_law 1446 = .ok (.iaload, 1) := by decide +kernel
theorem dL_law_1447 : decode cL_law 1447 = .ok (.invokevirtual 171, 3) := by decide +kernel
theorem dL_law_1450 : decode cL_law 1450 = .ok (.pop, 1) := by decide +kernel
theorem dL_law_1451 : decode cL_law 1451 = .ok (.aload_n 2, 1) := by decide +kernel
theorem dL_law_1452 : decode cL_law 1452 = .ok (.aload_n 0, 1) := by decide +kernel
theorem dL_law_1453 : decode cL_law 1453 = .ok (.iload 4, 2) := by decide +kernel
theorem dL_law_1455 : decode cL_law 1455 = .ok (.iconst 1, 1) := by decide +kernel
theorem dL_law_1456 : decode cL_law 1456 = .ok (.iadd, 1) := by decide +kernel
theorem dL_law_1457 : decode cL_law 1457 = .ok (.iaload, 1) := by decide +kernel
theorem dL_law_1458 : decode cL_law 1458 = .ok (.invokevirtual 174, 3) := by decide +kernel
theorem dL_law_1461 : decode cL_law 1461 = .ok (.pop, 1) := by decide +kernel
theorem dL_law_1462 : decode cL_law 1462 = .ok (.goto 3, 3) := by decide +kernel
theorem dL_law_1465 : decode cL_law 1465 = .ok (.iinc 4 6, 3) := by decide +kernel
theorem dL_law_1468 : decode cL_law 1468 = .ok (.goto (-1445), 3) := by decide +kernel
theorem dL_law_1471 : decode cL_law 1471 = .ok (.iconst 1, 1) := by decide +kernel
theorem dL_law_1472 : decode cL_law 1472 = .ok (.ireturn, 1) := by decide +kernel
theorem li_L_19 : xLI RL 19 yX11_init cX11_init 1 0 := ⟨Or.inl m_1_7, m_1_8, m_1_2, m_1_9, rfl, by decide +kernel⟩
theorem li_L_22 : xLI RL 22 yX12_init cX12_init 1 0 := ⟨Or.inl m_7_22, m_7_23, m_1_5, m_8_0, rfl, by decide +kernel⟩
theorem lk_L_102 : xLV RL 102 yX12_close cX12_close 4 (some .int) 0 := ⟨m_40_16, m_40_17, m_40_18, m_1_5, m_40_19, by decide +kernel⟩
theorem lk_L_108 : xLV RL 108 yX12_of cX12_of 3 (some .int) 2 := ⟨m_42_3, m_42_4, m_42_5, m_1_5, m_42_6, by decide +kernel⟩
theorem lk_L_112 : xLV RL 112 yX12_coin cX12_coin 2 (some .int) 1 := ⟨m_42_18, m_42_19, m_42_20, m_1_5, m_42_21, by decide +kernel⟩
theorem lk_L_113 : xLV RL 113 yX11_counted cX11_counted 5 (some .int) 4 := ⟨m_42_22, m_43_0, m_43_1, m_1_2, m_43_2, by decide +kernel⟩
theorem lk_L_116 : xLV RL 116 yX12_counted cX12_counted 5 (some .int) 4 := ⟨m_43_9, m_43_10, m_43_11, m_1_5, m_43_12, by decide +kernel⟩
theorem lk_L_117 : xLV RL 117 yX11_falseCounts cX11_falseCounts 2 (some .int) 1 := ⟨m_43_14, m_43_15, m_43_16, m_1_2, m_43_17, by decide +kernel⟩
theorem lk_L_120 : xLV RL 120 yX12_falseCounts cX12_falseCounts 7 (some .int) 1 := ⟨m_44_6, m_44_7, m_44_8, m_1_5, m_44_9, by decide +kernel⟩
theorem lk_L_121 : xLV RL 121 yX11_shortOf cX11_shortOf 2 (some .int) 1 := ⟨m_44_18, m_44_19, m_44_20, m_1_2, m_44_21, by decide +kernel⟩
theorem lk_L_124 : xLV RL 124 yX12_shortOf cX12_shortOf 9 (some .int) 1 := ⟨m_45_17, m_45_18, m_45_19, m_1_5, m_45_20, by decide +kernel⟩
theorem lk_L_125 : xLV RL 125 yX11_best cX11_best 7 (some .int) 5 := ⟨m_46_1, m_46_2, m_46_3, m_1_2, m_46_4, by decide +kernel⟩
theorem lk_L_128 : xLV RL 128 yX12_best cX12_best 19 (some .int) 5 := ⟨m_47_0, m_47_1, m_47_2, m_1_5, m_47_3, by decide +kernel⟩
theorem lk_L_129 : xLV RL 129 yX11_expected cX11_expected 1 (some .long) 0 := ⟨m_47_5, m_47_6, m_47_7, m_1_2, m_47_8, by decide +kernel⟩
theorem lk_L_133 : xLV RL 133 yX12_expected cX12_expected 1 (some .long) 0 := ⟨m_47_10, m_47_11, m_47_12, m_1_5, m_47_13, by decide +kernel⟩
theorem lk_L_134 : xLV RL 134 yX11_tried cX11_tried 1 (some .int) 0 := ⟨m_47_14, m_47_15, m_47_16, m_1_2, m_47_17, by decide +kernel⟩
theorem lk_L_137 : xLV RL 137 yX12_tried cX12_tried 5 (some .int) 0 := ⟨m_48_3, m_48_4, m_48_5, m_1_5, m_48_6, by decide +kernel⟩
theorem lk_L_138 : xLV RL 138 yX11_triedEaten cX11_triedEaten 1 (some .int) 0 := ⟨m_48_12, m_48_13, m_48_14, m_1_2, m_48_15, by decide +kernel⟩
theorem lk_L_141 : xLV RL 141 yX12_triedEaten cX12_triedEaten 1 (some .int) 0 := ⟨m_48_16, m_48_17, m_48_18, m_1_5, m_48_19, by decide +kernel⟩
theorem lk_L_142 : xLV RL 142 yX11_parted cX11_parted 6 (some .int) 3 := ⟨m_48_20, m_48_21, m_48_22, m_1_2, m_48_23, by decide +kernel⟩
theorem lk_L_146 : xLV RL 146 yX12_parted cX12_parted 7 (some .int) 3 := ⟨m_51_16, m_51_17, m_51_18, m_1_5, m_51_19, by decide +kernel⟩
theorem lk_L_147 : xLV RL 147 yX11_partedAt cX11_partedAt 2 (some .int) 1 := ⟨m_52_16, m_52_17, m_52_18, m_1_2, m_52_19, by decide +kernel⟩
theorem lk_L_150 : xLV RL 150 yX12_partedAt cX12_partedAt 2 (some .int) 1 := ⟨m_52_22, m_52_23, m_53_0, m_1_5, m_53_1, by decide +kernel⟩
theorem lk_L_151 : xLV RL 151 yX11_peace cX11_peace 2 (some .int) 1 := ⟨m_53_2, m_53_3, m_53_4, m_1_2, m_53_5, by decide +kernel⟩
theorem lk_L_154 : xLV RL 154 yX12_peace cX12_peace 2 (some .int) 1 := ⟨m_53_10, m_53_11, m_53_12, m_1_5, m_53_13, by decide +kernel⟩
theorem lk_L_155 : xLV RL 155 yX11_truck cX11_truck 2 (some .int) 0 := ⟨m_53_14, m_53_15, m_53_16, m_1_2, m_53_17, by decide +kernel⟩
theorem lk_L_158 : xLV RL 158 yX12_truck cX12_truck 7 (some .int) 0 := ⟨m_55_10, m_55_11, m_55_12, m_1_5, m_55_13, by decide +kernel⟩
theorem lk_L_159 : xLV RL 159 yX11_truckAt cX11_truckAt 2 (some .int) 1 := ⟨m_56_2, m_56_3, m_56_4, m_1_2, m_56_5, by decide +kernel⟩
theorem lk_L_162 : xLV RL 162 yX12_truckAt cX12_truckAt 2 (some .int) 1 := ⟨m_56_8, m_56_9, m_56_10, m_1_5, m_56_11, by decide +kernel⟩
theorem lk_L_163 : xLV RL 163 yX11_strike cX11_strike 7 (some .int) 5 := ⟨m_56_12, m_56_13, m_56_14, m_1_2, m_56_15, by decide +kernel⟩
theorem lk_L_166 : xLV RL 166 yX12_strike cX12_strike 13 (some .int) 5 := ⟨m_57_5, m_57_6, m_57_7, m_1_5, m_57_8, by decide +kernel⟩
theorem lk_L_167 : xLV RL 167 yX11_struck cX11_struck 2 (some .int) 1 := ⟨m_57_12, m_57_13, m_57_14, m_1_2, m_57_15, by decide +kernel⟩
theorem lk_L_170 : xLV RL 170 yX12_struck cX12_struck 2 (some .int) 1 := ⟨m_57_16, m_57_17, m_57_18, m_1_5, m_57_19, by decide +kernel⟩
theorem lk_L_171 : xLV RL 171 yX11_count cX11_count 2 (some .int) 1 := ⟨m_57_20, m_57_21, m_57_22, m_1_2, m_57_23, by decide +kernel⟩
theorem lk_L_174 : xLV RL 174 yX12_count cX12_count 2 (some .int) 1 := ⟨m_58_0, m_58_1, m_58_2, m_1_5, m_58_3, by decide +kernel⟩
theorem lk_L_23 : xLV RL 23 yX11_feed cX11_feed 6 (some .int) 5 := ⟨m_10_16, m_10_17, m_10_18, m_1_2, m_10_19, by decide +kernel⟩
theorem lk_L_27 : xLV RL 27 yX12_feed cX12_feed 6 (some .int) 5 := ⟨m_11_1, m_11_2, m_11_3, m_1_5, m_11_4, by decide +kernel⟩
theorem lk_L_28 : xLV RL 28 yX11_end cX11_end 2 (some .boolean) 1 := ⟨m_11_11, m_11_12, m_11_13, m_1_2, m_11_14, by decide +kernel⟩
theorem lk_L_32 : xLV RL 32 yX12_end cX12_end 2 (some .boolean) 1 := ⟨m_11_15, m_11_16, m_11_17, m_1_5, m_11_18, by decide +kernel⟩
theorem lk_L_33 : xLV RL 33 yX11_boy cX11_boy 6 (some .int) 4 := ⟨m_11_19, m_11_20, m_11_21, m_1_2, m_11_22, by decide +kernel⟩
theorem lk_L_37 : xLV RL 37 yX12_boy cX12_boy 5 (some .int) 4 := ⟨m_15_7, m_15_8, m_15_9, m_1_5, m_15_10, by decide +kernel⟩
theorem lk_L_38 : xLV RL 38 yX11_badge cX11_badge 3 (some .boolean) 2 := ⟨m_15_15, m_15_16, m_15_17, m_1_2, m_15_18, by decide +kernel⟩
theorem lk_L_42 : xLV RL 42 yX12_badge cX12_badge 3 (some .boolean) 2 := ⟨m_16_18, m_16_19, m_16_20, m_1_5, m_16_21, by decide +kernel⟩
theorem lk_L_43 : xLV RL 43 yX11_owner cX11_owner 3 (some .boolean) 2 := ⟨m_17_2, m_17_3, m_17_4, m_1_2, m_17_5, by decide +kernel⟩
theorem lk_L_46 : xLV RL 46 yX12_owner cX12_owner 3 (some .boolean) 2 := ⟨m_17_10, m_17_11, m_17_12, m_1_5, m_17_13, by decide +kernel⟩
theorem lk_L_47 : xLV RL 47 yX11_weather cX11_weather 2 (some .boolean) 0 := ⟨m_17_17, m_17_18, m_17_19, m_1_2, m_17_20, by decide +kernel⟩
theorem lk_L_51 : xLV RL 51 yX12_weather cX12_weather 3 (some .boolean) 0 := ⟨m_18_7, m_18_8, m_18_9, m_1_5, m_18_10, by decide +kernel⟩
theorem lk_L_52 : xLV RL 52 yX11_sky cX11_sky 2 (some .int) 1 := ⟨m_18_16, m_18_17, m_18_18, m_1_2, m_18_19, by decide +kernel⟩
theorem lk_L_55 : xLV RL 55 yX12_sky cX12_sky 2 (some .int) 1 := ⟨m_18_21, m_18_22, m_18_23, m_1_5, m_19_0, by decide +kernel⟩
theorem lk_L_56 : xLV RL 56 yX11_headline cX11_headline 4 (some .boolean) 3 := ⟨m_19_8, m_19_9, m_19_10, m_1_2, m_19_11, by decide +kernel⟩
theorem lk_L_60 : xLV RL 60 yX12_headline cX12_headline 4 (some .boolean) 3 := ⟨m_19_19, m_19_20, m_19_21, m_1_5, m_19_22, by decide +kernel⟩
theorem lk_L_61 : xLV RL 61 yX11_table cX11_table 4 (some .boolean) 3 := ⟨m_20_3, m_20_4, m_20_5, m_1_2, m_20_6, by decide +kernel⟩
theorem lk_L_64 : xLV RL 64 yX12_table cX12_table 4 (some .boolean) 3 := ⟨m_20_12, m_20_13, m_20_14, m_1_5, m_20_15, by decide +kernel⟩
theorem lk_L_65 : xLV RL 65 yX11_want cX11_want 4 (some .boolean) 3 := ⟨m_20_16, m_20_17, m_20_18, m_1_2, m_20_19, by decide +kernel⟩
theorem lk_L_68 : xLV RL 68 yX12_want cX12_want 4 (some .boolean) 3 := ⟨m_20_21, m_20_22, m_20_23, m_1_5, m_21_0, by decide +kernel⟩
theorem lk_L_69 : xLV RL 69 yX11_asked cX11_asked 5 (some .int) 4 := ⟨m_21_1, m_21_2, m_21_3, m_1_2, m_21_4, by decide +kernel⟩
theorem lk_L_73 : xLV RL 73 yX12_asked cX12_asked 5 (some .int) 4 := ⟨m_21_9, m_21_10, m_21_11, m_1_5, m_21_12, by decide +kernel⟩
theorem lk_L_74 : xLV RL 74 yX11_minutes cX11_minutes 4 (some .boolean) 3 := ⟨m_21_17, m_21_18, m_21_19, m_1_2, m_21_20, by decide +kernel⟩
theorem lk_L_77 : xLV RL 77 yX12_minutes cX12_minutes 4 (some .boolean) 3 := ⟨m_21_22, m_21_23, m_22_0, m_1_5, m_22_1, by decide +kernel⟩
theorem lk_L_78 : xLV RL 78 yX11_terms cX11_terms 3 (some .int) 1 := ⟨m_22_7, m_22_8, m_22_9, m_1_2, m_22_10, by decide +kernel⟩
theorem lk_L_81 : xLV RL 81 yX12_terms cX12_terms 4 (some .int) 1 := ⟨m_28_3, m_28_4, m_28_5, m_1_5, m_28_6, by decide +kernel⟩
theorem lk_L_82 : xLV RL 82 yX11_fault cX11_fault 1 (some .int) 0 := ⟨m_32_9, m_32_10, m_32_11, m_1_2, m_32_12, by decide +kernel⟩
theorem lk_L_86 : xLV RL 86 yX12_fault cX12_fault 1 (some .int) 0 := ⟨m_32_13, m_32_14, m_32_15, m_1_5, m_32_16, by decide +kernel⟩
theorem lk_L_87 : xLV RL 87 yX11_bundle cX11_bundle 7 (some .int) 5 := ⟨m_32_17, m_32_18, m_32_19, m_1_2, m_32_20, by decide +kernel⟩
theorem lk_L_90 : xLV RL 90 yX12_bundle cX12_bundle 8 (some .int) 5 := ⟨m_36_1, m_36_2, m_36_3, m_1_5, m_36_4, by decide +kernel⟩
theorem lk_L_91 : xLV RL 91 yX11_told cX11_told 5 (some .int) 2 := ⟨m_37_4, m_37_5, m_37_6, m_1_2, m_37_7, by decide +kernel⟩
theorem lk_L_94 : xLV RL 94 yX12_told cX12_told 4 (some .int) 2 := ⟨m_37_18, m_37_19, m_37_20, m_1_5, m_37_21, by decide +kernel⟩
theorem lk_L_95 : xLV RL 95 yX11_why cX11_why 1 (some .int) 0 := ⟨m_38_2, m_38_3, m_38_4, m_1_2, m_38_5, by decide +kernel⟩
theorem lk_L_98 : xLV RL 98 yX12_why cX12_why 1 (some .int) 0 := ⟨m_38_6, m_38_7, m_38_8, m_1_5, m_38_9, by decide +kernel⟩
theorem lk_L_99 : xLV RL 99 yX11_close cX11_close 1 (some .int) 0 := ⟨m_38_10, m_38_11, m_38_12, m_1_2, m_38_13, by decide +kernel⟩
theorem nw_L_20 : xNw RL 20 13 RX12 TX12 91 tyX12 [.int 0, .null, .int 0, .int 0, .null, .null, .null, .null, .null, .null, .null, .null, .null, .null, .null, .null, .int 0, .int 0, .int 0, .int 0, .int 0, .int 0, .int 0, .int 0, .int 0, .int 0, .int 0, .int 0, .long 0, .null, .null, .null, .null, .null, .null, .null, .null, .null, .null, .int 0, .int 0, .int 0, .int 0, .int 0, .int 0, .null, .null, .int 0, .null, .null, .null, .null, .null, .null, .null, .null, .null, .null, .int 0, .int 0, .null, .null, .null, .null, .null, .null, .null, .null, .null, .int 0, .long 0, .int 0, .null, .null, .null, .null, .null, .null, .int 0, .int 0, .null, .null, .null, .null, .null, .null, .null, .int 0, .int 0, .int 0, .int 0] := ⟨by decide, rfl, inlX12, tyX12_ok, dfX12, m_1_3, m_1_4, m_1_5⟩
theorem nw_L_8 : xNw RL 8 12 RX11 TX11 18 tyX11 [.null, .null, .null, .null, .null, .null, .null, .null, .null, .null, .null, .null, .int 0, .int 0, .int 0, .int 0, .int 0, .int 0] := ⟨by decide, rfl, inlX11, tyX11_ok, dfX11, m_1_0, m_1_1, m_1_2⟩
theorem xPi_seal {S S1 : xT} {g : xG} {a q r ci : Nat} (h : xPi S g a) (hq : S q = some (r, 0)) (hS : S1 = xset S q (ci, 0)) (hr : 5000 ≤ r ∧ r < 5100) : xPi S1 g a := by
  obtain ⟨p, q', c, d, n, h1, h2, h3, h4, h5, h6, h7, h8, h9, h10, h11, h12, h13, h14, h15⟩ := h
  have ho : ∀ b, b ≠ q → S1 b = S b := fun b hb => by rw [hS]; exact xset_o hb
  exact ⟨p, q', c, d, n, xhs_seal ho hq h1 (by omega), h2, h3, h4, xhs_seal ho hq h5 (by omega), xhs_seal ho hq h6 (by omega), h7, h8, h9, xhs_seal ho hq h10 (by omega), xhs_seal ho hq h11 (by omega), h12, h13, h14, h15⟩
section XSR
variable {K : xCx} {E : xEn} {own : String} {cc : ByteArray} {Lw : List (Nat × Nat)} {nL rf rc rs rl : Nat} {pc : Nat} {lv : List (Nat × Value)} {st : List Value} {S : xT} {g : xG} {cells slots : Nat}
theorem X_scr (hK : xK K E own cc Lw nL rf rc rs rl) {b n : Nat} {xs : Nat → Int32} {j : Int} (hX : va_X b n xs K.2.2.2.2.1 K.2.2.2.2.1.heap) (hbl : b < K.2.2.2.2.1.heap.size) (hbA : ¬ E.2.2.1 ≤ b) (hn : n ≤ 3072) (q1 : 0 ≤ j) (q2 : j < n) (hd : decode cc pc = .ok (.iaload, 1)) (kk : ∀ z : Int, xs j.toNat = iI z → -2147483648 ≤ z → z ≤ 2147483647 → X K E (pc + 1) lv (.int (iI z) :: st) S g cells slots) : X K E pc lv (.int (iI j) :: .ref b :: st) S g cells slots := by
  intro H locs ls h1 h2 h3 h4 h5 h6
  refine va_sld (A := fun q => E.2.2.1 ≤ q) hK.1 hK.2.1 hX hbl hbA h5 (iI_in q1 q2 (by omega)) hd ?_
  rw [iI_clamp q1 (by omega)]
  exact X_anyi kk H locs ls h1 h2 h3 h4 h5 h6
theorem X_scrK (hK : xK K E own cc Lw nL rf rc rs rl) {b n : Nat} {xs : Nat → Int32} {j z : Int} (hX : va_X b n xs K.2.2.2.2.1 K.2.2.2.2.1.heap) (hbl : b < K.2.2.2.2.1.heap.size) (hbA : ¬ E.2.2.1 ≤ b) (hn : n ≤ 3072) (q1 : 0 ≤ j) (q2 : j < n) (e : xs j.toNat = iI z) (hd : decode cc pc = .ok (.iaload, 1)) (kk : X K E (pc + 1) lv (.int (iI z) :: st) S g cells slots) : X K E pc lv (.int (iI j) :: .ref b :: st) S g cells slots := by
  intro H locs ls h1 h2 h3 h4 h5 h6
  refine va_sld (A := fun q => E.2.2.1 ≤ q) hK.1 hK.2.1 hX hbl hbA h5 (iI_in q1 q2 (by omega)) hd ?_
  rw [iI_clamp q1 (by omega), e]
  exact kk H locs ls h1 h2 h3 h4 h5 h6
theorem X_sclen (hK : xK K E own cc Lw nL rf rc rs rl) {b n : Nat} {xs : Nat → Int32} (hX : va_X b n xs K.2.2.2.2.1 K.2.2.2.2.1.heap) (hbl : b < K.2.2.2.2.1.heap.size) (hbA : ¬ E.2.2.1 ≤ b) (hd : decode cc pc = .ok (.arraylength, 1)) (kk : X K E (pc + 1) lv (.int (iI (n : Int)) :: st) S g cells slots) : X K E pc lv (.ref b :: st) S g cells slots := by
  intro H locs ls h1 h2 h3 h4 h5 h6
  refine va_slen (A := fun q => E.2.2.1 ≤ q) hK.1 hK.2.1 hX hbl hbA h5 hd ?_
  rw [← Int32.ofInt_eq_ofNat]
  exact kk H locs ls h1 h2 h3 h4 h5 h6
end XSR
def xLW : List (Nat × Nat) := [(5010, 0), (5010, 1), (5012, 0), (5004, 0), (5004, 1), (11000, 0), (5004, 2), (11100, 0), (5004, 3), (5004, 4), (11400, 0), (5004, 5), (5004, 6), (11500, 0), (5006, 0), (5000, 0), (5000, 1), (5006, 1), (5006, 2), (5006, 3), (5006, 4), (5006, 5), (5006, 6), (5006, 7), (5012, 1), (5012, 2), (5005, 0), (5005, 1), (5005, 2), (5005, 3), (5012, 3), (5012, 4), (5011, 0), (5011, 1), (5011, 2), (5011, 3), (5011, 4), (5011, 5), (5011, 6), (5011, 7), (5012, 5), (5008, 0), (5008, 1), (5008, 2), (5008, 3), (5008, 4), (5008, 5), (5008, 6), (5012, 6), (5012, 7), (5003, 0), (5003, 1), (5003, 2), (5003, 3), (5012, 8), (5009, 0), (5009, 1), (5009, 2), (5009, 3), (5009, 4), (5009, 5), (5012, 9), (5007, 0), (5007, 1), (5007, 2), (5007, 3), (5007, 4), (5007, 5), (5007, 6), (5007, 7), (5007, 8), (5007, 9), (5012, 10), (5012, 11), (5012, 12), (5012, 13), (5012, 14), (5012, 15), (5012, 16), (5012, 17), (5013, 1), (5013, 4), (5013, 5), (5013, 6), (5013, 7), (5013, 8), (14600, 0), (5013, 9), (5013, 10), (5013, 11), (5013, 12), (15000, 0), (5013, 13), (15100, 0), (5013, 14), (5013, 15), (5013, 29), (5013, 30), (5013, 31), (5013, 32), (5013, 33), (5013, 34), (5013, 35), (5013, 36), (5013, 37), (5013, 38), (5013, 45), (5013, 46), (5013, 47), (5013, 48), (5013, 49), (5013, 50), (5013, 51), (5013, 52), (5013, 53), (5013, 54), (5013, 55), (5013, 56), (5013, 57), (5013, 59), (5013, 60), (5013, 61), (5013, 62), (5013, 63), (5013, 64), (5013, 65), (5013, 66), (5013, 67), (5013, 68), (5013, 71), (5013, 72), (5013, 73), (5013, 74), (5013, 75), (5013, 76), (5013, 77), (5013, 80), (5013, 81), (5013, 82), (5013, 83), (5013, 84), (5013, 85), (5013, 86), (5013, 89), (5013, 90), (13500, 0), (10, 1), (13, 0), (14100, 0), (13, 2), (5001, 5), (5001, 0), (5001, 1), (5001, 2), (5001, 4), (5001, 3), (0, 0), (0, 1), (0, 2), (10103, 0), (14200, 0), (19301, 0), (14300, 0), (14400, 0), (13, 16), (1, 4), (10700, 0), (14700, 0), (13, 17), (10800, 0), (14800, 0), (11200, 0), (14900, 0), (13, 18), (15200, 0), (12900, 0), (13000, 0), (8, 2), (8, 3), (8, 4), (8, 5), (8, 6), (11, 1), (11, 2), (14000, 0), (13600, 0), (13700, 0), (13800, 0), (13900, 0), (12, 13), (11, 0), (300, 0), (300, 1), (300, 2), (10303, 0), (12, 7), (13, 19), (13, 25), (13, 27), (13, 40), (13, 41), (13, 43), (13, 44), (13, 20), (13, 21), (13, 28), (13, 23), (13, 22), (13, 24), (15300, 0), (13, 26), (15500, 0), (15600, 0), (15700, 0), (15800, 0), (13, 42), (15900, 0), (16000, 0), (16100, 0), (16200, 0), (15400, 0), (13, 39), (5002, 7), (5002, 8), (5002, 9), (5002, 10), (5002, 0), (5002, 1), (5002, 2), (5002, 3), (5002, 4), (5002, 5), (5002, 6), (12000, 0), (2, 7), (1, 5), (100, 0), (100, 1), (100, 2), (10203, 0), (16300, 0), (13, 47), (19401, 0), (14500, 0), (16400, 0), (16500, 0), (16600, 0), (16700, 0), (16800, 0), (16900, 0), (17000, 0), (13, 58), (12, 14), (13, 59), (6, 5), (6, 6), (6, 7), (200, 0), (200, 2), (10403, 0), (200, 1), (2, 8), (2, 9), (2, 10), (12, 12), (19501, 0), (17400, 0), (17500, 0), (19601, 0), (13, 3), (17100, 0), (17200, 0), (17300, 0), (12802, 0), (11700, 0), (11800, 0), (11900, 0), (5, 3), (17600, 0), (17700, 0), (17800, 0), (17900, 0), (18000, 0), (13, 69), (3, 2), (10500, 0), (10600, 0), (3, 3), (13, 70), (12, 15), (13, 71), (7, 0), (12100, 0), (12200, 0), (12600, 0), (7, 9), (12500, 0), (12300, 0), (12, 10), (12, 11), (12400, 0), (12701, 0), (18600, 0), (18700, 0), (18100, 0), (18200, 0), (19701, 0), (18300, 0), (18500, 0), (13, 78), (13, 79), (18400, 0), (9, 4), (13100, 0), (13200, 0), (9, 3), (13400, 0), (9, 5), (13300, 0), (19100, 0), (19200, 0), (19000, 0), (13, 87), (13, 88), (18800, 0), (18900, 0), (12, 16), (12, 17), (13, 89), (13, 90)]
set_option maxHeartbeats 16000000 in
set_option maxRecDepth 100000 in
theorem law_X {K : xCx} {E : xEn} {b L : Nat} {xs : Nat → Int32} {S : xT} {g : xG} (hst : K.2.1.stackTraces = false) (hK : xK K E RL cL_law xLW 7 2048 601024 7293034 84000) (hts : ∀ w ∈ lw_tbl, w.before K.2.2.2.2.2.2.1 K.2.2.2.2.1 = true) (hT : tsr (fun q => E.2.2.1 ≤ q) K.2.2.2.2.1 K.2.2.2.2.1.heap) (hp3 : xP3 K.2.2.2.2.1) (hret : ∀ (pc : Nat) (lv : List (Nat × Value)) (S1 : xT) (g1 : xG) (cells slots : Nat), decode cL_law pc = .ok (.ireturn, 1) → cells ≤ 601024 → slots ≤ 7293034 → X K E pc lv [.int (iI 1)] S1 g1 cells slots) (hL : L ≤ 3072) (hX : va_X b L xs K.2.2.2.2.1 K.2.2.2.2.1.heap) (hbl : b < K.2.2.2.2.1.heap.size) (hbA : ¬ E.2.2.1 ≤ b) (hem : S (E.2.2.2.2.2.2.2 0) = some (20003, 0)) (hab : xAb S) (hsi : xSi S E.2.2.2.2.2.2.2) : X K E 0 [(0, .ref b)] [] S g 0 0 := by
  refine X_new hK nw_L_8 (by omega) (by omega) dL_law_0 (fun b1 S2 g3 zb1 nb1 hSb1 hg3 qb1 hs_b1 => ?_)
  have A4 : xLs S2 g3 := xLs_al (xAb.ls hab) (hg3 ▸ xM_new (L := []) xM.rf nb1) rfl qb1 (xNw2.one hSb1) (by decide)
  refine X_dup hK dL_law_3 rfl ?_
  refine X_callIU hK [] [.ref b1] li_L_19 (c_X11_init _ _ _ _ _ S2 g3 b1 hs_b1 (xSi.nw hsi (xNw2.one hSb1) (by decide)) (fun a9 t9 n9 h9 => ((xNw2.tr xNw2.rf (hSb1 ▸ xNw2.set (by decide)) (fun _ h => h)) a9 t9 n9 h9).elim (hab a9 t9 n9) (fun q9 => (show ∀ t8 ∈ [5012], t8 ≠ 0 ∧ t8 ≠ 100 ∧ t8 ≠ 200 ∧ t8 ≠ 300 by decide) t9 q9)) (qb1 _ _ hem)) dL_law_4 rfl rfl (by simp [Value.category]) (by decide) (by omega) (by omega) (by decide) (fun r5 S7 g6 dcr5 dsr5 pr5 qr5 hg6 => ?_)
  obtain ⟨wr5, rfl, k8, k9, k10, k11, k12, k13, k14, k15, k16, k17⟩ := pr5
  refine X_st [.ref b1] rfl ?_
  obtain ⟨b18, eb18, hs_b18, yb18⟩ := k14
  obtain ⟨b19, b20, b21, b22, eb19, hs_b19, zb19, eb20, hs_b20, zb20, eb21, hs_b21, zb21, eb22, hs_b22, zb22⟩ := yb18
  refine X_seal (ci := 12) zb1 (qr5 _ _ hs_b1) (by decide) k17 (fun a9 t9 n9 k9 _ _ _ c9 h9 => Or.inr (h9 ▸ xsl_raw t9 k9 (by omega))) (fun k9 => xsl_raw _ k9 (by omega)) (fun S23 hSy24 hs_y24 hoy24 => ?_)
  have hk25 := (xhs_seal hoy24 (qr5 _ _ hs_b1) (qr5 _ _ (qb1 _ _ hem)) (by decide))
  have hk26 := (xhs_seal hoy24 (qr5 _ _ hs_b1) hs_b18 (by decide))
  have hk27 := (xhs_seal hoy24 (qr5 _ _ hs_b1) hs_b19 (by decide))
  have hk28 := (xhs_seal hoy24 (qr5 _ _ hs_b1) hs_b20 (by decide))
  have hk29 := (xhs_seal hoy24 (qr5 _ _ hs_b1) hs_b21 (by decide))
  have hk30 := (xhs_seal hoy24 (qr5 _ _ hs_b1) hs_b22 (by decide))
  have pi31 : xPi S23 g6 b1 := xPi_of k11 (qr5 _ _ hs_b1) hSy24
  obtain ⟨b32, eb32, hs_b32, fb32⟩ := k16
  obtain ⟨b33, b34, b35, eb33, hs_b33, fb33, eb34, hs_b34, eb35, hs_b35, fb35, fb34⟩ := k15
  refine X_astoren hK (i := 1) [(1, .ref b1), (0, .ref b)] dL_law_7 rfl (by decide) rfl ?_
  refine X_new hK nw_L_20 (by omega) (by omega) dL_law_8 (fun b36 S37 g38 zb36 nb36 hSb36 hg38 qb36 hs_b36 => ?_)
  have A39 : xLs S37 g38 := xLs_al (xLs_seal k8 (qr5 _ _ hs_b1) hSy24 (by decide) (by decide)) (hg38 ▸ xM_new (L := []) xM.rf nb36) rfl qb36 (xNw2.one hSb36) (by decide)
  have hk40 := (qb36 _ _ (xhs_seal hoy24 (qr5 _ _ hs_b1) hs_b32 (by decide)))
  have hk41 := (qb36 _ _ (xhs_seal hoy24 (qr5 _ _ hs_b1) hs_b33 (by decide)))
  have hk42 := (qb36 _ _ (xhs_seal hoy24 (qr5 _ _ hs_b1) hs_b34 (by decide)))
  have hk43 := (qb36 _ _ (xhs_seal hoy24 (qr5 _ _ hs_b1) hs_b35 (by decide)))
  refine X_dup hK dL_law_11 rfl ?_
  refine X_callIU hK [] [.ref b36] li_L_22 (c_X12_init _ _ _ _ _ S37 g38 b36 hs_b36 (by rw [hg38, xrow_s]; rfl) (by rw [hg38, xrow_s]; rfl) (by rw [hg38, xrow_s]; rfl) (by rw [hg38, xrow_s]; rfl) (by rw [hg38, xrow_s]; rfl) (by rw [hg38, xrow_s]; rfl) (by rw [hg38, xrow_s]; rfl) (by rw [hg38, xrow_s]; rfl) (by rw [hg38, xrow_s]; rfl) (by rw [hg38, xrow_s]; rfl) (by rw [hg38, xrow_s]; rfl) (by rw [hg38, xrow_s]; rfl) (by rw [hg38, xrow_s]; rfl) (by rw [hg38, xrow_s]; rfl) (by rw [hg38, xrow_s]; rfl) (by rw [hg38, xrow_s]; rfl) (by rw [hg38, xrow_s]; rfl) (by rw [hg38, xrow_s]; rfl) (by rw [hg38, xrow_s]; rfl) (by rw [hg38, xrow_s]; rfl) (by rw [hg38, xrow_s]; rfl) (by rw [hg38, xrow_s]; rfl) (by rw [hg38, xrow_s]; rfl) (by rw [hg38, xrow_s]; rfl) (by rw [hg38, xrow_s]; rfl) (by rw [hg38, xrow_s]; rfl) (by rw [hg38, xrow_s]; rfl) (by rw [hg38, xrow_s]; rfl) (by rw [hg38, xrow_s]; rfl)) dL_law_12 rfl rfl (by simp [Value.category]) (by decide) (by omega) (by omega) (by decide) (fun r44 S46 g45 dcr44 dsr44 pr44 qr44 hg45 => ?_)
  obtain ⟨wr44, rfl, k47, k48, k49, k50, k51, k52, k53, k54, k55, k56⟩ := pr44
  have A57 : xLs S46 g45 := xLs_al A39 hg45 (by decide) qr44 wr44 (by decide)
  refine X_st [.ref b36] rfl ?_
  obtain ⟨b58, b59, b60, eb58, hs_b58, zb58, eb59, hs_b59, zb59, eb60, hs_b60, zb60⟩ := k54
  refine X_seal (ci := 13) zb36 (qr44 _ _ hs_b36) (by decide) k56 (fun a9 t9 n9 k9 _ _ _ c9 h9 => Or.inr (h9 ▸ xsl_raw t9 k9 (by omega))) (fun k9 => xsl_raw _ k9 (by omega)) (fun S61 hSy62 hs_y62 hoy62 => ?_)
  have hk63 := (xhs_seal hoy62 (qr44 _ _ hs_b36) (qr44 _ _ (qb36 _ _ hk25)) (by decide))
  have hk64 := (xhs_seal hoy62 (qr44 _ _ hs_b36) (qr44 _ _ (qb36 _ _ hs_y24)) (by decide))
  have hk65 := (xhs_seal hoy62 (qr44 _ _ hs_b36) (qr44 _ _ (qb36 _ _ hk26)) (by decide))
  have hk66 := (xhs_seal hoy62 (qr44 _ _ hs_b36) (qr44 _ _ (qb36 _ _ hk27)) (by decide))
  have hk67 := (xhs_seal hoy62 (qr44 _ _ hs_b36) (qr44 _ _ (qb36 _ _ hk28)) (by decide))
  have hk68 := (xhs_seal hoy62 (qr44 _ _ hs_b36) (qr44 _ _ (qb36 _ _ hk29)) (by decide))
  have hk69 := (xhs_seal hoy62 (qr44 _ _ hs_b36) (qr44 _ _ (qb36 _ _ hk30)) (by decide))
  have hk70 := (xhs_seal hoy62 (qr44 _ _ hs_b36) (qr44 _ _ hk40) (by decide))
  have hk71 := (xhs_seal hoy62 (qr44 _ _ hs_b36) (qr44 _ _ hk41) (by decide))
  have hk72 := (xhs_seal hoy62 (qr44 _ _ hs_b36) (qr44 _ _ hk42) (by decide))
  have hk73 := (xhs_seal hoy62 (qr44 _ _ hs_b36) (qr44 _ _ hk43) (by decide))
  have hk74 := (xhs_seal hoy62 (qr44 _ _ hs_b36) hs_b58 (by decide))
  have hk75 := (xhs_seal hoy62 (qr44 _ _ hs_b36) hs_b59 (by decide))
  have hk76 := (xhs_seal hoy62 (qr44 _ _ hs_b36) hs_b60 (by decide))
  have pi77 : xPi S61 g45 b1 := xPi_seal (xPi_m (xPi_m pi31 (hg38 ▸ xM_new (L := []) xM.rf nb36) qb36 (by decide)) hg45 qr44 (by decide)) (qr44 _ _ hs_b36) hSy62 (by decide)
  have mm78 := xMj.mp k55 (qr44 _ _ hs_b36) hSy62
  have tmm78 := k55.1
  refine X_knowr 13500 420 hk70 (by decide) sl_10_0 (fun b79 eb79 hs_b79 => ?_)
  refine X_knowr 14100 420 hs_y62 (by decide) sl_13_1 (fun b80 eb80 hs_b80 => ?_)
  refine X_knowr 14700 400 hs_y62 (by decide) sl_13_10 (fun b81 eb81 hs_b81 => ?_)
  refine X_astoren hK (i := 2) [(2, .ref b36), (1, .ref b1), (0, .ref b)] dL_law_15 rfl (by decide) rfl ?_
  refine X_iconst hK dL_law_16 ?_
  refine X_newa hK (ty := .long) 12802 2 (.long 0) rfl (fun _ => rfl) rfl (by decide) m_1_6 (by omega) ⟨by show _ * 8 ≤ _; omega, by omega⟩ (by omega) (by omega) (fun _ _ h9 => h9) (fun S9 k9 => by rw [sl_12802]; exact ⟨0, rfl⟩) dL_law_17 (fun b82 S83 g84 zb82 nb82 hSb82 hg84 qb82 hs_b82 => ?_)
  have A85 : xLs S83 g84 := xLs_al (xLs_seal A57 (qr44 _ _ hs_b36) hSy62 (by decide) (by decide)) (hg84 ▸ xM_new (L := []) xM.rf nb82) rfl qb82 (xNw2.one hSb82) (by decide)
  refine X_astoren hK (i := 3) [(3, .ref b82), (2, .ref b36), (1, .ref b1), (0, .ref b)] dL_law_19 rfl (by decide) rfl ?_
  refine X_iconst hK dL_law_20 ?_
  refine X_istore hK (i := 4) [(4, .int (iI 0)), (3, .ref b82), (2, .ref b36), (1, .ref b1), (0, .ref b)] dL_law_21 (by decide) rfl ?_
  have P9 : ∀ (n9 : Nat) (S86 : xT) (qS86 : xLe S83 S86) (g87 : xG) (i9 k9 t9 c9 b9 sh9 sp9 sm9 : Int) (hi9 : 0 ≤ i9 ∧ i9 ≤ 3072) (hk9 : 0 ≤ k9 ∧ k9 ≤ 420) (ht9 : 0 ≤ t9 ∧ t9 ≤ 400) (hc9 : 0 ≤ c9 ∧ c9 ≤ 60) (hb9 : 0 ≤ b9 ∧ b9 ≤ 40) (hsh9 : -2147483648 ≤ sh9 ∧ sh9 ≤ 2147483647) (hsp9 : -2147483648 ≤ sp9 ∧ sp9 ≤ 2147483647) (hsm9 : 0 ≤ sm9 ∧ sm9 ≤ 400) (al9 : xLs S86 g87) (si9 : xSi S86 E.2.2.2.2.2.2.2) (pi9 : xPi S86 g87 b1) (mp9 : xMp S86 g87 b36) (tw9 : xTw S86 g87 b36) (el09 : g87 b1 0 = .ref b32) (el19 : g87 b1 3 = .ref b33) (el29 : g87 b1 1 = .ref b34) (el39 : g87 b34 1 = .ref b35) (el49 : g87 b1 2 = .ref b18) (el59 : g87 b18 0 = .ref b19) (el69 : g87 b18 2 = .ref b20) (el79 : g87 b18 3 = .ref b21) (el89 : g87 b18 4 = .ref b22) (el99 : g87 b32 0 = .ref b79) (el109 : g87 b36 1 = .ref b80) (el119 : g87 b36 10 = .ref b81) (el129 : g87 b36 13 = .ref b58) (el139 : g87 b36 14 = .ref b59) (el149 : g87 b36 12 = .ref b60) (exk9 : g87 b32 1 = .int (iI k9)) (emk9 : g87 b36 2 = .int (iI k9)) (ext9 : g87 b1 12 = .int (iI t9)) (emt9 : g87 b36 3 = .int (iI t9)) (exc9 : g87 b33 3 = .int (iI c9)) (emc9 : g87 b36 69 = .int (iI c9)) (exb9 : g87 b35 2 = .int (iI b9)) (emb9 : g87 b36 16 = .int (iI b9)) (exsh9 : g87 b1 16 = .int (iI sh9)) (emsh9 : g87 b36 89 = .int (iI sh9)) (exsp9 : g87 b1 17 = .int (iI sp9)) (emsp9 : g87 b36 90 = .int (iI sp9)) (emsm9 : g87 b36 17 = .int (iI sm9)) (wn9 : xWn S86 g87 b22 b60) (wt9 : xTc (xv g87 b20) (xv g87 b58) 4) (ld9 : xTc (xv g87 b21) (xv g87 b59) 6) (sk9 : xSm (xv g87 b19) (xv g87 b81) sm9) (tc9 : xTc (xv g87 b79) (xv g87 b80) k9) (dc9 ds9 : Nat) (hdc9 : (dc9 : Int) ≤ 200 + 4 * i9) (hds9 : (ds9 : Int) ≤ 20000 + 1000 * i9) (hm9 : 4000 - i9 < (n9 : Int)), X K E 23 [(4, .int (iI i9)), (3, .ref b82), (2, .ref b36), (1, .ref b1), (0, .ref b)] [] S86 g87 dc9 ds9 := by
    intro n9
    induction n9 with
    | zero => intro S86 qS86 g87 i9 k9 t9 c9 b9 sh9 sp9 sm9 hi9 hk9 ht9 hc9 hb9 hsh9 hsp9 hsm9 al9 si9 pi9 mp9 tw9 el09 el19 el29 el39 el49 el59 el69 el79 el89 el99 el109 el119 el129 el139 el149 exk9 emk9 ext9 emt9 exc9 emc9 exb9 emb9 exsh9 emsh9 exsp9 emsp9 emsm9 wn9 wt9 ld9 sk9 tc9 dc9 ds9 hdc9 hds9 hm9; exact False.elim (by omega)
    | succ n9 ih9 =>
      intro S86 qS86 g87 i9 k9 t9 c9 b9 sh9 sp9 sm9 hi9 hk9 ht9 hc9 hb9 hsh9 hsp9 hsm9 al9 si9 pi9 mp9 tw9 el09 el19 el29 el39 el49 el59 el69 el79 el89 el99 el109 el119 el129 el139 el149 exk9 emk9 ext9 emt9 exc9 emc9 exb9 emb9 exsh9 emsh9 exsp9 emsp9 emsm9 wn9 wt9 ld9 sk9 tc9 dc9 ds9 hdc9 hds9 hm9
      refine X_iload hK (i := 4) 0 dL_law_23 rfl ?_
      refine X_aloadn hK (i := 0) 4 dL_law_25 rfl rfl ?_
      refine X_sclen hK hX hbl hbA dL_law_26 ?_
      refine X_bipush hK dL_law_27 (by decide) ?_
      refine X_isub hK dL_law_29 ?_
      refine X_icmp_gt hK 1471 (by omega) (by omega) dL_law_30 (by decide) (fun c88 => ?_) (fun c88 => ?_)
      · refine X_iconst hK dL_law_1471 ?_
        exact hret _ _ _ _ _ _ dL_law_1472 (by omega) (by omega)
      · refine X_aloadn hK (i := 0) 4 dL_law_33 rfl rfl ?_
        refine X_iload hK (i := 4) 0 dL_law_34 rfl ?_
        refine X_scr hK hX hbl hbA hL (by omega) (by omega) dL_law_36 (fun z89 ez89 lz89 uz89 => ?_)
        refine X_bipush hK dL_law_37 (by decide) ?_
        refine X_iand hK dL_law_39 (fun z90 ez90 lz90 uz90 => ?_)
        have bz90 := xandB ez90 ⟨lz90, uz90⟩ (by omega)
        rcases (show (z90 < 0 ∨ 34 < z90) ∨ z90 = 0 ∨ z90 = 1 ∨ z90 = 2 ∨ z90 = 3 ∨ z90 = 4 ∨ z90 = 5 ∨ z90 = 6 ∨ z90 = 7 ∨ z90 = 8 ∨ z90 = 9 ∨ z90 = 10 ∨ z90 = 11 ∨ z90 = 12 ∨ z90 = 13 ∨ z90 = 14 ∨ z90 = 15 ∨ z90 = 16 ∨ z90 = 17 ∨ z90 = 18 ∨ z90 = 19 ∨ z90 = 20 ∨ z90 = 21 ∨ z90 = 22 ∨ z90 = 23 ∨ z90 = 24 ∨ z90 = 25 ∨ z90 = 26 ∨ z90 = 27 ∨ z90 = 28 ∨ z90 = 29 ∨ z90 = 30 ∨ z90 = 31 ∨ z90 = 32 ∨ z90 = 33 ∨ z90 = 34 by omega) with c91 | c91 | c91 | c91 | c91 | c91 | c91 | c91 | c91 | c91 | c91 | c91 | c91 | c91 | c91 | c91 | c91 | c91 | c91 | c91 | c91 | c91 | c91 | c91 | c91 | c91 | c91 | c91 | c91 | c91 | c91 | c91 | c91 | c91 | c91 | c91
        · refine X_tableOut hK 1465 (by omega) c91 dL_law_40 (by decide) ?_
          refine X_iinc hK (i := 4) (z := i9) (n := 6) 0 [(4, .int (iI (i9 + 6))), (3, .ref b82), (2, .ref b36), (1, .ref b1), (0, .ref b)] dL_law_1465 rfl (by decide) rfl ?_
          refine X_goto hK 23 dL_law_1468 (by decide) ?_
          exact ih9 S86 qS86 g87 (i9 + 6) k9 t9 c9 b9 sh9 sp9 sm9 (by omega) (by omega) (by omega) (by omega) (by omega) (by omega) (by omega) (by omega) al9 si9 pi9 mp9 tw9 el09 el19 el29 el39 el49 el59 el69 el79 el89 el99 el109 el119 el129 el139 el149 exk9 emk9 ext9 emt9 exc9 emc9 exb9 emb9 exsh9 emsh9 exsp9 emsp9 emsm9 wn9 (by exact wt9) (by exact ld9) (by exact sk9) (by exact xTc.mono tc9 (by omega)) dc9 ds9 (by omega) (by omega) (by omega)
        · refine X_tableIn hK 196 0 (by decide) c91 (by decide) (by decide) dL_law_40 rfl (by decide) ?_
          refine X_aloadn hK (i := 1) 3 dL_law_196 rfl rfl ?_
          refine X_aloadn hK (i := 0) 4 dL_law_197 rfl rfl ?_
          refine X_iload hK (i := 4) 0 dL_law_198 rfl ?_
          refine X_iconst hK dL_law_200 ?_
          refine X_iadd hK dL_law_201 ?_
          refine X_scr hK hX hbl hbA hL (by omega) (by omega) dL_law_202 (fun z92 ez92 lz92 uz92 => ?_)
          refine X_aloadn hK (i := 0) 4 dL_law_203 rfl rfl ?_
          refine X_iload hK (i := 4) 0 dL_law_204 rfl ?_
          refine X_iconst hK dL_law_206 ?_
          refine X_iadd hK dL_law_207 ?_
          refine X_scr hK hX hbl hbA hL (by omega) (by omega) dL_law_208 (fun z93 ez93 lz93 uz93 => ?_)
          refine X_aloadn hK (i := 0) 4 dL_law_209 rfl rfl ?_
          refine X_iload hK (i := 4) 0 dL_law_210 rfl ?_
          refine X_iconst hK dL_law_212 ?_
          refine X_iadd hK dL_law_213 ?_
          refine X_scr hK hX hbl hbA hL (by omega) (by omega) dL_law_214 (fun z94 ez94 lz94 uz94 => ?_)
          refine X_aloadn hK (i := 0) 4 dL_law_215 rfl rfl ?_
          refine X_iload hK (i := 4) 0 dL_law_216 rfl ?_
          refine X_iconst hK dL_law_218 ?_
          refine X_iadd hK dL_law_219 ?_
          refine X_scr hK hX hbl hbA hL (by omega) (by omega) dL_law_220 (fun z95 ez95 lz95 uz95 => ?_)
          refine X_aloadn hK (i := 0) 4 dL_law_221 rfl rfl ?_
          refine X_iload hK (i := 4) 0 dL_law_222 rfl ?_
          refine X_iconst hK dL_law_224 ?_
          refine X_iadd hK dL_law_225 ?_
          refine X_scr hK hX hbl hbA hL (by omega) (by omega) dL_law_226 (fun z96 ez96 lz96 uz96 => ?_)
          refine X_callV hK [.int (iI z92), .int (iI z93), .int (iI z94), .int (iI z95), .int (iI z96)] [] lk_L_23 (c_X11_feed _ _ _ _ _ S86 g87 b1 z92 z93 z94 z95 z96 b32 k9 b79 (qS86 _ _ (qb82 _ _ hk64)) (by omega) (by omega) (by omega) (by omega) (by omega) el09 (qS86 _ _ (qb82 _ _ hk70)) (by omega) exk9 el99 (qS86 _ _ (qb82 _ _ hs_b79))) (qS86 _ _ (qb82 _ _ hk64)) ⟨by decide, rfl⟩ dL_law_227 rfl rfl (by simp [Value.category]) (by decide) (by omega) (by omega) (by decide) (fun r97 S99 g98 pr97 qr97 hg98 => ?_)
          obtain ⟨rfl, z100, rfl, lz100, uz100, k101, k102, k103⟩ := pr97
          refine X_st [.int (iI z100)] rfl ?_
          refine X_pop hK dL_law_230 rfl ?_
          refine X_aloadn hK (i := 2) 2 dL_law_231 rfl rfl ?_
          refine X_aloadn hK (i := 0) 4 dL_law_232 rfl rfl ?_
          refine X_iload hK (i := 4) 0 dL_law_233 rfl ?_
          refine X_iconst hK dL_law_235 ?_
          refine X_iadd hK dL_law_236 ?_
          refine X_scrK hK hX hbl hbA hL (by omega) (by omega) ez92 dL_law_237 ?_
          refine X_aloadn hK (i := 0) 4 dL_law_238 rfl rfl ?_
          refine X_iload hK (i := 4) 0 dL_law_239 rfl ?_
          refine X_iconst hK dL_law_241 ?_
          refine X_iadd hK dL_law_242 ?_
          refine X_scrK hK hX hbl hbA hL (by omega) (by omega) ez93 dL_law_243 ?_
          refine X_aloadn hK (i := 0) 4 dL_law_244 rfl rfl ?_
          refine X_iload hK (i := 4) 0 dL_law_245 rfl ?_
          refine X_iconst hK dL_law_247 ?_
          refine X_iadd hK dL_law_248 ?_
          refine X_scrK hK hX hbl hbA hL (by omega) (by omega) ez94 dL_law_249 ?_
          refine X_aloadn hK (i := 0) 4 dL_law_250 rfl rfl ?_
          refine X_iload hK (i := 4) 0 dL_law_251 rfl ?_
          refine X_iconst hK dL_law_253 ?_
          refine X_iadd hK dL_law_254 ?_
          refine X_scrK hK hX hbl hbA hL (by omega) (by omega) ez95 dL_law_255 ?_
          refine X_aloadn hK (i := 0) 4 dL_law_256 rfl rfl ?_
          refine X_iload hK (i := 4) 0 dL_law_257 rfl ?_
          refine X_iconst hK dL_law_259 ?_
          refine X_iadd hK dL_law_260 ?_
          refine X_scrK hK hX hbl hbA hL (by omega) (by omega) ez96 dL_law_261 ?_
          refine X_callV hK [.int (iI z92), .int (iI z93), .int (iI z94), .int (iI z95), .int (iI z96)] [] lk_L_27 (c_X12_feed _ _ _ _ _ S86 g98 b36 z92 z93 z94 z95 z96 k9 b80 (qS86 _ _ (qb82 _ _ hs_y62)) (by omega) (by omega) (by omega) (by omega) (by omega) (by omega) ((hg98 b36 13 0 2 (qS86 _ _ (qb82 _ _ hs_y62)) (by decide)).trans emk9) ((hg98 b36 13 0 1 (qS86 _ _ (qb82 _ _ hs_y62)) (by decide)).trans el109) (qS86 _ _ (qb82 _ _ hs_b80))) (qS86 _ _ (qb82 _ _ hs_y62)) ⟨by decide, rfl⟩ dL_law_262 rfl rfl (by simp [Value.category]) (by decide) (by omega) (by omega) (by decide) (fun r104 S106 g105 pr104 qr104 hg105 => ?_)
          obtain ⟨rfl, z107, rfl, lz107, uz107, k108, k109, k110⟩ := pr104
          refine X_st [.int (iI z107)] rfl ?_
          refine X_pop hK dL_law_265 rfl ?_
          refine X_goto hK 1465 dL_law_266 (by decide) ?_
          refine X_iinc hK (i := 4) (z := i9) (n := 6) 0 [(4, .int (iI (i9 + 6))), (3, .ref b82), (2, .ref b36), (1, .ref b1), (0, .ref b)] dL_law_1465 rfl (by decide) rfl ?_
          refine X_goto hK 23 dL_law_1468 (by decide) ?_
          exact ih9 S86 qS86 g105 (i9 + 6) (if k9 ≤ 400 then k9 + 20 else k9) t9 c9 b9 sh9 sp9 sm9 (by omega) (by first | omega | (split <;> omega)) (by omega) (by omega) (by omega) (by omega) (by omega) (by omega) (xLs_mod (xLs_mod al9 hg98 (by decide)) hg105 (by decide)) si9 (xPi_m (xPi_m pi9 hg98 xLe.rf (by decide)) hg105 xLe.rf (by decide)) (xMp_m (xMp_m mp9 hg98 xLe.rf (by decide)) hg105 xLe.rf (by decide)) (xTw_m (xTw_m tw9 hg98 xLe.rf (by decide)) hg105 xLe.rf (by decide)) ((hg105 b1 12 0 0 (qS86 _ _ (qb82 _ _ hk64)) (by decide)).trans ((hg98 b1 12 0 0 (qS86 _ _ (qb82 _ _ hk64)) (by decide)).trans el09)) ((hg105 b1 12 0 3 (qS86 _ _ (qb82 _ _ hk64)) (by decide)).trans ((hg98 b1 12 0 3 (qS86 _ _ (qb82 _ _ hk64)) (by decide)).trans el19)) ((hg105 b1 12 0 1 (qS86 _ _ (qb82 _ _ hk64)) (by decide)).trans ((hg98 b1 12 0 1 (qS86 _ _ (qb82 _ _ hk64)) (by decide)).trans el29)) ((hg105 b34 6 0 1 (qS86 _ _ (qb82 _ _ hk72)) (by decide)).trans ((hg98 b34 6 0 1 (qS86 _ _ (qb82 _ _ hk72)) (by decide)).trans el39)) ((hg105 b1 12 0 2 (qS86 _ _ (qb82 _ _ hk64)) (by decide)).trans ((hg98 b1 12 0 2 (qS86 _ _ (qb82 _ _ hk64)) (by decide)).trans el49)) ((hg105 b18 4 0 0 (qS86 _ _ (qb82 _ _ hk65)) (by decide)).trans ((hg98 b18 4 0 0 (qS86 _ _ (qb82 _ _ hk65)) (by decide)).trans el59)) ((hg105 b18 4 0 2 (qS86 _ _ (qb82 _ _ hk65)) (by decide)).trans ((hg98 b18 4 0 2 (qS86 _ _ (qb82 _ _ hk65)) (by decide)).trans el69)) ((hg105 b18 4 0 3 (qS86 _ _ (qb82 _ _ hk65)) (by decide)).trans ((hg98 b18 4 0 3 (qS86 _ _ (qb82 _ _ hk65)) (by decide)).trans el79)) ((hg105 b18 4 0 4 (qS86 _ _ (qb82 _ _ hk65)) (by decide)).trans ((hg98 b18 4 0 4 (qS86 _ _ (qb82 _ _ hk65)) (by decide)).trans el89)) ((hg105 b32 10 0 0 (qS86 _ _ (qb82 _ _ hk70)) (by decide)).trans ((hg98 b32 10 0 0 (qS86 _ _ (qb82 _ _ hk70)) (by decide)).trans el99)) ((hg105 b36 13 0 1 (qS86 _ _ (qb82 _ _ hs_y62)) (by decide)).trans ((hg98 b36 13 0 1 (qS86 _ _ (qb82 _ _ hs_y62)) (by decide)).trans el109)) ((hg105 b36 13 0 10 (qS86 _ _ (qb82 _ _ hs_y62)) (by decide)).trans ((hg98 b36 13 0 10 (qS86 _ _ (qb82 _ _ hs_y62)) (by decide)).trans el119)) ((hg105 b36 13 0 13 (qS86 _ _ (qb82 _ _ hs_y62)) (by decide)).trans ((hg98 b36 13 0 13 (qS86 _ _ (qb82 _ _ hs_y62)) (by decide)).trans el129)) ((hg105 b36 13 0 14 (qS86 _ _ (qb82 _ _ hs_y62)) (by decide)).trans ((hg98 b36 13 0 14 (qS86 _ _ (qb82 _ _ hs_y62)) (by decide)).trans el139)) ((hg105 b36 13 0 12 (qS86 _ _ (qb82 _ _ hs_y62)) (by decide)).trans ((hg98 b36 13 0 12 (qS86 _ _ (qb82 _ _ hs_y62)) (by decide)).trans el149)) ((hg105 b32 10 0 1 (qS86 _ _ (qb82 _ _ hk70)) (by decide)).trans k101) k108 ((hg105 b1 12 0 12 (qS86 _ _ (qb82 _ _ hk64)) (by decide)).trans ((hg98 b1 12 0 12 (qS86 _ _ (qb82 _ _ hk64)) (by decide)).trans ext9)) ((hg105 b36 13 0 3 (qS86 _ _ (qb82 _ _ hs_y62)) (by decide)).trans ((hg98 b36 13 0 3 (qS86 _ _ (qb82 _ _ hs_y62)) (by decide)).trans emt9)) ((hg105 b33 5 0 3 (qS86 _ _ (qb82 _ _ hk71)) (by decide)).trans ((hg98 b33 5 0 3 (qS86 _ _ (qb82 _ _ hk71)) (by decide)).trans exc9)) ((hg105 b36 13 0 69 (qS86 _ _ (qb82 _ _ hs_y62)) (by decide)).trans ((hg98 b36 13 0 69 (qS86 _ _ (qb82 _ _ hs_y62)) (by decide)).trans emc9)) ((hg105 b35 0 0 2 (qS86 _ _ (qb82 _ _ hk73)) (by decide)).trans ((hg98 b35 0 0 2 (qS86 _ _ (qb82 _ _ hk73)) (by decide)).trans exb9)) ((hg105 b36 13 0 16 (qS86 _ _ (qb82 _ _ hs_y62)) (by decide)).trans ((hg98 b36 13 0 16 (qS86 _ _ (qb82 _ _ hs_y62)) (by decide)).trans emb9)) ((hg105 b1 12 0 16 (qS86 _ _ (qb82 _ _ hk64)) (by decide)).trans ((hg98 b1 12 0 16 (qS86 _ _ (qb82 _ _ hk64)) (by decide)).trans exsh9)) ((hg105 b36 13 0 89 (qS86 _ _ (qb82 _ _ hs_y62)) (by decide)).trans ((hg98 b36 13 0 89 (qS86 _ _ (qb82 _ _ hs_y62)) (by decide)).trans emsh9)) ((hg105 b1 12 0 17 (qS86 _ _ (qb82 _ _ hk64)) (by decide)).trans ((hg98 b1 12 0 17 (qS86 _ _ (qb82 _ _ hk64)) (by decide)).trans exsp9)) ((hg105 b36 13 0 90 (qS86 _ _ (qb82 _ _ hs_y62)) (by decide)).trans ((hg98 b36 13 0 90 (qS86 _ _ (qb82 _ _ hs_y62)) (by decide)).trans emsp9)) ((hg105 b36 13 0 17 (qS86 _ _ (qb82 _ _ hs_y62)) (by decide)).trans ((hg98 b36 13 0 17 (qS86 _ _ (qb82 _ _ hs_y62)) (by decide)).trans emsm9)) (xWn.m (xWn.m wn9 (qS86 _ _ (qb82 _ _ hk69)) (qS86 _ _ (qb82 _ _ hk76)) hg98 xLe.rf (by decide)) (qS86 _ _ (qb82 _ _ hk69)) (qS86 _ _ (qb82 _ _ hk76)) hg105 xLe.rf (by decide)) (by rw [(Eq.trans (xv_m hg105 (qS86 _ _ (qb82 _ _ hk67)) (by decide) (by decide)) (xv_m hg98 (qS86 _ _ (qb82 _ _ hk67)) (by decide) (by decide))), (Eq.trans (xv_m hg105 (qS86 _ _ (qb82 _ _ hk74)) (by decide) (by decide)) (xv_m hg98 (qS86 _ _ (qb82 _ _ hk74)) (by decide) (by decide)))]; exact wt9) (by rw [(Eq.trans (xv_m hg105 (qS86 _ _ (qb82 _ _ hk68)) (by decide) (by decide)) (xv_m hg98 (qS86 _ _ (qb82 _ _ hk68)) (by decide) (by decide))), (Eq.trans (xv_m hg105 (qS86 _ _ (qb82 _ _ hk75)) (by decide) (by decide)) (xv_m hg98 (qS86 _ _ (qb82 _ _ hk75)) (by decide) (by decide)))]; exact ld9) (by rw [(Eq.trans (xv_m hg105 (qS86 _ _ (qb82 _ _ hk66)) (by decide) (by decide)) (xv_m hg98 (qS86 _ _ (qb82 _ _ hk66)) (by decide) (by decide))), (Eq.trans (xv_m hg105 (qS86 _ _ (qb82 _ _ hs_b81)) (by decide) (by decide)) (xv_m hg98 (qS86 _ _ (qb82 _ _ hs_b81)) (by decide) (by decide)))]; exact sk9) (by rw [(xv_m hg105 (qS86 _ _ (qb82 _ _ hs_b79)) (by decide) (by decide))]; exact xTc.feed tc9 k103 (by rw [← (xv_m hg98 (qS86 _ _ (qb82 _ _ hs_b80)) (by decide) (by decide))]; exact k110)) dc9 ds9 (by omega) (by omega) (by omega)
        · refine X_tableIn hK 269 1 (by decide) c91 (by decide) (by decide) dL_law_40 rfl (by decide) ?_
          refine X_aloadn hK (i := 1) 3 dL_law_269 rfl rfl ?_
          refine X_aloadn hK (i := 0) 4 dL_law_270 rfl rfl ?_
          refine X_iload hK (i := 4) 0 dL_law_271 rfl ?_
          refine X_iconst hK dL_law_273 ?_
          refine X_iadd hK dL_law_274 ?_
          refine X_scr hK hX hbl hbA hL (by omega) (by omega) dL_law_275 (fun z111 ez111 lz111 uz111 => ?_)
          refine X_callV hK [.int (iI z111)] [] lk_L_28 (c_X11_end _ _ _ _ _ S86 g87 b1 z111 b32 k9 (qS86 _ _ (qb82 _ _ hk64)) (by omega) el09 (qS86 _ _ (qb82 _ _ hk70)) (by omega) exk9) (qS86 _ _ (qb82 _ _ hk64)) ⟨by decide, rfl⟩ dL_law_276 rfl rfl (by simp [Value.category]) (by decide) (by omega) (by omega) (by decide) (fun r112 S114 g113 pr112 qr112 hg113 => ?_)
          obtain ⟨rfl, z115, rfl, lz115, uz115, k116, k117⟩ := pr112
          refine X_st [.int (iI z115)] rfl ?_
          refine X_pop hK dL_law_279 rfl ?_
          refine X_aloadn hK (i := 2) 2 dL_law_280 rfl rfl ?_
          refine X_aloadn hK (i := 0) 4 dL_law_281 rfl rfl ?_
          refine X_iload hK (i := 4) 0 dL_law_282 rfl ?_
          refine X_iconst hK dL_law_284 ?_
          refine X_iadd hK dL_law_285 ?_
          refine X_scrK hK hX hbl hbA hL (by omega) (by omega) ez111 dL_law_286 ?_
          refine X_callV hK [.int (iI z111)] [] lk_L_32 (c_X12_end _ _ _ _ _ S86 g113 b36 z111 k9 (qS86 _ _ (qb82 _ _ hs_y62)) (by omega) (by omega) ((hg113 b36 13 0 2 (qS86 _ _ (qb82 _ _ hs_y62)) (by decide)).trans emk9)) (qS86 _ _ (qb82 _ _ hs_y62)) ⟨by decide, rfl⟩ dL_law_287 rfl rfl (by simp [Value.category]) (by decide) (by omega) (by omega) (by decide) (fun r118 S120 g119 pr118 qr118 hg119 => ?_)
          obtain ⟨rfl, z121, rfl, lz121, uz121, k122, k123⟩ := pr118
          refine X_st [.int (iI z121)] rfl ?_
          refine X_pop hK dL_law_290 rfl ?_
          refine X_goto hK 1465 dL_law_291 (by decide) ?_
          refine X_iinc hK (i := 4) (z := i9) (n := 6) 0 [(4, .int (iI (i9 + 6))), (3, .ref b82), (2, .ref b36), (1, .ref b1), (0, .ref b)] dL_law_1465 rfl (by decide) rfl ?_
          refine X_goto hK 23 dL_law_1468 (by decide) ?_
          exact ih9 S86 qS86 g119 (i9 + 6) (if 0 ≤ z111 ∧ z111 ≤ k9 then z111 else k9) t9 c9 b9 sh9 sp9 sm9 (by omega) (by first | omega | (split <;> omega)) (by omega) (by omega) (by omega) (by omega) (by omega) (by omega) (xLs_mod (xLs_mod al9 hg113 (by decide)) hg119 (by decide)) si9 (xPi_m (xPi_m pi9 hg113 xLe.rf (by decide)) hg119 xLe.rf (by decide)) (xMp_m (xMp_m mp9 hg113 xLe.rf (by decide)) hg119 xLe.rf (by decide)) (xTw_m (xTw_m tw9 hg113 xLe.rf (by decide)) hg119 xLe.rf (by decide)) ((hg119 b1 12 0 0 (qS86 _ _ (qb82 _ _ hk64)) (by decide)).trans ((hg113 b1 12 0 0 (qS86 _ _ (qb82 _ _ hk64)) (by decide)).trans el09)) ((hg119 b1 12 0 3 (qS86 _ _ (qb82 _ _ hk64)) (by decide)).trans ((hg113 b1 12 0 3 (qS86 _ _ (qb82 _ _ hk64)) (by decide)).trans el19)) ((hg119 b1 12 0 1 (qS86 _ _ (qb82 _ _ hk64)) (by decide)).trans ((hg113 b1 12 0 1 (qS86 _ _ (qb82 _ _ hk64)) (by decide)).trans el29)) ((hg119 b34 6 0 1 (qS86 _ _ (qb82 _ _ hk72)) (by decide)).trans ((hg113 b34 6 0 1 (qS86 _ _ (qb82 _ _ hk72)) (by decide)).trans el39)) ((hg119 b1 12 0 2 (qS86 _ _ (qb82 _ _ hk64)) (by decide)).trans ((hg113 b1 12 0 2 (qS86 _ _ (qb82 _ _ hk64)) (by decide)).trans el49)) ((hg119 b18 4 0 0 (qS86 _ _ (qb82 _ _ hk65)) (by decide)).trans ((hg113 b18 4 0 0 (qS86 _ _ (qb82 _ _ hk65)) (by decide)).trans el59)) ((hg119 b18 4 0 2 (qS86 _ _ (qb82 _ _ hk65)) (by decide)).trans ((hg113 b18 4 0 2 (qS86 _ _ (qb82 _ _ hk65)) (by decide)).trans el69)) ((hg119 b18 4 0 3 (qS86 _ _ (qb82 _ _ hk65)) (by decide)).trans ((hg113 b18 4 0 3 (qS86 _ _ (qb82 _ _ hk65)) (by decide)).trans el79)) ((hg119 b18 4 0 4 (qS86 _ _ (qb82 _ _ hk65)) (by decide)).trans ((hg113 b18 4 0 4 (qS86 _ _ (qb82 _ _ hk65)) (by decide)).trans el89)) ((hg119 b32 10 0 0 (qS86 _ _ (qb82 _ _ hk70)) (by decide)).trans ((hg113 b32 10 0 0 (qS86 _ _ (qb82 _ _ hk70)) (by decide)).trans el99)) ((hg119 b36 13 0 1 (qS86 _ _ (qb82 _ _ hs_y62)) (by decide)).trans ((hg113 b36 13 0 1 (qS86 _ _ (qb82 _ _ hs_y62)) (by decide)).trans el109)) ((hg119 b36 13 0 10 (qS86 _ _ (qb82 _ _ hs_y62)) (by decide)).trans ((hg113 b36 13 0 10 (qS86 _ _ (qb82 _ _ hs_y62)) (by decide)).trans el119)) ((hg119 b36 13 0 13 (qS86 _ _ (qb82 _ _ hs_y62)) (by decide)).trans ((hg113 b36 13 0 13 (qS86 _ _ (qb82 _ _ hs_y62)) (by decide)).trans el129)) ((hg119 b36 13 0 14 (qS86 _ _ (qb82 _ _ hs_y62)) (by decide)).trans ((hg113 b36 13 0 14 (qS86 _ _ (qb82 _ _ hs_y62)) (by decide)).trans el139)) ((hg119 b36 13 0 12 (qS86 _ _ (qb82 _ _ hs_y62)) (by decide)).trans ((hg113 b36 13 0 12 (qS86 _ _ (qb82 _ _ hs_y62)) (by decide)).trans el149)) ((hg119 b32 10 0 1 (qS86 _ _ (qb82 _ _ hk70)) (by decide)).trans k116) k122 ((hg119 b1 12 0 12 (qS86 _ _ (qb82 _ _ hk64)) (by decide)).trans ((hg113 b1 12 0 12 (qS86 _ _ (qb82 _ _ hk64)) (by decide)).trans ext9)) ((hg119 b36 13 0 3 (qS86 _ _ (qb82 _ _ hs_y62)) (by decide)).trans ((hg113 b36 13 0 3 (qS86 _ _ (qb82 _ _ hs_y62)) (by decide)).trans emt9)) ((hg119 b33 5 0 3 (qS86 _ _ (qb82 _ _ hk71)) (by decide)).trans ((hg113 b33 5 0 3 (qS86 _ _ (qb82 _ _ hk71)) (by decide)).trans exc9)) ((hg119 b36 13 0 69 (qS86 _ _ (qb82 _ _ hs_y62)) (by decide)).trans ((hg113 b36 13 0 69 (qS86 _ _ (qb82 _ _ hs_y62)) (by decide)).trans emc9)) ((hg119 b35 0 0 2 (qS86 _ _ (qb82 _ _ hk73)) (by decide)).trans ((hg113 b35 0 0 2 (qS86 _ _ (qb82 _ _ hk73)) (by decide)).trans exb9)) ((hg119 b36 13 0 16 (qS86 _ _ (qb82 _ _ hs_y62)) (by decide)).trans ((hg113 b36 13 0 16 (qS86 _ _ (qb82 _ _ hs_y62)) (by decide)).trans emb9)) ((hg119 b1 12 0 16 (qS86 _ _ (qb82 _ _ hk64)) (by decide)).trans ((hg113 b1 12 0 16 (qS86 _ _ (qb82 _ _ hk64)) (by decide)).trans exsh9)) ((hg119 b36 13 0 89 (qS86 _ _ (qb82 _ _ hs_y62)) (by decide)).trans ((hg113 b36 13 0 89 (qS86 _ _ (qb82 _ _ hs_y62)) (by decide)).trans emsh9)) ((hg119 b1 12 0 17 (qS86 _ _ (qb82 _ _ hk64)) (by decide)).trans ((hg113 b1 12 0 17 (qS86 _ _ (qb82 _ _ hk64)) (by decide)).trans exsp9)) ((hg119 b36 13 0 90 (qS86 _ _ (qb82 _ _ hs_y62)) (by decide)).trans ((hg113 b36 13 0 90 (qS86 _ _ (qb82 _ _ hs_y62)) (by decide)).trans emsp9)) ((hg119 b36 13 0 17 (qS86 _ _ (qb82 _ _ hs_y62)) (by decide)).trans ((hg113 b36 13 0 17 (qS86 _ _ (qb82 _ _ hs_y62)) (by decide)).trans emsm9)) (xWn.m (xWn.m wn9 (qS86 _ _ (qb82 _ _ hk69)) (qS86 _ _ (qb82 _ _ hk76)) hg113 xLe.rf (by decide)) (qS86 _ _ (qb82 _ _ hk69)) (qS86 _ _ (qb82 _ _ hk76)) hg119 xLe.rf (by decide)) (by rw [(Eq.trans (xv_m hg119 (qS86 _ _ (qb82 _ _ hk67)) (by decide) (by decide)) (xv_m hg113 (qS86 _ _ (qb82 _ _ hk67)) (by decide) (by decide))), (Eq.trans (xv_m hg119 (qS86 _ _ (qb82 _ _ hk74)) (by decide) (by decide)) (xv_m hg113 (qS86 _ _ (qb82 _ _ hk74)) (by decide) (by decide)))]; exact wt9) (by rw [(Eq.trans (xv_m hg119 (qS86 _ _ (qb82 _ _ hk68)) (by decide) (by decide)) (xv_m hg113 (qS86 _ _ (qb82 _ _ hk68)) (by decide) (by decide))), (Eq.trans (xv_m hg119 (qS86 _ _ (qb82 _ _ hk75)) (by decide) (by decide)) (xv_m hg113 (qS86 _ _ (qb82 _ _ hk75)) (by decide) (by decide)))]; exact ld9) (by rw [(Eq.trans (xv_m hg119 (qS86 _ _ (qb82 _ _ hk66)) (by decide) (by decide)) (xv_m hg113 (qS86 _ _ (qb82 _ _ hk66)) (by decide) (by decide))), (Eq.trans (xv_m hg119 (qS86 _ _ (qb82 _ _ hs_b81)) (by decide) (by decide)) (xv_m hg113 (qS86 _ _ (qb82 _ _ hs_b81)) (by decide) (by decide)))]; exact sk9) (by rw [(Eq.trans (xv_m hg119 (qS86 _ _ (qb82 _ _ hs_b79)) (by decide) (by decide)) (xv_m hg113 (qS86 _ _ (qb82 _ _ hs_b79)) (by decide) (by decide))), (Eq.trans (xv_m hg119 (qS86 _ _ (qb82 _ _ hs_b80)) (by decide) (by decide)) (xv_m hg113 (qS86 _ _ (qb82 _ _ hs_b80)) (by decide) (by decide)))]; exact xTc.mono tc9 (by omega)) dc9 ds9 (by omega) (by omega) (by omega)
        · refine X_tableIn hK 294 2 (by decide) c91 (by decide) (by decide) dL_law_40 rfl (by decide) ?_
          refine X_aloadn hK (i := 1) 3 dL_law_294 rfl rfl ?_
          refine X_aloadn hK (i := 0) 4 dL_law_295 rfl rfl ?_
          refine X_iload hK (i := 4) 0 dL_law_296 rfl ?_
          refine X_iconst hK dL_law_298 ?_
          refine X_iadd hK dL_law_299 ?_
          refine X_scr hK hX hbl hbA hL (by omega) (by omega) dL_law_300 (fun z124 ez124 lz124 uz124 => ?_)
          refine X_aloadn hK (i := 0) 4 dL_law_301 rfl rfl ?_
          refine X_iload hK (i := 4) 0 dL_law_302 rfl ?_
          refine X_iconst hK dL_law_304 ?_
          refine X_iadd hK dL_law_305 ?_
          refine X_scr hK hX hbl hbA hL (by omega) (by omega) dL_law_306 (fun z125 ez125 lz125 uz125 => ?_)
          refine X_if_eq hK 314 (by omega) dL_law_307 (by decide) (fun c126 => ?_) (fun c126 => ?_)
          · refine X_iconst hK dL_law_314 ?_
            refine X_aloadn hK (i := 0) 4 dL_law_315 rfl rfl ?_
            refine X_iload hK (i := 4) 0 dL_law_316 rfl ?_
            refine X_iconst hK dL_law_318 ?_
            refine X_iadd hK dL_law_319 ?_
            refine X_scr hK hX hbl hbA hL (by omega) (by omega) dL_law_320 (fun z127 ez127 lz127 uz127 => ?_)
            refine X_aloadn hK (i := 0) 4 dL_law_321 rfl rfl ?_
            refine X_iload hK (i := 4) 0 dL_law_322 rfl ?_
            refine X_iconst hK dL_law_324 ?_
            refine X_iadd hK dL_law_325 ?_
            refine X_scr hK hX hbl hbA hL (by omega) (by omega) dL_law_326 (fun z128 ez128 lz128 uz128 => ?_)
            refine X_callVU hK [.int (iI z124), .int (iI 0), .int (iI z127), .int (iI z128)] [] lk_L_33 (c_X11_boy _ _ _ _ _ S86 g87 b1 z124 0 z127 z128 b34 b35 b9 (qS86 _ _ (qb82 _ _ hk64)) (by omega) (by omega) (by omega) (by omega) el29 (qS86 _ _ (qb82 _ _ hk72)) el39 (qS86 _ _ (qb82 _ _ hk73)) (by omega) exb9 al9 si9) (qS86 _ _ (qb82 _ _ hk64)) ⟨by decide, rfl⟩ dL_law_327 rfl rfl (by simp [Value.category]) (by decide) (by omega) (by omega) (by decide) (fun r129 S131 g130 dcr129 dsr129 pr129 qr129 hg130 => ?_)
            obtain ⟨wr129, z132, rfl, lz132, uz132, k133, k134, k135, k136, k137⟩ := pr129
            refine X_st [.int (iI z132)] rfl ?_
            refine X_pop hK dL_law_330 rfl ?_
            refine X_aloadn hK (i := 2) 2 dL_law_331 rfl rfl ?_
            refine X_aloadn hK (i := 0) 4 dL_law_332 rfl rfl ?_
            refine X_iload hK (i := 4) 0 dL_law_333 rfl ?_
            refine X_iconst hK dL_law_335 ?_
            refine X_iadd hK dL_law_336 ?_
            refine X_scrK hK hX hbl hbA hL (by omega) (by omega) ez124 dL_law_337 ?_
            refine X_aloadn hK (i := 0) 4 dL_law_338 rfl rfl ?_
            refine X_iload hK (i := 4) 0 dL_law_339 rfl ?_
            refine X_iconst hK dL_law_341 ?_
            refine X_iadd hK dL_law_342 ?_
            refine X_scrK hK hX hbl hbA hL (by omega) (by omega) ez125 dL_law_343 ?_
            refine X_if_eq hK 351 (by omega) dL_law_344 (by decide) (fun c138 => ?_) (fun c138 => False.elim (by omega))
            refine X_iconst hK dL_law_351 ?_
            refine X_aloadn hK (i := 0) 4 dL_law_352 rfl rfl ?_
            refine X_iload hK (i := 4) 0 dL_law_353 rfl ?_
            refine X_iconst hK dL_law_355 ?_
            refine X_iadd hK dL_law_356 ?_
            refine X_scrK hK hX hbl hbA hL (by omega) (by omega) ez127 dL_law_357 ?_
            refine X_aloadn hK (i := 0) 4 dL_law_358 rfl rfl ?_
            refine X_iload hK (i := 4) 0 dL_law_359 rfl ?_
            refine X_iconst hK dL_law_361 ?_
            refine X_iadd hK dL_law_362 ?_
            refine X_scrK hK hX hbl hbA hL (by omega) (by omega) ez128 dL_law_363 ?_
            refine X_callV hK [.int (iI z124), .int (iI 0), .int (iI z127), .int (iI z128)] [] lk_L_37 (c_X12_boy _ _ _ _ _ S131 g130 b36 z124 0 z127 z128 b9 (qr129 _ _ (qS86 _ _ (qb82 _ _ hs_y62))) (by omega) (by omega) (by omega) (by omega) (by omega) ((hg130 b36 13 0 16 (qS86 _ _ (qb82 _ _ hs_y62)) (by decide)).trans emb9)) (qr129 _ _ (qS86 _ _ (qb82 _ _ hs_y62))) ⟨by decide, rfl⟩ dL_law_364 rfl rfl (by simp [Value.category]) (by decide) (by omega) (by omega) (by decide) (fun r139 S141 g140 pr139 qr139 hg140 => ?_)
            obtain ⟨rfl, z142, rfl, lz142, uz142, k143, k144⟩ := pr139
            refine X_st [.int (iI z142)] rfl ?_
            refine X_pop hK dL_law_367 rfl ?_
            refine X_goto hK 1465 dL_law_368 (by decide) ?_
            refine X_iinc hK (i := 4) (z := i9) (n := 6) 0 [(4, .int (iI (i9 + 6))), (3, .ref b82), (2, .ref b36), (1, .ref b1), (0, .ref b)] dL_law_1465 rfl (by decide) rfl ?_
            refine X_goto hK 23 dL_law_1468 (by decide) ?_
            exact ih9 S131 (xLe.tr qS86 qr129) g140 (i9 + 6) k9 t9 c9 (if b9 < 40 ∧ 6 ≤ z124 ∧ z124 ≤ 18 ∧ -1 ≤ z127 ∧ z127 ≤ 399 ∧ 0 ≤ z128 ∧ z128 ≤ 99 then b9 + 1 else b9) sh9 sp9 sm9 (by omega) (by omega) (by omega) (by omega) (by first | omega | (split <;> omega)) (by omega) (by omega) (by omega) (xLs_mod k133 hg140 (by decide)) k134 (xPi_m (xPi_m pi9 hg130 qr129 (by decide)) hg140 xLe.rf (by decide)) (xMp_m (xMp_m mp9 hg130 qr129 (by decide)) hg140 xLe.rf (by decide)) (xTw_m (xTw_m tw9 hg130 qr129 (by decide)) hg140 xLe.rf (by decide)) ((hg140 b1 12 0 0 (qr129 _ _ (qS86 _ _ (qb82 _ _ hk64))) (by decide)).trans ((hg130 b1 12 0 0 (qS86 _ _ (qb82 _ _ hk64)) (by decide)).trans el09)) ((hg140 b1 12 0 3 (qr129 _ _ (qS86 _ _ (qb82 _ _ hk64))) (by decide)).trans ((hg130 b1 12 0 3 (qS86 _ _ (qb82 _ _ hk64)) (by decide)).trans el19)) ((hg140 b1 12 0 1 (qr129 _ _ (qS86 _ _ (qb82 _ _ hk64))) (by decide)).trans ((hg130 b1 12 0 1 (qS86 _ _ (qb82 _ _ hk64)) (by decide)).trans el29)) ((hg140 b34 6 0 1 (qr129 _ _ (qS86 _ _ (qb82 _ _ hk72))) (by decide)).trans ((hg130 b34 6 0 1 (qS86 _ _ (qb82 _ _ hk72)) (by decide)).trans el39)) ((hg140 b1 12 0 2 (qr129 _ _ (qS86 _ _ (qb82 _ _ hk64))) (by decide)).trans ((hg130 b1 12 0 2 (qS86 _ _ (qb82 _ _ hk64)) (by decide)).trans el49)) ((hg140 b18 4 0 0 (qr129 _ _ (qS86 _ _ (qb82 _ _ hk65))) (by decide)).trans ((hg130 b18 4 0 0 (qS86 _ _ (qb82 _ _ hk65)) (by decide)).trans el59)) ((hg140 b18 4 0 2 (qr129 _ _ (qS86 _ _ (qb82 _ _ hk65))) (by decide)).trans ((hg130 b18 4 0 2 (qS86 _ _ (qb82 _ _ hk65)) (by decide)).trans el69)) ((hg140 b18 4 0 3 (qr129 _ _ (qS86 _ _ (qb82 _ _ hk65))) (by decide)).trans ((hg130 b18 4 0 3 (qS86 _ _ (qb82 _ _ hk65)) (by decide)).trans el79)) ((hg140 b18 4 0 4 (qr129 _ _ (qS86 _ _ (qb82 _ _ hk65))) (by decide)).trans ((hg130 b18 4 0 4 (qS86 _ _ (qb82 _ _ hk65)) (by decide)).trans el89)) ((hg140 b32 10 0 0 (qr129 _ _ (qS86 _ _ (qb82 _ _ hk70))) (by decide)).trans ((hg130 b32 10 0 0 (qS86 _ _ (qb82 _ _ hk70)) (by decide)).trans el99)) ((hg140 b36 13 0 1 (qr129 _ _ (qS86 _ _ (qb82 _ _ hs_y62))) (by decide)).trans ((hg130 b36 13 0 1 (qS86 _ _ (qb82 _ _ hs_y62)) (by decide)).trans el109)) ((hg140 b36 13 0 10 (qr129 _ _ (qS86 _ _ (qb82 _ _ hs_y62))) (by decide)).trans ((hg130 b36 13 0 10 (qS86 _ _ (qb82 _ _ hs_y62)) (by decide)).trans el119)) ((hg140 b36 13 0 13 (qr129 _ _ (qS86 _ _ (qb82 _ _ hs_y62))) (by decide)).trans ((hg130 b36 13 0 13 (qS86 _ _ (qb82 _ _ hs_y62)) (by decide)).trans el129)) ((hg140 b36 13 0 14 (qr129 _ _ (qS86 _ _ (qb82 _ _ hs_y62))) (by decide)).trans ((hg130 b36 13 0 14 (qS86 _ _ (qb82 _ _ hs_y62)) (by decide)).trans el139)) ((hg140 b36 13 0 12 (qr129 _ _ (qS86 _ _ (qb82 _ _ hs_y62))) (by decide)).trans ((hg130 b36 13 0 12 (qS86 _ _ (qb82 _ _ hs_y62)) (by decide)).trans el149)) ((hg140 b32 10 0 1 (qr129 _ _ (qS86 _ _ (qb82 _ _ hk70))) (by decide)).trans ((hg130 b32 10 0 1 (qS86 _ _ (qb82 _ _ hk70)) (by decide)).trans exk9)) ((hg140 b36 13 0 2 (qr129 _ _ (qS86 _ _ (qb82 _ _ hs_y62))) (by decide)).trans ((hg130 b36 13 0 2 (qS86 _ _ (qb82 _ _ hs_y62)) (by decide)).trans emk9)) ((hg140 b1 12 0 12 (qr129 _ _ (qS86 _ _ (qb82 _ _ hk64))) (by decide)).trans ((hg130 b1 12 0 12 (qS86 _ _ (qb82 _ _ hk64)) (by decide)).trans ext9)) ((hg140 b36 13 0 3 (qr129 _ _ (qS86 _ _ (qb82 _ _ hs_y62))) (by decide)).trans ((hg130 b36 13 0 3 (qS86 _ _ (qb82 _ _ hs_y62)) (by decide)).trans emt9)) ((hg140 b33 5 0 3 (qr129 _ _ (qS86 _ _ (qb82 _ _ hk71))) (by decide)).trans ((hg130 b33 5 0 3 (qS86 _ _ (qb82 _ _ hk71)) (by decide)).trans exc9)) ((hg140 b36 13 0 69 (qr129 _ _ (qS86 _ _ (qb82 _ _ hs_y62))) (by decide)).trans ((hg130 b36 13 0 69 (qS86 _ _ (qb82 _ _ hs_y62)) (by decide)).trans emc9)) ((hg140 b35 0 0 2 (qr129 _ _ (qS86 _ _ (qb82 _ _ hk73))) (by decide)).trans k137) k144 ((hg140 b1 12 0 16 (qr129 _ _ (qS86 _ _ (qb82 _ _ hk64))) (by decide)).trans ((hg130 b1 12 0 16 (qS86 _ _ (qb82 _ _ hk64)) (by decide)).trans exsh9)) ((hg140 b36 13 0 89 (qr129 _ _ (qS86 _ _ (qb82 _ _ hs_y62))) (by decide)).trans ((hg130 b36 13 0 89 (qS86 _ _ (qb82 _ _ hs_y62)) (by decide)).trans emsh9)) ((hg140 b1 12 0 17 (qr129 _ _ (qS86 _ _ (qb82 _ _ hk64))) (by decide)).trans ((hg130 b1 12 0 17 (qS86 _ _ (qb82 _ _ hk64)) (by decide)).trans exsp9)) ((hg140 b36 13 0 90 (qr129 _ _ (qS86 _ _ (qb82 _ _ hs_y62))) (by decide)).trans ((hg130 b36 13 0 90 (qS86 _ _ (qb82 _ _ hs_y62)) (by decide)).trans emsp9)) ((hg140 b36 13 0 17 (qr129 _ _ (qS86 _ _ (qb82 _ _ hs_y62))) (by decide)).trans ((hg130 b36 13 0 17 (qS86 _ _ (qb82 _ _ hs_y62)) (by decide)).trans emsm9)) (xWn.m (xWn.m wn9 (qS86 _ _ (qb82 _ _ hk69)) (qS86 _ _ (qb82 _ _ hk76)) hg130 qr129 (by decide)) (qr129 _ _ (qS86 _ _ (qb82 _ _ hk69))) (qr129 _ _ (qS86 _ _ (qb82 _ _ hk76))) hg140 xLe.rf (by decide)) (by rw [(Eq.trans (xv_m hg140 (qr129 _ _ (qS86 _ _ (qb82 _ _ hk67))) (by decide) (by decide)) (xv_m hg130 (qS86 _ _ (qb82 _ _ hk67)) (by decide) (by decide))), (Eq.trans (xv_m hg140 (qr129 _ _ (qS86 _ _ (qb82 _ _ hk74))) (by decide) (by decide)) (xv_m hg130 (qS86 _ _ (qb82 _ _ hk74)) (by decide) (by decide)))]; exact wt9) (by rw [(Eq.trans (xv_m hg140 (qr129 _ _ (qS86 _ _ (qb82 _ _ hk68))) (by decide) (by decide)) (xv_m hg130 (qS86 _ _ (qb82 _ _ hk68)) (by decide) (by decide))), (Eq.trans (xv_m hg140 (qr129 _ _ (qS86 _ _ (qb82 _ _ hk75))) (by decide) (by decide)) (xv_m hg130 (qS86 _ _ (qb82 _ _ hk75)) (by decide) (by decide)))]; exact ld9) (by rw [(Eq.trans (xv_m hg140 (qr129 _ _ (qS86 _ _ (qb82 _ _ hk66))) (by decide) (by decide)) (xv_m hg130 (qS86 _ _ (qb82 _ _ hk66)) (by decide) (by decide))), (Eq.trans (xv_m hg140 (qr129 _ _ (qS86 _ _ (qb82 _ _ hs_b81))) (by decide) (by decide)) (xv_m hg130 (qS86 _ _ (qb82 _ _ hs_b81)) (by decide) (by decide)))]; exact sk9) (by rw [(Eq.trans (xv_m hg140 (qr129 _ _ (qS86 _ _ (qb82 _ _ hs_b79))) (by decide) (by decide)) (xv_m hg130 (qS86 _ _ (qb82 _ _ hs_b79)) (by decide) (by decide))), (Eq.trans (xv_m hg140 (qr129 _ _ (qS86 _ _ (qb82 _ _ hs_b80))) (by decide) (by decide)) (xv_m hg130 (qS86 _ _ (qb82 _ _ hs_b80)) (by decide) (by decide)))]; exact xTc.mono tc9 (by omega)) (dc9 + dcr129) (ds9 + dsr129) (by omega) (by omega) (by omega)
          · refine X_iconst hK dL_law_310 ?_
            refine X_goto hK 315 dL_law_311 (by decide) ?_
            refine X_aloadn hK (i := 0) 4 dL_law_315 rfl rfl ?_
            refine X_iload hK (i := 4) 0 dL_law_316 rfl ?_
            refine X_iconst hK dL_law_318 ?_
            refine X_iadd hK dL_law_319 ?_
            refine X_scr hK hX hbl hbA hL (by omega) (by omega) dL_law_320 (fun z145 ez145 lz145 uz145 => ?_)
            refine X_aloadn hK (i := 0) 4 dL_law_321 rfl rfl ?_
            refine X_iload hK (i := 4) 0 dL_law_322 rfl ?_
            refine X_iconst hK dL_law_324 ?_
            refine X_iadd hK dL_law_325 ?_
            refine X_scr hK hX hbl hbA hL (by omega) (by omega) dL_law_326 (fun z146 ez146 lz146 uz146 => ?_)
            refine X_callVU hK [.int (iI z124), .int (iI 1), .int (iI z145), .int (iI z146)] [] lk_L_33 (c_X11_boy _ _ _ _ _ S86 g87 b1 z124 1 z145 z146 b34 b35 b9 (qS86 _ _ (qb82 _ _ hk64)) (by omega) (by omega) (by omega) (by omega) el29 (qS86 _ _ (qb82 _ _ hk72)) el39 (qS86 _ _ (qb82 _ _ hk73)) (by omega) exb9 al9 si9) (qS86 _ _ (qb82 _ _ hk64)) ⟨by decide, rfl⟩ dL_law_327 rfl rfl (by simp [Value.category]) (by decide) (by omega) (by omega) (by decide) (fun r147 S149 g148 dcr147 dsr147 pr147 qr147 hg148 => ?_)
            obtain ⟨wr147, z150, rfl, lz150, uz150, k151, k152, k153, k154, k155⟩ := pr147
            refine X_st [.int (iI z150)] rfl ?_
            refine X_pop hK dL_law_330 rfl ?_
            refine X_aloadn hK (i := 2) 2 dL_law_331 rfl rfl ?_
            refine X_aloadn hK (i := 0) 4 dL_law_332 rfl rfl ?_
            refine X_iload hK (i := 4) 0 dL_law_333 rfl ?_
            refine X_iconst hK dL_law_335 ?_
            refine X_iadd hK dL_law_336 ?_
            refine X_scrK hK hX hbl hbA hL (by omega) (by omega) ez124 dL_law_337 ?_
            refine X_aloadn hK (i := 0) 4 dL_law_338 rfl rfl ?_
            refine X_iload hK (i := 4) 0 dL_law_339 rfl ?_
            refine X_iconst hK dL_law_341 ?_
            refine X_iadd hK dL_law_342 ?_
            refine X_scrK hK hX hbl hbA hL (by omega) (by omega) ez125 dL_law_343 ?_
            refine X_if_eq hK 351 (by omega) dL_law_344 (by decide) (fun c156 => ?_) (fun c156 => ?_)
            · refine X_iconst hK dL_law_351 ?_
              refine X_aloadn hK (i := 0) 4 dL_law_352 rfl rfl ?_
              refine X_iload hK (i := 4) 0 dL_law_353 rfl ?_
              refine X_iconst hK dL_law_355 ?_
              refine X_iadd hK dL_law_356 ?_
              refine X_scrK hK hX hbl hbA hL (by omega) (by omega) ez145 dL_law_357 ?_
              refine X_aloadn hK (i := 0) 4 dL_law_358 rfl rfl ?_
              refine X_iload hK (i := 4) 0 dL_law_359 rfl ?_
              refine X_iconst hK dL_law_361 ?_
              refine X_iadd hK dL_law_362 ?_
              refine X_scrK hK hX hbl hbA hL (by omega) (by omega) ez146 dL_law_363 ?_
              refine X_callV hK [.int (iI z124), .int (iI 0), .int (iI z145), .int (iI z146)] [] lk_L_37 (c_X12_boy _ _ _ _ _ S149 g148 b36 z124 0 z145 z146 b9 (qr147 _ _ (qS86 _ _ (qb82 _ _ hs_y62))) (by omega) (by omega) (by omega) (by omega) (by omega) ((hg148 b36 13 0 16 (qS86 _ _ (qb82 _ _ hs_y62)) (by decide)).trans emb9)) (qr147 _ _ (qS86 _ _ (qb82 _ _ hs_y62))) ⟨by decide, rfl⟩ dL_law_364 rfl rfl (by simp [Value.category]) (by decide) (by omega) (by omega) (by decide) (fun r157 S159 g158 pr157 qr157 hg158 => ?_)
              obtain ⟨rfl, z160, rfl, lz160, uz160, k161, k162⟩ := pr157
              refine X_st [.int (iI z160)] rfl ?_
              refine X_pop hK dL_law_367 rfl ?_
              refine X_goto hK 1465 dL_law_368 (by decide) ?_
              refine X_iinc hK (i := 4) (z := i9) (n := 6) 0 [(4, .int (iI (i9 + 6))), (3, .ref b82), (2, .ref b36), (1, .ref b1), (0, .ref b)] dL_law_1465 rfl (by decide) rfl ?_
              refine X_goto hK 23 dL_law_1468 (by decide) ?_
              exact ih9 S149 (xLe.tr qS86 qr147) g158 (i9 + 6) k9 t9 c9 (if b9 < 40 ∧ 6 ≤ z124 ∧ z124 ≤ 18 ∧ -1 ≤ z145 ∧ z145 ≤ 399 ∧ 0 ≤ z146 ∧ z146 ≤ 99 then b9 + 1 else b9) sh9 sp9 sm9 (by omega) (by omega) (by omega) (by omega) (by first | omega | (split <;> omega)) (by omega) (by omega) (by omega) (xLs_mod k151 hg158 (by decide)) k152 (xPi_m (xPi_m pi9 hg148 qr147 (by decide)) hg158 xLe.rf (by decide)) (xMp_m (xMp_m mp9 hg148 qr147 (by decide)) hg158 xLe.rf (by decide)) (xTw_m (xTw_m tw9 hg148 qr147 (by decide)) hg158 xLe.rf (by decide)) ((hg158 b1 12 0 0 (qr147 _ _ (qS86 _ _ (qb82 _ _ hk64))) (by decide)).trans ((hg148 b1 12 0 0 (qS86 _ _ (qb82 _ _ hk64)) (by decide)).trans el09)) ((hg158 b1 12 0 3 (qr147 _ _ (qS86 _ _ (qb82 _ _ hk64))) (by decide)).trans ((hg148 b1 12 0 3 (qS86 _ _ (qb82 _ _ hk64)) (by decide)).trans el19)) ((hg158 b1 12 0 1 (qr147 _ _ (qS86 _ _ (qb82 _ _ hk64))) (by decide)).trans ((hg148 b1 12 0 1 (qS86 _ _ (qb82 _ _ hk64)) (by decide)).trans el29)) ((hg158 b34 6 0 1 (qr147 _ _ (qS86 _ _ (qb82 _ _ hk72))) (by decide)).trans ((hg148 b34 6 0 1 (qS86 _ _ (qb82 _ _ hk72)) (by decide)).trans el39)) ((hg158 b1 12 0 2 (qr147 _ _ (qS86 _ _ (qb82 _ _ hk64))) (by decide)).trans ((hg148 b1 12 0 2 (qS86 _ _ (qb82 _ _ hk64)) (by decide)).trans el49)) ((hg158 b18 4 0 0 (qr147 _ _ (qS86 _ _ (qb82 _ _ hk65))) (by decide)).trans ((hg148 b18 4 0 0 (qS86 _ _ (qb82 _ _ hk65)) (by decide)).trans el59)) ((hg158 b18 4 0 2 (qr147 _ _ (qS86 _ _ (qb82 _ _ hk65))) (by decide)).trans ((hg148 b18 4 0 2 (qS86 _ _ (qb82 _ _ hk65)) (by decide)).trans el69)) ((hg158 b18 4 0 3 (qr147 _ _ (qS86 _ _ (qb82 _ _ hk65))) (by decide)).trans ((hg148 b18 4 0 3 (qS86 _ _ (qb82 _ _ hk65)) (by decide)).trans el79)) ((hg158 b18 4 0 4 (qr147 _ _ (qS86 _ _ (qb82 _ _ hk65))) (by decide)).trans ((hg148 b18 4 0 4 (qS86 _ _ (qb82 _ _ hk65)) (by decide)).trans el89)) ((hg158 b32 10 0 0 (qr147 _ _ (qS86 _ _ (qb82 _ _ hk70))) (by decide)).trans ((hg148 b32 10 0 0 (qS86 _ _ (qb82 _ _ hk70)) (by decide)).trans el99)) ((hg158 b36 13 0 1 (qr147 _ _ (qS86 _ _ (qb82 _ _ hs_y62))) (by decide)).trans ((hg148 b36 13 0 1 (qS86 _ _ (qb82 _ _ hs_y62)) (by decide)).trans el109)) ((hg158 b36 13 0 10 (qr147 _ _ (qS86 _ _ (qb82 _ _ hs_y62))) (by decide)).trans ((hg148 b36 13 0 10 (qS86 _ _ (qb82 _ _ hs_y62)) (by decide)).trans el119)) ((hg158 b36 13 0 13 (qr147 _ _ (qS86 _ _ (qb82 _ _ hs_y62))) (by decide)).trans ((hg148 b36 13 0 13 (qS86 _ _ (qb82 _ _ hs_y62)) (by decide)).trans el129)) ((hg158 b36 13 0 14 (qr147 _ _ (qS86 _ _ (qb82 _ _ hs_y62))) (by decide)).trans ((hg148 b36 13 0 14 (qS86 _ _ (qb82 _ _ hs_y62)) (by decide)).trans el139)) ((hg158 b36 13 0 12 (qr147 _ _ (qS86 _ _ (qb82 _ _ hs_y62))) (by decide)).trans ((hg148 b36 13 0 12 (qS86 _ _ (qb82 _ _ hs_y62)) (by decide)).trans el149)) ((hg158 b32 10 0 1 (qr147 _ _ (qS86 _ _ (qb82 _ _ hk70))) (by decide)).trans ((hg148 b32 10 0 1 (qS86 _ _ (qb82 _ _ hk70)) (by decide)).trans exk9)) ((hg158 b36 13 0 2 (qr147 _ _ (qS86 _ _ (qb82 _ _ hs_y62))) (by decide)).trans ((hg148 b36 13 0 2 (qS86 _ _ (qb82 _ _ hs_y62)) (by decide)).trans emk9)) ((hg158 b1 12 0 12 (qr147 _ _ (qS86 _ _ (qb82 _ _ hk64))) (by decide)).trans ((hg148 b1 12 0 12 (qS86 _ _ (qb82 _ _ hk64)) (by decide)).trans ext9)) ((hg158 b36 13 0 3 (qr147 _ _ (qS86 _ _ (qb82 _ _ hs_y62))) (by decide)).trans ((hg148 b36 13 0 3 (qS86 _ _ (qb82 _ _ hs_y62)) (by decide)).trans emt9)) ((hg158 b33 5 0 3 (qr147 _ _ (qS86 _ _ (qb82 _ _ hk71))) (by decide)).trans ((hg148 b33 5 0 3 (qS86 _ _ (qb82 _ _ hk71)) (by decide)).trans exc9)) ((hg158 b36 13 0 69 (qr147 _ _ (qS86 _ _ (qb82 _ _ hs_y62))) (by decide)).trans ((hg148 b36 13 0 69 (qS86 _ _ (qb82 _ _ hs_y62)) (by decide)).trans emc9)) ((hg158 b35 0 0 2 (qr147 _ _ (qS86 _ _ (qb82 _ _ hk73))) (by decide)).trans k155) k162 ((hg158 b1 12 0 16 (qr147 _ _ (qS86 _ _ (qb82 _ _ hk64))) (by decide)).trans ((hg148 b1 12 0 16 (qS86 _ _ (qb82 _ _ hk64)) (by decide)).trans exsh9)) ((hg158 b36 13 0 89 (qr147 _ _ (qS86 _ _ (qb82 _ _ hs_y62))) (by decide)).trans ((hg148 b36 13 0 89 (qS86 _ _ (qb82 _ _ hs_y62)) (by decide)).trans emsh9)) ((hg158 b1 12 0 17 (qr147 _ _ (qS86 _ _ (qb82 _ _ hk64))) (by decide)).trans ((hg148 b1 12 0 17 (qS86 _ _ (qb82 _ _ hk64)) (by decide)).trans exsp9)) ((hg158 b36 13 0 90 (qr147 _ _ (qS86 _ _ (qb82 _ _ hs_y62))) (by decide)).trans ((hg148 b36 13 0 90 (qS86 _ _ (qb82 _ _ hs_y62)) (by decide)).trans emsp9)) ((hg158 b36 13 0 17 (qr147 _ _ (qS86 _ _ (qb82 _ _ hs_y62))) (by decide)).trans ((hg148 b36 13 0 17 (qS86 _ _ (qb82 _ _ hs_y62)) (by decide)).trans emsm9)) (xWn.m (xWn.m wn9 (qS86 _ _ (qb82 _ _ hk69)) (qS86 _ _ (qb82 _ _ hk76)) hg148 qr147 (by decide)) (qr147 _ _ (qS86 _ _ (qb82 _ _ hk69))) (qr147 _ _ (qS86 _ _ (qb82 _ _ hk76))) hg158 xLe.rf (by decide)) (by rw [(Eq.trans (xv_m hg158 (qr147 _ _ (qS86 _ _ (qb82 _ _ hk67))) (by decide) (by decide)) (xv_m hg148 (qS86 _ _ (qb82 _ _ hk67)) (by decide) (by decide))), (Eq.trans (xv_m hg158 (qr147 _ _ (qS86 _ _ (qb82 _ _ hk74))) (by decide) (by decide)) (xv_m hg148 (qS86 _ _ (qb82 _ _ hk74)) (by decide) (by decide)))]; exact wt9) (by rw [(Eq.trans (xv_m hg158 (qr147 _ _ (qS86 _ _ (qb82 _ _ hk68))) (by decide) (by decide)) (xv_m hg148 (qS86 _ _ (qb82 _ _ hk68)) (by decide) (by decide))), (Eq.trans (xv_m hg158 (qr147 _ _ (qS86 _ _ (qb82 _ _ hk75))) (by decide) (by decide)) (xv_m hg148 (qS86 _ _ (qb82 _ _ hk75)) (by decide) (by decide)))]; exact ld9) (by rw [(Eq.trans (xv_m hg158 (qr147 _ _ (qS86 _ _ (qb82 _ _ hk66))) (by decide) (by decide)) (xv_m hg148 (qS86 _ _ (qb82 _ _ hk66)) (by decide) (by decide))), (Eq.trans (xv_m hg158 (qr147 _ _ (qS86 _ _ (qb82 _ _ hs_b81))) (by decide) (by decide)) (xv_m hg148 (qS86 _ _ (qb82 _ _ hs_b81)) (by decide) (by decide)))]; exact sk9) (by rw [(Eq.trans (xv_m hg158 (qr147 _ _ (qS86 _ _ (qb82 _ _ hs_b79))) (by decide) (by decide)) (xv_m hg148 (qS86 _ _ (qb82 _ _ hs_b79)) (by decide) (by decide))), (Eq.trans (xv_m hg158 (qr147 _ _ (qS86 _ _ (qb82 _ _ hs_b80))) (by decide) (by decide)) (xv_m hg148 (qS86 _ _ (qb82 _ _ hs_b80)) (by decide) (by decide)))]; exact xTc.mono tc9 (by omega)) (dc9 + dcr147) (ds9 + dsr147) (by omega) (by omega) (by omega)
            · refine X_iconst hK dL_law_347 ?_
              refine X_goto hK 352 dL_law_348 (by decide) ?_
              refine X_aloadn hK (i := 0) 4 dL_law_352 rfl rfl ?_
              refine X_iload hK (i := 4) 0 dL_law_353 rfl ?_
              refine X_iconst hK dL_law_355 ?_
              refine X_iadd hK dL_law_356 ?_
              refine X_scrK hK hX hbl hbA hL (by omega) (by omega) ez145 dL_law_357 ?_
              refine X_aloadn hK (i := 0) 4 dL_law_358 rfl rfl ?_
              refine X_iload hK (i := 4) 0 dL_law_359 rfl ?_
              refine X_iconst hK dL_law_361 ?_
              refine X_iadd hK dL_law_362 ?_
              refine X_scrK hK hX hbl hbA hL (by omega) (by omega) ez146 dL_law_363 ?_
              refine X_callV hK [.int (iI z124), .int (iI 1), .int (iI z145), .int (iI z146)] [] lk_L_37 (c_X12_boy _ _ _ _ _ S149 g148 b36 z124 1 z145 z146 b9 (qr147 _ _ (qS86 _ _ (qb82 _ _ hs_y62))) (by omega) (by omega) (by omega) (by omega) (by omega) ((hg148 b36 13 0 16 (qS86 _ _ (qb82 _ _ hs_y62)) (by decide)).trans emb9)) (qr147 _ _ (qS86 _ _ (qb82 _ _ hs_y62))) ⟨by decide, rfl⟩ dL_law_364 rfl rfl (by simp [Value.category]) (by decide) (by omega) (by omega) (by decide) (fun r163 S165 g164 pr163 qr163 hg164 => ?_)
              obtain ⟨rfl, z166, rfl, lz166, uz166, k167, k168⟩ := pr163
              refine X_st [.int (iI z166)] rfl ?_
              refine X_pop hK dL_law_367 rfl ?_
              refine X_goto hK 1465 dL_law_368 (by decide) ?_
              refine X_iinc hK (i := 4) (z := i9) (n := 6) 0 [(4, .int (iI (i9 + 6))), (3, .ref b82), (2, .ref b36), (1, .ref b1), (0, .ref b)] dL_law_1465 rfl (by decide) rfl ?_
              refine X_goto hK 23 dL_law_1468 (by decide) ?_
              exact ih9 S149 (xLe.tr qS86 qr147) g164 (i9 + 6) k9 t9 c9 (if b9 < 40 ∧ 6 ≤ z124 ∧ z124 ≤ 18 ∧ -1 ≤ z145 ∧ z145 ≤ 399 ∧ 0 ≤ z146 ∧ z146 ≤ 99 then b9 + 1 else b9) sh9 sp9 sm9 (by omega) (by omega) (by omega) (by omega) (by first | omega | (split <;> omega)) (by omega) (by omega) (by omega) (xLs_mod k151 hg164 (by decide)) k152 (xPi_m (xPi_m pi9 hg148 qr147 (by decide)) hg164 xLe.rf (by decide)) (xMp_m (xMp_m mp9 hg148 qr147 (by decide)) hg164 xLe.rf (by decide)) (xTw_m (xTw_m tw9 hg148 qr147 (by decide)) hg164 xLe.rf (by decide)) ((hg164 b1 12 0 0 (qr147 _ _ (qS86 _ _ (qb82 _ _ hk64))) (by decide)).trans ((hg148 b1 12 0 0 (qS86 _ _ (qb82 _ _ hk64)) (by decide)).trans el09)) ((hg164 b1 12 0 3 (qr147 _ _ (qS86 _ _ (qb82 _ _ hk64))) (by decide)).trans ((hg148 b1 12 0 3 (qS86 _ _ (qb82 _ _ hk64)) (by decide)).trans el19)) ((hg164 b1 12 0 1 (qr147 _ _ (qS86 _ _ (qb82 _ _ hk64))) (by decide)).trans ((hg148 b1 12 0 1 (qS86 _ _ (qb82 _ _ hk64)) (by decide)).trans el29)) ((hg164 b34 6 0 1 (qr147 _ _ (qS86 _ _ (qb82 _ _ hk72))) (by decide)).trans ((hg148 b34 6 0 1 (qS86 _ _ (qb82 _ _ hk72)) (by decide)).trans el39)) ((hg164 b1 12 0 2 (qr147 _ _ (qS86 _ _ (qb82 _ _ hk64))) (by decide)).trans ((hg148 b1 12 0 2 (qS86 _ _ (qb82 _ _ hk64)) (by decide)).trans el49)) ((hg164 b18 4 0 0 (qr147 _ _ (qS86 _ _ (qb82 _ _ hk65))) (by decide)).trans ((hg148 b18 4 0 0 (qS86 _ _ (qb82 _ _ hk65)) (by decide)).trans el59)) ((hg164 b18 4 0 2 (qr147 _ _ (qS86 _ _ (qb82 _ _ hk65))) (by decide)).trans ((hg148 b18 4 0 2 (qS86 _ _ (qb82 _ _ hk65)) (by decide)).trans el69)) ((hg164 b18 4 0 3 (qr147 _ _ (qS86 _ _ (qb82 _ _ hk65))) (by decide)).trans ((hg148 b18 4 0 3 (qS86 _ _ (qb82 _ _ hk65)) (by decide)).trans el79)) ((hg164 b18 4 0 4 (qr147 _ _ (qS86 _ _ (qb82 _ _ hk65))) (by decide)).trans ((hg148 b18 4 0 4 (qS86 _ _ (qb82 _ _ hk65)) (by decide)).trans el89)) ((hg164 b32 10 0 0 (qr147 _ _ (qS86 _ _ (qb82 _ _ hk70))) (by decide)).trans ((hg148 b32 10 0 0 (qS86 _ _ (qb82 _ _ hk70)) (by decide)).trans el99)) ((hg164 b36 13 0 1 (qr147 _ _ (qS86 _ _ (qb82 _ _ hs_y62))) (by decide)).trans ((hg148 b36 13 0 1 (qS86 _ _ (qb82 _ _ hs_y62)) (by decide)).trans el109)) ((hg164 b36 13 0 10 (qr147 _ _ (qS86 _ _ (qb82 _ _ hs_y62))) (by decide)).trans ((hg148 b36 13 0 10 (qS86 _ _ (qb82 _ _ hs_y62)) (by decide)).trans el119)) ((hg164 b36 13 0 13 (qr147 _ _ (qS86 _ _ (qb82 _ _ hs_y62))) (by decide)).trans ((hg148 b36 13 0 13 (qS86 _ _ (qb82 _ _ hs_y62)) (by decide)).trans el129)) ((hg164 b36 13 0 14 (qr147 _ _ (qS86 _ _ (qb82 _ _ hs_y62))) (by decide)).trans ((hg148 b36 13 0 14 (qS86 _ _ (qb82 _ _ hs_y62)) (by decide)).trans el139)) ((hg164 b36 13 0 12 (qr147 _ _ (qS86 _ _ (qb82 _ _ hs_y62))) (by decide)).trans ((hg148 b36 13 0 12 (qS86 _ _ (qb82 _ _ hs_y62)) (by decide)).trans el149)) ((hg164 b32 10 0 1 (qr147 _ _ (qS86 _ _ (qb82 _ _ hk70))) (by decide)).trans ((hg148 b32 10 0 1 (qS86 _ _ (qb82 _ _ hk70)) (by decide)).trans exk9)) ((hg164 b36 13 0 2 (qr147 _ _ (qS86 _ _ (qb82 _ _ hs_y62))) (by decide)).trans ((hg148 b36 13 0 2 (qS86 _ _ (qb82 _ _ hs_y62)) (by decide)).trans emk9)) ((hg164 b1 12 0 12 (qr147 _ _ (qS86 _ _ (qb82 _ _ hk64))) (by decide)).trans ((hg148 b1 12 0 12 (qS86 _ _ (qb82 _ _ hk64)) (by decide)).trans ext9)) ((hg164 b36 13 0 3 (qr147 _ _ (qS86 _ _ (qb82 _ _ hs_y62))) (by decide)).trans ((hg148 b36 13 0 3 (qS86 _ _ (qb82 _ _ hs_y62)) (by decide)).trans emt9)) ((hg164 b33 5 0 3 (qr147 _ _ (qS86 _ _ (qb82 _ _ hk71))) (by decide)).trans ((hg148 b33 5 0 3 (qS86 _ _ (qb82 _ _ hk71)) (by decide)).trans exc9)) ((hg164 b36 13 0 69 (qr147 _ _ (qS86 _ _ (qb82 _ _ hs_y62))) (by decide)).trans ((hg148 b36 13 0 69 (qS86 _ _ (qb82 _ _ hs_y62)) (by decide)).trans emc9)) ((hg164 b35 0 0 2 (qr147 _ _ (qS86 _ _ (qb82 _ _ hk73))) (by decide)).trans k155) k168 ((hg164 b1 12 0 16 (qr147 _ _ (qS86 _ _ (qb82 _ _ hk64))) (by decide)).trans ((hg148 b1 12 0 16 (qS86 _ _ (qb82 _ _ hk64)) (by decide)).trans exsh9)) ((hg164 b36 13 0 89 (qr147 _ _ (qS86 _ _ (qb82 _ _ hs_y62))) (by decide)).trans ((hg148 b36 13 0 89 (qS86 _ _ (qb82 _ _ hs_y62)) (by decide)).trans emsh9)) ((hg164 b1 12 0 17 (qr147 _ _ (qS86 _ _ (qb82 _ _ hk64))) (by decide)).trans ((hg148 b1 12 0 17 (qS86 _ _ (qb82 _ _ hk64)) (by decide)).trans exsp9)) ((hg164 b36 13 0 90 (qr147 _ _ (qS86 _ _ (qb82 _ _ hs_y62))) (by decide)).trans ((hg148 b36 13 0 90 (qS86 _ _ (qb82 _ _ hs_y62)) (by decide)).trans emsp9)) ((hg164 b36 13 0 17 (qr147 _ _ (qS86 _ _ (qb82 _ _ hs_y62))) (by decide)).trans ((hg148 b36 13 0 17 (qS86 _ _ (qb82 _ _ hs_y62)) (by decide)).trans emsm9)) (xWn.m (xWn.m wn9 (qS86 _ _ (qb82 _ _ hk69)) (qS86 _ _ (qb82 _ _ hk76)) hg148 qr147 (by decide)) (qr147 _ _ (qS86 _ _ (qb82 _ _ hk69))) (qr147 _ _ (qS86 _ _ (qb82 _ _ hk76))) hg164 xLe.rf (by decide)) (by rw [(Eq.trans (xv_m hg164 (qr147 _ _ (qS86 _ _ (qb82 _ _ hk67))) (by decide) (by decide)) (xv_m hg148 (qS86 _ _ (qb82 _ _ hk67)) (by decide) (by decide))), (Eq.trans (xv_m hg164 (qr147 _ _ (qS86 _ _ (qb82 _ _ hk74))) (by decide) (by decide)) (xv_m hg148 (qS86 _ _ (qb82 _ _ hk74)) (by decide) (by decide)))]; exact wt9) (by rw [(Eq.trans (xv_m hg164 (qr147 _ _ (qS86 _ _ (qb82 _ _ hk68))) (by decide) (by decide)) (xv_m hg148 (qS86 _ _ (qb82 _ _ hk68)) (by decide) (by decide))), (Eq.trans (xv_m hg164 (qr147 _ _ (qS86 _ _ (qb82 _ _ hk75))) (by decide) (by decide)) (xv_m hg148 (qS86 _ _ (qb82 _ _ hk75)) (by decide) (by decide)))]; exact ld9) (by rw [(Eq.trans (xv_m hg164 (qr147 _ _ (qS86 _ _ (qb82 _ _ hk66))) (by decide) (by decide)) (xv_m hg148 (qS86 _ _ (qb82 _ _ hk66)) (by decide) (by decide))), (Eq.trans (xv_m hg164 (qr147 _ _ (qS86 _ _ (qb82 _ _ hs_b81))) (by decide) (by decide)) (xv_m hg148 (qS86 _ _ (qb82 _ _ hs_b81)) (by decide) (by decide)))]; exact sk9) (by rw [(Eq.trans (xv_m hg164 (qr147 _ _ (qS86 _ _ (qb82 _ _ hs_b79))) (by decide) (by decide)) (xv_m hg148 (qS86 _ _ (qb82 _ _ hs_b79)) (by decide) (by decide))), (Eq.trans (xv_m hg164 (qr147 _ _ (qS86 _ _ (qb82 _ _ hs_b80))) (by decide) (by decide)) (xv_m hg148 (qS86 _ _ (qb82 _ _ hs_b80)) (by decide) (by decide)))]; exact xTc.mono tc9 (by omega)) (dc9 + dcr147) (ds9 + dsr147) (by omega) (by omega) (by omega)
        · refine X_tableIn hK 371 3 (by decide) c91 (by decide) (by decide) dL_law_40 rfl (by decide) ?_
          refine X_aloadn hK (i := 1) 3 dL_law_371 rfl rfl ?_
          refine X_aloadn hK (i := 0) 4 dL_law_372 rfl rfl ?_
          refine X_iload hK (i := 4) 0 dL_law_373 rfl ?_
          refine X_iconst hK dL_law_375 ?_
          refine X_iadd hK dL_law_376 ?_
          refine X_scr hK hX hbl hbA hL (by omega) (by omega) dL_law_377 (fun z169 ez169 lz169 uz169 => ?_)
          refine X_aloadn hK (i := 0) 4 dL_law_378 rfl rfl ?_
          refine X_iload hK (i := 4) 0 dL_law_379 rfl ?_
          refine X_iconst hK dL_law_381 ?_
          refine X_iadd hK dL_law_382 ?_
          refine X_scr hK hX hbl hbA hL (by omega) (by omega) dL_law_383 (fun z170 ez170 lz170 uz170 => ?_)
          refine X_callV hK [.int (iI z169), .int (iI z170)] [] lk_L_38 (c_X11_badge _ _ _ _ _ S86 g87 b1 z169 z170 b34 b35 b9 (qS86 _ _ (qb82 _ _ hk64)) (by omega) (by omega) el29 (qS86 _ _ (qb82 _ _ hk72)) el39 (qS86 _ _ (qb82 _ _ hk73)) (by omega) exb9 al9) (qS86 _ _ (qb82 _ _ hk64)) ⟨by decide, rfl⟩ dL_law_384 rfl rfl (by simp [Value.category]) (by decide) (by omega) (by omega) (by decide) (fun r171 S173 g172 pr171 qr171 hg172 => ?_)
          obtain ⟨rfl, z174, rfl, lz174, uz174, k175⟩ := pr171
          refine X_st [.int (iI z174)] rfl ?_
          refine X_pop hK dL_law_387 rfl ?_
          refine X_aloadn hK (i := 2) 2 dL_law_388 rfl rfl ?_
          refine X_aloadn hK (i := 0) 4 dL_law_389 rfl rfl ?_
          refine X_iload hK (i := 4) 0 dL_law_390 rfl ?_
          refine X_iconst hK dL_law_392 ?_
          refine X_iadd hK dL_law_393 ?_
          refine X_scrK hK hX hbl hbA hL (by omega) (by omega) ez169 dL_law_394 ?_
          refine X_aloadn hK (i := 0) 4 dL_law_395 rfl rfl ?_
          refine X_iload hK (i := 4) 0 dL_law_396 rfl ?_
          refine X_iconst hK dL_law_398 ?_
          refine X_iadd hK dL_law_399 ?_
          refine X_scrK hK hX hbl hbA hL (by omega) (by omega) ez170 dL_law_400 ?_
          refine X_callV hK [.int (iI z169), .int (iI z170)] [] lk_L_42 (c_X12_badge _ _ _ _ _ S86 g172 b36 z169 z170 b9 (qS86 _ _ (qb82 _ _ hs_y62)) (by omega) (by omega) (by omega) ((hg172 b36 13 0 16 (qS86 _ _ (qb82 _ _ hs_y62)) (by decide)).trans emb9)) (qS86 _ _ (qb82 _ _ hs_y62)) ⟨by decide, rfl⟩ dL_law_401 rfl rfl (by simp [Value.category]) (by decide) (by omega) (by omega) (by decide) (fun r176 S178 g177 pr176 qr176 hg177 => ?_)
          obtain ⟨rfl, z179, rfl, lz179, uz179, k180⟩ := pr176
          refine X_st [.int (iI z179)] rfl ?_
          refine X_pop hK dL_law_404 rfl ?_
          refine X_goto hK 1465 dL_law_405 (by decide) ?_
          refine X_iinc hK (i := 4) (z := i9) (n := 6) 0 [(4, .int (iI (i9 + 6))), (3, .ref b82), (2, .ref b36), (1, .ref b1), (0, .ref b)] dL_law_1465 rfl (by decide) rfl ?_
          refine X_goto hK 23 dL_law_1468 (by decide) ?_
          exact ih9 S86 qS86 g177 (i9 + 6) k9 t9 c9 b9 sh9 sp9 sm9 (by omega) (by omega) (by omega) (by omega) (by omega) (by omega) (by omega) (by omega) (xLs_mod (xLs_mod al9 hg172 (by decide)) hg177 (by decide)) si9 (xPi_m (xPi_m pi9 hg172 xLe.rf (by decide)) hg177 xLe.rf (by decide)) (xMp_m (xMp_m mp9 hg172 xLe.rf (by decide)) hg177 xLe.rf (by decide)) (xTw_m (xTw_m tw9 hg172 xLe.rf (by decide)) hg177 xLe.rf (by decide)) ((hg177 b1 12 0 0 (qS86 _ _ (qb82 _ _ hk64)) (by decide)).trans ((hg172 b1 12 0 0 (qS86 _ _ (qb82 _ _ hk64)) (by decide)).trans el09)) ((hg177 b1 12 0 3 (qS86 _ _ (qb82 _ _ hk64)) (by decide)).trans ((hg172 b1 12 0 3 (qS86 _ _ (qb82 _ _ hk64)) (by decide)).trans el19)) ((hg177 b1 12 0 1 (qS86 _ _ (qb82 _ _ hk64)) (by decide)).trans ((hg172 b1 12 0 1 (qS86 _ _ (qb82 _ _ hk64)) (by decide)).trans el29)) ((hg177 b34 6 0 1 (qS86 _ _ (qb82 _ _ hk72)) (by decide)).trans ((hg172 b34 6 0 1 (qS86 _ _ (qb82 _ _ hk72)) (by decide)).trans el39)) ((hg177 b1 12 0 2 (qS86 _ _ (qb82 _ _ hk64)) (by decide)).trans ((hg172 b1 12 0 2 (qS86 _ _ (qb82 _ _ hk64)) (by decide)).trans el49)) ((hg177 b18 4 0 0 (qS86 _ _ (qb82 _ _ hk65)) (by decide)).trans ((hg172 b18 4 0 0 (qS86 _ _ (qb82 _ _ hk65)) (by decide)).trans el59)) ((hg177 b18 4 0 2 (qS86 _ _ (qb82 _ _ hk65)) (by decide)).trans ((hg172 b18 4 0 2 (qS86 _ _ (qb82 _ _ hk65)) (by decide)).trans el69)) ((hg177 b18 4 0 3 (qS86 _ _ (qb82 _ _ hk65)) (by decide)).trans ((hg172 b18 4 0 3 (qS86 _ _ (qb82 _ _ hk65)) (by decide)).trans el79)) ((hg177 b18 4 0 4 (qS86 _ _ (qb82 _ _ hk65)) (by decide)).trans ((hg172 b18 4 0 4 (qS86 _ _ (qb82 _ _ hk65)) (by decide)).trans el89)) ((hg177 b32 10 0 0 (qS86 _ _ (qb82 _ _ hk70)) (by decide)).trans ((hg172 b32 10 0 0 (qS86 _ _ (qb82 _ _ hk70)) (by decide)).trans el99)) ((hg177 b36 13 0 1 (qS86 _ _ (qb82 _ _ hs_y62)) (by decide)).trans ((hg172 b36 13 0 1 (qS86 _ _ (qb82 _ _ hs_y62)) (by decide)).trans el109)) ((hg177 b36 13 0 10 (qS86 _ _ (qb82 _ _ hs_y62)) (by decide)).trans ((hg172 b36 13 0 10 (qS86 _ _ (qb82 _ _ hs_y62)) (by decide)).trans el119)) ((hg177 b36 13 0 13 (qS86 _ _ (qb82 _ _ hs_y62)) (by decide)).trans ((hg172 b36 13 0 13 (qS86 _ _ (qb82 _ _ hs_y62)) (by decide)).trans el129)) ((hg177 b36 13 0 14 (qS86 _ _ (qb82 _ _ hs_y62)) (by decide)).trans ((hg172 b36 13 0 14 (qS86 _ _ (qb82 _ _ hs_y62)) (by decide)).trans el139)) ((hg177 b36 13 0 12 (qS86 _ _ (qb82 _ _ hs_y62)) (by decide)).trans ((hg172 b36 13 0 12 (qS86 _ _ (qb82 _ _ hs_y62)) (by decide)).trans el149)) ((hg177 b32 10 0 1 (qS86 _ _ (qb82 _ _ hk70)) (by decide)).trans ((hg172 b32 10 0 1 (qS86 _ _ (qb82 _ _ hk70)) (by decide)).trans exk9)) ((hg177 b36 13 0 2 (qS86 _ _ (qb82 _ _ hs_y62)) (by decide)).trans ((hg172 b36 13 0 2 (qS86 _ _ (qb82 _ _ hs_y62)) (by decide)).trans emk9)) ((hg177 b1 12 0 12 (qS86 _ _ (qb82 _ _ hk64)) (by decide)).trans ((hg172 b1 12 0 12 (qS86 _ _ (qb82 _ _ hk64)) (by decide)).trans ext9)) ((hg177 b36 13 0 3 (qS86 _ _ (qb82 _ _ hs_y62)) (by decide)).trans ((hg172 b36 13 0 3 (qS86 _ _ (qb82 _ _ hs_y62)) (by decide)).trans emt9)) ((hg177 b33 5 0 3 (qS86 _ _ (qb82 _ _ hk71)) (by decide)).trans ((hg172 b33 5 0 3 (qS86 _ _ (qb82 _ _ hk71)) (by decide)).trans exc9)) ((hg177 b36 13 0 69 (qS86 _ _ (qb82 _ _ hs_y62)) (by decide)).trans ((hg172 b36 13 0 69 (qS86 _ _ (qb82 _ _ hs_y62)) (by decide)).trans emc9)) ((hg177 b35 0 0 2 (qS86 _ _ (qb82 _ _ hk73)) (by decide)).trans ((hg172 b35 0 0 2 (qS86 _ _ (qb82 _ _ hk73)) (by decide)).trans exb9)) ((hg177 b36 13 0 16 (qS86 _ _ (qb82 _ _ hs_y62)) (by decide)).trans ((hg172 b36 13 0 16 (qS86 _ _ (qb82 _ _ hs_y62)) (by decide)).trans emb9)) ((hg177 b1 12 0 16 (qS86 _ _ (qb82 _ _ hk64)) (by decide)).trans ((hg172 b1 12 0 16 (qS86 _ _ (qb82 _ _ hk64)) (by decide)).trans exsh9)) ((hg177 b36 13 0 89 (qS86 _ _ (qb82 _ _ hs_y62)) (by decide)).trans ((hg172 b36 13 0 89 (qS86 _ _ (qb82 _ _ hs_y62)) (by decide)).trans emsh9)) ((hg177 b1 12 0 17 (qS86 _ _ (qb82 _ _ hk64)) (by decide)).trans ((hg172 b1 12 0 17 (qS86 _ _ (qb82 _ _ hk64)) (by decide)).trans exsp9)) ((hg177 b36 13 0 90 (qS86 _ _ (qb82 _ _ hs_y62)) (by decide)).trans ((hg172 b36 13 0 90 (qS86 _ _ (qb82 _ _ hs_y62)) (by decide)).trans emsp9)) ((hg177 b36 13 0 17 (qS86 _ _ (qb82 _ _ hs_y62)) (by decide)).trans ((hg172 b36 13 0 17 (qS86 _ _ (qb82 _ _ hs_y62)) (by decide)).trans emsm9)) (xWn.m (xWn.m wn9 (qS86 _ _ (qb82 _ _ hk69)) (qS86 _ _ (qb82 _ _ hk76)) hg172 xLe.rf (by decide)) (qS86 _ _ (qb82 _ _ hk69)) (qS86 _ _ (qb82 _ _ hk76)) hg177 xLe.rf (by decide)) (by rw [(Eq.trans (xv_m hg177 (qS86 _ _ (qb82 _ _ hk67)) (by decide) (by decide)) (xv_m hg172 (qS86 _ _ (qb82 _ _ hk67)) (by decide) (by decide))), (Eq.trans (xv_m hg177 (qS86 _ _ (qb82 _ _ hk74)) (by decide) (by decide)) (xv_m hg172 (qS86 _ _ (qb82 _ _ hk74)) (by decide) (by decide)))]; exact wt9) (by rw [(Eq.trans (xv_m hg177 (qS86 _ _ (qb82 _ _ hk68)) (by decide) (by decide)) (xv_m hg172 (qS86 _ _ (qb82 _ _ hk68)) (by decide) (by decide))), (Eq.trans (xv_m hg177 (qS86 _ _ (qb82 _ _ hk75)) (by decide) (by decide)) (xv_m hg172 (qS86 _ _ (qb82 _ _ hk75)) (by decide) (by decide)))]; exact ld9) (by rw [(Eq.trans (xv_m hg177 (qS86 _ _ (qb82 _ _ hk66)) (by decide) (by decide)) (xv_m hg172 (qS86 _ _ (qb82 _ _ hk66)) (by decide) (by decide))), (Eq.trans (xv_m hg177 (qS86 _ _ (qb82 _ _ hs_b81)) (by decide) (by decide)) (xv_m hg172 (qS86 _ _ (qb82 _ _ hs_b81)) (by decide) (by decide)))]; exact sk9) (by rw [(Eq.trans (xv_m hg177 (qS86 _ _ (qb82 _ _ hs_b79)) (by decide) (by decide)) (xv_m hg172 (qS86 _ _ (qb82 _ _ hs_b79)) (by decide) (by decide))), (Eq.trans (xv_m hg177 (qS86 _ _ (qb82 _ _ hs_b80)) (by decide) (by decide)) (xv_m hg172 (qS86 _ _ (qb82 _ _ hs_b80)) (by decide) (by decide)))]; exact xTc.mono tc9 (by omega)) dc9 ds9 (by omega) (by omega) (by omega)
        · refine X_tableIn hK 408 4 (by decide) c91 (by decide) (by decide) dL_law_40 rfl (by decide) ?_
          refine X_aloadn hK (i := 1) 3 dL_law_408 rfl rfl ?_
          refine X_aloadn hK (i := 0) 4 dL_law_409 rfl rfl ?_
          refine X_iload hK (i := 4) 0 dL_law_410 rfl ?_
          refine X_iconst hK dL_law_412 ?_
          refine X_iadd hK dL_law_413 ?_
          refine X_scr hK hX hbl hbA hL (by omega) (by omega) dL_law_414 (fun z181 ez181 lz181 uz181 => ?_)
          refine X_aloadn hK (i := 0) 4 dL_law_415 rfl rfl ?_
          refine X_iload hK (i := 4) 0 dL_law_416 rfl ?_
          refine X_iconst hK dL_law_418 ?_
          refine X_iadd hK dL_law_419 ?_
          refine X_scr hK hX hbl hbA hL (by omega) (by omega) dL_law_420 (fun z182 ez182 lz182 uz182 => ?_)
          refine X_callV hK [.int (iI z181), .int (iI z182)] [] lk_L_43 (c_X11_owner _ _ _ _ _ S86 g87 b1 z181 z182 b34 b35 b9 (qS86 _ _ (qb82 _ _ hk64)) (by omega) (by omega) el29 (qS86 _ _ (qb82 _ _ hk72)) el39 (qS86 _ _ (qb82 _ _ hk73)) (by omega) exb9 al9) (qS86 _ _ (qb82 _ _ hk64)) ⟨by decide, rfl⟩ dL_law_421 rfl rfl (by simp [Value.category]) (by decide) (by omega) (by omega) (by decide) (fun r183 S185 g184 pr183 qr183 hg184 => ?_)
          obtain ⟨rfl, z186, rfl, lz186, uz186, k187⟩ := pr183
          refine X_st [.int (iI z186)] rfl ?_
          refine X_aloadn hK (i := 2) 2 dL_law_424 rfl rfl ?_
          refine X_aloadn hK (i := 0) 4 dL_law_425 rfl rfl ?_
          refine X_iload hK (i := 4) 0 dL_law_426 rfl ?_
          refine X_iconst hK dL_law_428 ?_
          refine X_iadd hK dL_law_429 ?_
          refine X_scrK hK hX hbl hbA hL (by omega) (by omega) ez181 dL_law_430 ?_
          refine X_aloadn hK (i := 0) 4 dL_law_431 rfl rfl ?_
          refine X_iload hK (i := 4) 0 dL_law_432 rfl ?_
          refine X_iconst hK dL_law_434 ?_
          refine X_iadd hK dL_law_435 ?_
          refine X_scrK hK hX hbl hbA hL (by omega) (by omega) ez182 dL_law_436 ?_
          refine X_callV hK [.int (iI z181), .int (iI z182)] [.int (iI z186)] lk_L_46 (c_X12_owner _ _ _ _ _ S86 g184 b36 z181 z182 b9 (qS86 _ _ (qb82 _ _ hs_y62)) (by omega) (by omega) (by omega) ((hg184 b36 13 0 16 (qS86 _ _ (qb82 _ _ hs_y62)) (by decide)).trans emb9)) (qS86 _ _ (qb82 _ _ hs_y62)) ⟨by decide, rfl⟩ dL_law_437 rfl rfl (by simp [Value.category]) (by decide) (by omega) (by omega) (by decide) (fun r188 S190 g189 pr188 qr188 hg189 => ?_)
          obtain ⟨rfl, z191, rfl, lz191, uz191, k192⟩ := pr188
          refine X_st [.int (iI z191), .int (iI z186)] rfl ?_
          refine X_icmp_eq hK 1465 (by omega) (by omega) dL_law_440 (by decide) (fun c193 => ?_) (fun c193 => False.elim (by omega))
          refine X_iinc hK (i := 4) (z := i9) (n := 6) 0 [(4, .int (iI (i9 + 6))), (3, .ref b82), (2, .ref b36), (1, .ref b1), (0, .ref b)] dL_law_1465 rfl (by decide) rfl ?_
          refine X_goto hK 23 dL_law_1468 (by decide) ?_
          exact ih9 S86 qS86 g189 (i9 + 6) k9 t9 c9 b9 sh9 sp9 sm9 (by omega) (by omega) (by omega) (by omega) (by omega) (by omega) (by omega) (by omega) (xLs_mod (xLs_mod al9 hg184 (by decide)) hg189 (by decide)) si9 (xPi_m (xPi_m pi9 hg184 xLe.rf (by decide)) hg189 xLe.rf (by decide)) (xMp_m (xMp_m mp9 hg184 xLe.rf (by decide)) hg189 xLe.rf (by decide)) (xTw_m (xTw_m tw9 hg184 xLe.rf (by decide)) hg189 xLe.rf (by decide)) ((hg189 b1 12 0 0 (qS86 _ _ (qb82 _ _ hk64)) (by decide)).trans ((hg184 b1 12 0 0 (qS86 _ _ (qb82 _ _ hk64)) (by decide)).trans el09)) ((hg189 b1 12 0 3 (qS86 _ _ (qb82 _ _ hk64)) (by decide)).trans ((hg184 b1 12 0 3 (qS86 _ _ (qb82 _ _ hk64)) (by decide)).trans el19)) ((hg189 b1 12 0 1 (qS86 _ _ (qb82 _ _ hk64)) (by decide)).trans ((hg184 b1 12 0 1 (qS86 _ _ (qb82 _ _ hk64)) (by decide)).trans el29)) ((hg189 b34 6 0 1 (qS86 _ _ (qb82 _ _ hk72)) (by decide)).trans ((hg184 b34 6 0 1 (qS86 _ _ (qb82 _ _ hk72)) (by decide)).trans el39)) ((hg189 b1 12 0 2 (qS86 _ _ (qb82 _ _ hk64)) (by decide)).trans ((hg184 b1 12 0 2 (qS86 _ _ (qb82 _ _ hk64)) (by decide)).trans el49)) ((hg189 b18 4 0 0 (qS86 _ _ (qb82 _ _ hk65)) (by decide)).trans ((hg184 b18 4 0 0 (qS86 _ _ (qb82 _ _ hk65)) (by decide)).trans el59)) ((hg189 b18 4 0 2 (qS86 _ _ (qb82 _ _ hk65)) (by decide)).trans ((hg184 b18 4 0 2 (qS86 _ _ (qb82 _ _ hk65)) (by decide)).trans el69)) ((hg189 b18 4 0 3 (qS86 _ _ (qb82 _ _ hk65)) (by decide)).trans ((hg184 b18 4 0 3 (qS86 _ _ (qb82 _ _ hk65)) (by decide)).trans el79)) ((hg189 b18 4 0 4 (qS86 _ _ (qb82 _ _ hk65)) (by decide)).trans ((hg184 b18 4 0 4 (qS86 _ _ (qb82 _ _ hk65)) (by decide)).trans el89)) ((hg189 b32 10 0 0 (qS86 _ _ (qb82 _ _ hk70)) (by decide)).trans ((hg184 b32 10 0 0 (qS86 _ _ (qb82 _ _ hk70)) (by decide)).trans el99)) ((hg189 b36 13 0 1 (qS86 _ _ (qb82 _ _ hs_y62)) (by decide)).trans ((hg184 b36 13 0 1 (qS86 _ _ (qb82 _ _ hs_y62)) (by decide)).trans el109)) ((hg189 b36 13 0 10 (qS86 _ _ (qb82 _ _ hs_y62)) (by decide)).trans ((hg184 b36 13 0 10 (qS86 _ _ (qb82 _ _ hs_y62)) (by decide)).trans el119)) ((hg189 b36 13 0 13 (qS86 _ _ (qb82 _ _ hs_y62)) (by decide)).trans ((hg184 b36 13 0 13 (qS86 _ _ (qb82 _ _ hs_y62)) (by decide)).trans el129)) ((hg189 b36 13 0 14 (qS86 _ _ (qb82 _ _ hs_y62)) (by decide)).trans ((hg184 b36 13 0 14 (qS86 _ _ (qb82 _ _ hs_y62)) (by decide)).trans el139)) ((hg189 b36 13 0 12 (qS86 _ _ (qb82 _ _ hs_y62)) (by decide)).trans ((hg184 b36 13 0 12 (qS86 _ _ (qb82 _ _ hs_y62)) (by decide)).trans el149)) ((hg189 b32 10 0 1 (qS86 _ _ (qb82 _ _ hk70)) (by decide)).trans ((hg184 b32 10 0 1 (qS86 _ _ (qb82 _ _ hk70)) (by decide)).trans exk9)) ((hg189 b36 13 0 2 (qS86 _ _ (qb82 _ _ hs_y62)) (by decide)).trans ((hg184 b36 13 0 2 (qS86 _ _ (qb82 _ _ hs_y62)) (by decide)).trans emk9)) ((hg189 b1 12 0 12 (qS86 _ _ (qb82 _ _ hk64)) (by decide)).trans ((hg184 b1 12 0 12 (qS86 _ _ (qb82 _ _ hk64)) (by decide)).trans ext9)) ((hg189 b36 13 0 3 (qS86 _ _ (qb82 _ _ hs_y62)) (by decide)).trans ((hg184 b36 13 0 3 (qS86 _ _ (qb82 _ _ hs_y62)) (by decide)).trans emt9)) ((hg189 b33 5 0 3 (qS86 _ _ (qb82 _ _ hk71)) (by decide)).trans ((hg184 b33 5 0 3 (qS86 _ _ (qb82 _ _ hk71)) (by decide)).trans exc9)) ((hg189 b36 13 0 69 (qS86 _ _ (qb82 _ _ hs_y62)) (by decide)).trans ((hg184 b36 13 0 69 (qS86 _ _ (qb82 _ _ hs_y62)) (by decide)).trans emc9)) ((hg189 b35 0 0 2 (qS86 _ _ (qb82 _ _ hk73)) (by decide)).trans ((hg184 b35 0 0 2 (qS86 _ _ (qb82 _ _ hk73)) (by decide)).trans exb9)) ((hg189 b36 13 0 16 (qS86 _ _ (qb82 _ _ hs_y62)) (by decide)).trans ((hg184 b36 13 0 16 (qS86 _ _ (qb82 _ _ hs_y62)) (by decide)).trans emb9)) ((hg189 b1 12 0 16 (qS86 _ _ (qb82 _ _ hk64)) (by decide)).trans ((hg184 b1 12 0 16 (qS86 _ _ (qb82 _ _ hk64)) (by decide)).trans exsh9)) ((hg189 b36 13 0 89 (qS86 _ _ (qb82 _ _ hs_y62)) (by decide)).trans ((hg184 b36 13 0 89 (qS86 _ _ (qb82 _ _ hs_y62)) (by decide)).trans emsh9)) ((hg189 b1 12 0 17 (qS86 _ _ (qb82 _ _ hk64)) (by decide)).trans ((hg184 b1 12 0 17 (qS86 _ _ (qb82 _ _ hk64)) (by decide)).trans exsp9)) ((hg189 b36 13 0 90 (qS86 _ _ (qb82 _ _ hs_y62)) (by decide)).trans ((hg184 b36 13 0 90 (qS86 _ _ (qb82 _ _ hs_y62)) (by decide)).trans emsp9)) ((hg189 b36 13 0 17 (qS86 _ _ (qb82 _ _ hs_y62)) (by decide)).trans ((hg184 b36 13 0 17 (qS86 _ _ (qb82 _ _ hs_y62)) (by decide)).trans emsm9)) (xWn.m (xWn.m wn9 (qS86 _ _ (qb82 _ _ hk69)) (qS86 _ _ (qb82 _ _ hk76)) hg184 xLe.rf (by decide)) (qS86 _ _ (qb82 _ _ hk69)) (qS86 _ _ (qb82 _ _ hk76)) hg189 xLe.rf (by decide)) (by rw [(Eq.trans (xv_m hg189 (qS86 _ _ (qb82 _ _ hk67)) (by decide) (by decide)) (xv_m hg184 (qS86 _ _ (qb82 _ _ hk67)) (by decide) (by decide))), (Eq.trans (xv_m hg189 (qS86 _ _ (qb82 _ _ hk74)) (by decide) (by decide)) (xv_m hg184 (qS86 _ _ (qb82 _ _ hk74)) (by decide) (by decide)))]; exact wt9) (by rw [(Eq.trans (xv_m hg189 (qS86 _ _ (qb82 _ _ hk68)) (by decide) (by decide)) (xv_m hg184 (qS86 _ _ (qb82 _ _ hk68)) (by decide) (by decide))), (Eq.trans (xv_m hg189 (qS86 _ _ (qb82 _ _ hk75)) (by decide) (by decide)) (xv_m hg184 (qS86 _ _ (qb82 _ _ hk75)) (by decide) (by decide)))]; exact ld9) (by rw [(Eq.trans (xv_m hg189 (qS86 _ _ (qb82 _ _ hk66)) (by decide) (by decide)) (xv_m hg184 (qS86 _ _ (qb82 _ _ hk66)) (by decide) (by decide))), (Eq.trans (xv_m hg189 (qS86 _ _ (qb82 _ _ hs_b81)) (by decide) (by decide)) (xv_m hg184 (qS86 _ _ (qb82 _ _ hs_b81)) (by decide) (by decide)))]; exact sk9) (by rw [(Eq.trans (xv_m hg189 (qS86 _ _ (qb82 _ _ hs_b79)) (by decide) (by decide)) (xv_m hg184 (qS86 _ _ (qb82 _ _ hs_b79)) (by decide) (by decide))), (Eq.trans (xv_m hg189 (qS86 _ _ (qb82 _ _ hs_b80)) (by decide) (by decide)) (xv_m hg184 (qS86 _ _ (qb82 _ _ hs_b80)) (by decide) (by decide)))]; exact xTc.mono tc9 (by omega)) dc9 ds9 (by omega) (by omega) (by omega)
        · refine X_tableIn hK 445 5 (by decide) c91 (by decide) (by decide) dL_law_40 rfl (by decide) ?_
          refine X_aloadn hK (i := 1) 3 dL_law_445 rfl rfl ?_
          refine X_callV hK [] [] lk_L_47 (c_X11_weather _ _ _ _ _ S86 g87 b1 b32 k9 b79 b18 b19 (qS86 _ _ (qb82 _ _ hk64)) el09 (qS86 _ _ (qb82 _ _ hk70)) (by omega) exk9 el99 (qS86 _ _ (qb82 _ _ hs_b79)) el49 (qS86 _ _ (qb82 _ _ hk65)) el59 (qS86 _ _ (qb82 _ _ hk66))) (qS86 _ _ (qb82 _ _ hk64)) ⟨by decide, rfl⟩ dL_law_446 rfl rfl (by simp [Value.category]) (by decide) (by omega) (by omega) (by decide) (fun r194 S196 g195 pr194 qr194 hg195 => ?_)
          obtain ⟨rfl, z197, rfl, lz197, uz197, k198, k199, k200⟩ := pr194
          refine X_st [.int (iI z197)] rfl ?_
          refine X_pop hK dL_law_449 rfl ?_
          refine X_aloadn hK (i := 2) 2 dL_law_450 rfl rfl ?_
          refine X_callV hK [] [] lk_L_51 (c3_weather _ _ _ _ _ S86 g195 b36 k9 b80 sm9 b81 (qS86 _ _ (qb82 _ _ hs_y62)) (by omega) ((hg195 b36 13 0 2 (qS86 _ _ (qb82 _ _ hs_y62)) (by decide)).trans emk9) ((hg195 b36 13 0 1 (qS86 _ _ (qb82 _ _ hs_y62)) (by decide)).trans el109) (qS86 _ _ (qb82 _ _ hs_b80)) (by omega) ((hg195 b36 13 0 17 (qS86 _ _ (qb82 _ _ hs_y62)) (by decide)).trans emsm9) ((hg195 b36 13 0 10 (qS86 _ _ (qb82 _ _ hs_y62)) (by decide)).trans el119) (qS86 _ _ (qb82 _ _ hs_b81))) (qS86 _ _ (qb82 _ _ hs_y62)) ⟨by decide, rfl⟩ dL_law_451 rfl rfl (by simp [Value.category]) (by decide) (by omega) (by omega) (by decide) (fun r201 S203 g202 pr201 qr201 hg202 => ?_)
          obtain ⟨rfl, z204, rfl, lz204, uz204, k205, k206, k207⟩ := pr201
          refine X_st [.int (iI z204)] rfl ?_
          have hq9 : z197 = z204 := xbeq k199 k206 (by rw [(xv_m hg195 (qS86 _ _ (qb82 _ _ hs_b80)) (by decide) (by decide)), tc9.wk]) (by omega) (by omega)
          obtain ⟨z208, lz208, uz208, ez208, iz208⟩ : ∃ s8 : Int, 0 ≤ s8 ∧ s8 ≤ 400 ∧ g202 b36 17 = .int (iI s8) ∧ xSm (xv g202 b19) (xv g202 b81) s8 := by
            by_cases h9 : z197 = 1
            · have hb9 := k199.mp h9
              obtain ⟨a1, a2⟩ := k207.1 (by omega)
              exact ⟨_, by omega, by omega, a1, xSm.of (by omega) (by rw [(xv_m hg202 (qS86 _ _ (qb82 _ _ hk66)) (by decide) (by decide))]; exact k200.1 h9) a2 (by rw [(xv_m hg195 (qS86 _ _ (qb82 _ _ hs_b80)) (by decide) (by decide))]; exact tc9)⟩
            · obtain ⟨a1, a2⟩ := k207.2 (by omega)
              exact ⟨_, by omega, by omega, a1, by rw [(xv_m hg202 (qS86 _ _ (qb82 _ _ hk66)) (by decide) (by decide)), k200.2 h9, a2, (xv_m hg195 (qS86 _ _ (qb82 _ _ hs_b81)) (by decide) (by decide))]; exact sk9⟩
          refine X_pop hK dL_law_454 rfl ?_
          refine X_goto hK 1465 dL_law_455 (by decide) ?_
          refine X_iinc hK (i := 4) (z := i9) (n := 6) 0 [(4, .int (iI (i9 + 6))), (3, .ref b82), (2, .ref b36), (1, .ref b1), (0, .ref b)] dL_law_1465 rfl (by decide) rfl ?_
          refine X_goto hK 23 dL_law_1468 (by decide) ?_
          exact ih9 S86 qS86 g202 (i9 + 6) (0) t9 c9 b9 sh9 sp9 z208 (by omega) (by omega) (by omega) (by omega) (by omega) (by omega) (by omega) (by omega) (xLs_mod (xLs_mod al9 hg195 (by decide)) hg202 (by decide)) si9 (xPi_m (xPi_m pi9 hg195 xLe.rf (by decide)) hg202 xLe.rf (by decide)) (xMp_m (xMp_m mp9 hg195 xLe.rf (by decide)) hg202 xLe.rf (by decide)) (xTw_m (xTw_m tw9 hg195 xLe.rf (by decide)) hg202 xLe.rf (by decide)) ((hg202 b1 12 0 0 (qS86 _ _ (qb82 _ _ hk64)) (by decide)).trans ((hg195 b1 12 0 0 (qS86 _ _ (qb82 _ _ hk64)) (by decide)).trans el09)) ((hg202 b1 12 0 3 (qS86 _ _ (qb82 _ _ hk64)) (by decide)).trans ((hg195 b1 12 0 3 (qS86 _ _ (qb82 _ _ hk64)) (by decide)).trans el19)) ((hg202 b1 12 0 1 (qS86 _ _ (qb82 _ _ hk64)) (by decide)).trans ((hg195 b1 12 0 1 (qS86 _ _ (qb82 _ _ hk64)) (by decide)).trans el29)) ((hg202 b34 6 0 1 (qS86 _ _ (qb82 _ _ hk72)) (by decide)).trans ((hg195 b34 6 0 1 (qS86 _ _ (qb82 _ _ hk72)) (by decide)).trans el39)) ((hg202 b1 12 0 2 (qS86 _ _ (qb82 _ _ hk64)) (by decide)).trans ((hg195 b1 12 0 2 (qS86 _ _ (qb82 _ _ hk64)) (by decide)).trans el49)) ((hg202 b18 4 0 0 (qS86 _ _ (qb82 _ _ hk65)) (by decide)).trans ((hg195 b18 4 0 0 (qS86 _ _ (qb82 _ _ hk65)) (by decide)).trans el59)) ((hg202 b18 4 0 2 (qS86 _ _ (qb82 _ _ hk65)) (by decide)).trans ((hg195 b18 4 0 2 (qS86 _ _ (qb82 _ _ hk65)) (by decide)).trans el69)) ((hg202 b18 4 0 3 (qS86 _ _ (qb82 _ _ hk65)) (by decide)).trans ((hg195 b18 4 0 3 (qS86 _ _ (qb82 _ _ hk65)) (by decide)).trans el79)) ((hg202 b18 4 0 4 (qS86 _ _ (qb82 _ _ hk65)) (by decide)).trans ((hg195 b18 4 0 4 (qS86 _ _ (qb82 _ _ hk65)) (by decide)).trans el89)) ((hg202 b32 10 0 0 (qS86 _ _ (qb82 _ _ hk70)) (by decide)).trans ((hg195 b32 10 0 0 (qS86 _ _ (qb82 _ _ hk70)) (by decide)).trans el99)) ((hg202 b36 13 0 1 (qS86 _ _ (qb82 _ _ hs_y62)) (by decide)).trans ((hg195 b36 13 0 1 (qS86 _ _ (qb82 _ _ hs_y62)) (by decide)).trans el109)) ((hg202 b36 13 0 10 (qS86 _ _ (qb82 _ _ hs_y62)) (by decide)).trans ((hg195 b36 13 0 10 (qS86 _ _ (qb82 _ _ hs_y62)) (by decide)).trans el119)) ((hg202 b36 13 0 13 (qS86 _ _ (qb82 _ _ hs_y62)) (by decide)).trans ((hg195 b36 13 0 13 (qS86 _ _ (qb82 _ _ hs_y62)) (by decide)).trans el129)) ((hg202 b36 13 0 14 (qS86 _ _ (qb82 _ _ hs_y62)) (by decide)).trans ((hg195 b36 13 0 14 (qS86 _ _ (qb82 _ _ hs_y62)) (by decide)).trans el139)) ((hg202 b36 13 0 12 (qS86 _ _ (qb82 _ _ hs_y62)) (by decide)).trans ((hg195 b36 13 0 12 (qS86 _ _ (qb82 _ _ hs_y62)) (by decide)).trans el149)) ((hg202 b32 10 0 1 (qS86 _ _ (qb82 _ _ hk70)) (by decide)).trans k198) k205 ((hg202 b1 12 0 12 (qS86 _ _ (qb82 _ _ hk64)) (by decide)).trans ((hg195 b1 12 0 12 (qS86 _ _ (qb82 _ _ hk64)) (by decide)).trans ext9)) ((hg202 b36 13 0 3 (qS86 _ _ (qb82 _ _ hs_y62)) (by decide)).trans ((hg195 b36 13 0 3 (qS86 _ _ (qb82 _ _ hs_y62)) (by decide)).trans emt9)) ((hg202 b33 5 0 3 (qS86 _ _ (qb82 _ _ hk71)) (by decide)).trans ((hg195 b33 5 0 3 (qS86 _ _ (qb82 _ _ hk71)) (by decide)).trans exc9)) ((hg202 b36 13 0 69 (qS86 _ _ (qb82 _ _ hs_y62)) (by decide)).trans ((hg195 b36 13 0 69 (qS86 _ _ (qb82 _ _ hs_y62)) (by decide)).trans emc9)) ((hg202 b35 0 0 2 (qS86 _ _ (qb82 _ _ hk73)) (by decide)).trans ((hg195 b35 0 0 2 (qS86 _ _ (qb82 _ _ hk73)) (by decide)).trans exb9)) ((hg202 b36 13 0 16 (qS86 _ _ (qb82 _ _ hs_y62)) (by decide)).trans ((hg195 b36 13 0 16 (qS86 _ _ (qb82 _ _ hs_y62)) (by decide)).trans emb9)) ((hg202 b1 12 0 16 (qS86 _ _ (qb82 _ _ hk64)) (by decide)).trans ((hg195 b1 12 0 16 (qS86 _ _ (qb82 _ _ hk64)) (by decide)).trans exsh9)) ((hg202 b36 13 0 89 (qS86 _ _ (qb82 _ _ hs_y62)) (by decide)).trans ((hg195 b36 13 0 89 (qS86 _ _ (qb82 _ _ hs_y62)) (by decide)).trans emsh9)) ((hg202 b1 12 0 17 (qS86 _ _ (qb82 _ _ hk64)) (by decide)).trans ((hg195 b1 12 0 17 (qS86 _ _ (qb82 _ _ hk64)) (by decide)).trans exsp9)) ((hg202 b36 13 0 90 (qS86 _ _ (qb82 _ _ hs_y62)) (by decide)).trans ((hg195 b36 13 0 90 (qS86 _ _ (qb82 _ _ hs_y62)) (by decide)).trans emsp9)) ez208 (xWn.m (xWn.m wn9 (qS86 _ _ (qb82 _ _ hk69)) (qS86 _ _ (qb82 _ _ hk76)) hg195 xLe.rf (by decide)) (qS86 _ _ (qb82 _ _ hk69)) (qS86 _ _ (qb82 _ _ hk76)) hg202 xLe.rf (by decide)) (by rw [(Eq.trans (xv_m hg202 (qS86 _ _ (qb82 _ _ hk67)) (by decide) (by decide)) (xv_m hg195 (qS86 _ _ (qb82 _ _ hk67)) (by decide) (by decide))), (Eq.trans (xv_m hg202 (qS86 _ _ (qb82 _ _ hk74)) (by decide) (by decide)) (xv_m hg195 (qS86 _ _ (qb82 _ _ hk74)) (by decide) (by decide)))]; exact wt9) (by rw [(Eq.trans (xv_m hg202 (qS86 _ _ (qb82 _ _ hk68)) (by decide) (by decide)) (xv_m hg195 (qS86 _ _ (qb82 _ _ hk68)) (by decide) (by decide))), (Eq.trans (xv_m hg202 (qS86 _ _ (qb82 _ _ hk75)) (by decide) (by decide)) (xv_m hg195 (qS86 _ _ (qb82 _ _ hk75)) (by decide) (by decide)))]; exact ld9) iz208 (by rw [(Eq.trans (xv_m hg202 (qS86 _ _ (qb82 _ _ hs_b79)) (by decide) (by decide)) (xv_m hg195 (qS86 _ _ (qb82 _ _ hs_b79)) (by decide) (by decide))), (Eq.trans (xv_m hg202 (qS86 _ _ (qb82 _ _ hs_b80)) (by decide) (by decide)) (xv_m hg195 (qS86 _ _ (qb82 _ _ hs_b80)) (by decide) (by decide)))]; exact xTc.mono tc9 (by omega)) dc9 ds9 (by omega) (by omega) (by omega)
        · refine X_tableIn hK 458 6 (by decide) c91 (by decide) (by decide) dL_law_40 rfl (by decide) ?_
          refine X_aloadn hK (i := 1) 3 dL_law_458 rfl rfl ?_
          refine X_aloadn hK (i := 0) 4 dL_law_459 rfl rfl ?_
          refine X_iload hK (i := 4) 0 dL_law_460 rfl ?_
          refine X_iconst hK dL_law_462 ?_
          refine X_iadd hK dL_law_463 ?_
          refine X_scr hK hX hbl hbA hL (by omega) (by omega) dL_law_464 (fun z209 ez209 lz209 uz209 => ?_)
          refine X_callV hK [.int (iI z209)] [] lk_L_52 (c_X11_sky _ _ _ _ _ S86 g87 b1 z209 b18 b19 (qS86 _ _ (qb82 _ _ hk64)) (by omega) el49 (qS86 _ _ (qb82 _ _ hk65)) el59 (qS86 _ _ (qb82 _ _ hk66))) (qS86 _ _ (qb82 _ _ hk64)) ⟨by decide, rfl⟩ dL_law_465 rfl rfl (by simp [Value.category]) (by decide) (by omega) (by omega) (by decide) (fun r210 S212 g211 pr210 qr210 hg211 => ?_)
          obtain ⟨rfl, rfl, z213, rfl, lz213, uz213, k214⟩ := pr210
          refine X_st [.int (iI z213)] rfl ?_
          refine X_pop hK dL_law_468 rfl ?_
          refine X_aloadn hK (i := 2) 2 dL_law_469 rfl rfl ?_
          refine X_aloadn hK (i := 0) 4 dL_law_470 rfl rfl ?_
          refine X_iload hK (i := 4) 0 dL_law_471 rfl ?_
          refine X_iconst hK dL_law_473 ?_
          refine X_iadd hK dL_law_474 ?_
          refine X_scrK hK hX hbl hbA hL (by omega) (by omega) ez209 dL_law_475 ?_
          refine X_callV hK [.int (iI z209)] [] lk_L_55 (c_X12_sky _ _ _ _ _ S86 g87 b36 z209 sm9 b81 (qS86 _ _ (qb82 _ _ hs_y62)) (by omega) (by omega) emsm9 el119 (qS86 _ _ (qb82 _ _ hs_b81))) (qS86 _ _ (qb82 _ _ hs_y62)) ⟨by decide, rfl⟩ dL_law_476 rfl rfl (by simp [Value.category]) (by decide) (by omega) (by omega) (by decide) (fun r215 S217 g216 pr215 qr215 hg216 => ?_)
          obtain ⟨rfl, z218, rfl, lz218, uz218, k219⟩ := pr215
          refine X_st [.int (iI z218)] rfl ?_
          refine X_pop hK dL_law_479 rfl ?_
          refine X_goto hK 1465 dL_law_480 (by decide) ?_
          refine X_iinc hK (i := 4) (z := i9) (n := 6) 0 [(4, .int (iI (i9 + 6))), (3, .ref b82), (2, .ref b36), (1, .ref b1), (0, .ref b)] dL_law_1465 rfl (by decide) rfl ?_
          refine X_goto hK 23 dL_law_1468 (by decide) ?_
          exact ih9 S86 qS86 g216 (i9 + 6) k9 t9 c9 b9 sh9 sp9 sm9 (by omega) (by omega) (by omega) (by omega) (by omega) (by omega) (by omega) (by omega) (xLs_mod al9 hg216 (by decide)) si9 (xPi_m pi9 hg216 xLe.rf (by decide)) (xMp_m mp9 hg216 xLe.rf (by decide)) (xTw_m tw9 hg216 xLe.rf (by decide)) ((hg216 b1 12 0 0 (qS86 _ _ (qb82 _ _ hk64)) (by decide)).trans el09) ((hg216 b1 12 0 3 (qS86 _ _ (qb82 _ _ hk64)) (by decide)).trans el19) ((hg216 b1 12 0 1 (qS86 _ _ (qb82 _ _ hk64)) (by decide)).trans el29) ((hg216 b34 6 0 1 (qS86 _ _ (qb82 _ _ hk72)) (by decide)).trans el39) ((hg216 b1 12 0 2 (qS86 _ _ (qb82 _ _ hk64)) (by decide)).trans el49) ((hg216 b18 4 0 0 (qS86 _ _ (qb82 _ _ hk65)) (by decide)).trans el59) ((hg216 b18 4 0 2 (qS86 _ _ (qb82 _ _ hk65)) (by decide)).trans el69) ((hg216 b18 4 0 3 (qS86 _ _ (qb82 _ _ hk65)) (by decide)).trans el79) ((hg216 b18 4 0 4 (qS86 _ _ (qb82 _ _ hk65)) (by decide)).trans el89) ((hg216 b32 10 0 0 (qS86 _ _ (qb82 _ _ hk70)) (by decide)).trans el99) ((hg216 b36 13 0 1 (qS86 _ _ (qb82 _ _ hs_y62)) (by decide)).trans el109) ((hg216 b36 13 0 10 (qS86 _ _ (qb82 _ _ hs_y62)) (by decide)).trans el119) ((hg216 b36 13 0 13 (qS86 _ _ (qb82 _ _ hs_y62)) (by decide)).trans el129) ((hg216 b36 13 0 14 (qS86 _ _ (qb82 _ _ hs_y62)) (by decide)).trans el139) ((hg216 b36 13 0 12 (qS86 _ _ (qb82 _ _ hs_y62)) (by decide)).trans el149) ((hg216 b32 10 0 1 (qS86 _ _ (qb82 _ _ hk70)) (by decide)).trans exk9) ((hg216 b36 13 0 2 (qS86 _ _ (qb82 _ _ hs_y62)) (by decide)).trans emk9) ((hg216 b1 12 0 12 (qS86 _ _ (qb82 _ _ hk64)) (by decide)).trans ext9) ((hg216 b36 13 0 3 (qS86 _ _ (qb82 _ _ hs_y62)) (by decide)).trans emt9) ((hg216 b33 5 0 3 (qS86 _ _ (qb82 _ _ hk71)) (by decide)).trans exc9) ((hg216 b36 13 0 69 (qS86 _ _ (qb82 _ _ hs_y62)) (by decide)).trans emc9) ((hg216 b35 0 0 2 (qS86 _ _ (qb82 _ _ hk73)) (by decide)).trans exb9) ((hg216 b36 13 0 16 (qS86 _ _ (qb82 _ _ hs_y62)) (by decide)).trans emb9) ((hg216 b1 12 0 16 (qS86 _ _ (qb82 _ _ hk64)) (by decide)).trans exsh9) ((hg216 b36 13 0 89 (qS86 _ _ (qb82 _ _ hs_y62)) (by decide)).trans emsh9) ((hg216 b1 12 0 17 (qS86 _ _ (qb82 _ _ hk64)) (by decide)).trans exsp9) ((hg216 b36 13 0 90 (qS86 _ _ (qb82 _ _ hs_y62)) (by decide)).trans emsp9) ((hg216 b36 13 0 17 (qS86 _ _ (qb82 _ _ hs_y62)) (by decide)).trans emsm9) (xWn.m wn9 (qS86 _ _ (qb82 _ _ hk69)) (qS86 _ _ (qb82 _ _ hk76)) hg216 xLe.rf (by decide)) (by rw [(xv_m hg216 (qS86 _ _ (qb82 _ _ hk67)) (by decide) (by decide)), (xv_m hg216 (qS86 _ _ (qb82 _ _ hk74)) (by decide) (by decide))]; exact wt9) (by rw [(xv_m hg216 (qS86 _ _ (qb82 _ _ hk68)) (by decide) (by decide)), (xv_m hg216 (qS86 _ _ (qb82 _ _ hk75)) (by decide) (by decide))]; exact ld9) (by rw [(xv_m hg216 (qS86 _ _ (qb82 _ _ hk66)) (by decide) (by decide)), (xv_m hg216 (qS86 _ _ (qb82 _ _ hs_b81)) (by decide) (by decide))]; exact sk9) (by rw [(xv_m hg216 (qS86 _ _ (qb82 _ _ hs_b79)) (by decide) (by decide)), (xv_m hg216 (qS86 _ _ (qb82 _ _ hs_b80)) (by decide) (by decide))]; exact xTc.mono tc9 (by omega)) dc9 ds9 (by omega) (by omega) (by omega)
        · refine X_tableIn hK 483 7 (by decide) c91 (by decide) (by decide) dL_law_40 rfl (by decide) ?_
          refine X_aloadn hK (i := 1) 3 dL_law_483 rfl rfl ?_
          refine X_aloadn hK (i := 0) 4 dL_law_484 rfl rfl ?_
          refine X_iload hK (i := 4) 0 dL_law_485 rfl ?_
          refine X_iconst hK dL_law_487 ?_
          refine X_iadd hK dL_law_488 ?_
          refine X_scr hK hX hbl hbA hL (by omega) (by omega) dL_law_489 (fun z220 ez220 lz220 uz220 => ?_)
          refine X_aloadn hK (i := 0) 4 dL_law_490 rfl rfl ?_
          refine X_iload hK (i := 4) 0 dL_law_491 rfl ?_
          refine X_iconst hK dL_law_493 ?_
          refine X_iadd hK dL_law_494 ?_
          refine X_scr hK hX hbl hbA hL (by omega) (by omega) dL_law_495 (fun z221 ez221 lz221 uz221 => ?_)
          refine X_aloadn hK (i := 0) 4 dL_law_496 rfl rfl ?_
          refine X_iload hK (i := 4) 0 dL_law_497 rfl ?_
          refine X_iconst hK dL_law_499 ?_
          refine X_iadd hK dL_law_500 ?_
          refine X_scr hK hX hbl hbA hL (by omega) (by omega) dL_law_501 (fun z222 ez222 lz222 uz222 => ?_)
          refine X_callV hK [.int (iI z220), .int (iI z221), .int (iI z222)] [] lk_L_56 (c_X11_headline _ _ _ _ _ S86 g87 b1 z220 z221 z222 t9 (qS86 _ _ (qb82 _ _ hk64)) (by omega) (by omega) (by omega) (by omega) ext9) (qS86 _ _ (qb82 _ _ hk64)) ⟨by decide, rfl⟩ dL_law_502 rfl rfl (by simp [Value.category]) (by decide) (by omega) (by omega) (by decide) (fun r223 S225 g224 pr223 qr223 hg224 => ?_)
          obtain ⟨rfl, z226, rfl, lz226, uz226, k227⟩ := pr223
          refine X_st [.int (iI z226)] rfl ?_
          refine X_pop hK dL_law_505 rfl ?_
          refine X_aloadn hK (i := 2) 2 dL_law_506 rfl rfl ?_
          refine X_aloadn hK (i := 0) 4 dL_law_507 rfl rfl ?_
          refine X_iload hK (i := 4) 0 dL_law_508 rfl ?_
          refine X_iconst hK dL_law_510 ?_
          refine X_iadd hK dL_law_511 ?_
          refine X_scrK hK hX hbl hbA hL (by omega) (by omega) ez220 dL_law_512 ?_
          refine X_aloadn hK (i := 0) 4 dL_law_513 rfl rfl ?_
          refine X_iload hK (i := 4) 0 dL_law_514 rfl ?_
          refine X_iconst hK dL_law_516 ?_
          refine X_iadd hK dL_law_517 ?_
          refine X_scrK hK hX hbl hbA hL (by omega) (by omega) ez221 dL_law_518 ?_
          refine X_aloadn hK (i := 0) 4 dL_law_519 rfl rfl ?_
          refine X_iload hK (i := 4) 0 dL_law_520 rfl ?_
          refine X_iconst hK dL_law_522 ?_
          refine X_iadd hK dL_law_523 ?_
          refine X_scrK hK hX hbl hbA hL (by omega) (by omega) ez222 dL_law_524 ?_
          refine X_callV hK [.int (iI z220), .int (iI z221), .int (iI z222)] [] lk_L_60 (c_X12_headline _ _ _ _ _ S86 g224 b36 z220 z221 z222 t9 (qS86 _ _ (qb82 _ _ hs_y62)) (by omega) (by omega) (by omega) (by omega) ((hg224 b36 13 0 3 (qS86 _ _ (qb82 _ _ hs_y62)) (by decide)).trans emt9)) (qS86 _ _ (qb82 _ _ hs_y62)) ⟨by decide, rfl⟩ dL_law_525 rfl rfl (by simp [Value.category]) (by decide) (by omega) (by omega) (by decide) (fun r228 S230 g229 pr228 qr228 hg229 => ?_)
          obtain ⟨rfl, z231, rfl, lz231, uz231, k232⟩ := pr228
          refine X_st [.int (iI z231)] rfl ?_
          refine X_pop hK dL_law_528 rfl ?_
          refine X_goto hK 1465 dL_law_529 (by decide) ?_
          refine X_iinc hK (i := 4) (z := i9) (n := 6) 0 [(4, .int (iI (i9 + 6))), (3, .ref b82), (2, .ref b36), (1, .ref b1), (0, .ref b)] dL_law_1465 rfl (by decide) rfl ?_
          refine X_goto hK 23 dL_law_1468 (by decide) ?_
          exact ih9 S86 qS86 g229 (i9 + 6) k9 t9 c9 b9 sh9 sp9 sm9 (by omega) (by omega) (by omega) (by omega) (by omega) (by omega) (by omega) (by omega) (xLs_mod (xLs_mod al9 hg224 (by decide)) hg229 (by decide)) si9 (xPi_m (xPi_m pi9 hg224 xLe.rf (by decide)) hg229 xLe.rf (by decide)) (xMp_m (xMp_m mp9 hg224 xLe.rf (by decide)) hg229 xLe.rf (by decide)) (xTw_m (xTw_m tw9 hg224 xLe.rf (by decide)) hg229 xLe.rf (by decide)) ((hg229 b1 12 0 0 (qS86 _ _ (qb82 _ _ hk64)) (by decide)).trans ((hg224 b1 12 0 0 (qS86 _ _ (qb82 _ _ hk64)) (by decide)).trans el09)) ((hg229 b1 12 0 3 (qS86 _ _ (qb82 _ _ hk64)) (by decide)).trans ((hg224 b1 12 0 3 (qS86 _ _ (qb82 _ _ hk64)) (by decide)).trans el19)) ((hg229 b1 12 0 1 (qS86 _ _ (qb82 _ _ hk64)) (by decide)).trans ((hg224 b1 12 0 1 (qS86 _ _ (qb82 _ _ hk64)) (by decide)).trans el29)) ((hg229 b34 6 0 1 (qS86 _ _ (qb82 _ _ hk72)) (by decide)).trans ((hg224 b34 6 0 1 (qS86 _ _ (qb82 _ _ hk72)) (by decide)).trans el39)) ((hg229 b1 12 0 2 (qS86 _ _ (qb82 _ _ hk64)) (by decide)).trans ((hg224 b1 12 0 2 (qS86 _ _ (qb82 _ _ hk64)) (by decide)).trans el49)) ((hg229 b18 4 0 0 (qS86 _ _ (qb82 _ _ hk65)) (by decide)).trans ((hg224 b18 4 0 0 (qS86 _ _ (qb82 _ _ hk65)) (by decide)).trans el59)) ((hg229 b18 4 0 2 (qS86 _ _ (qb82 _ _ hk65)) (by decide)).trans ((hg224 b18 4 0 2 (qS86 _ _ (qb82 _ _ hk65)) (by decide)).trans el69)) ((hg229 b18 4 0 3 (qS86 _ _ (qb82 _ _ hk65)) (by decide)).trans ((hg224 b18 4 0 3 (qS86 _ _ (qb82 _ _ hk65)) (by decide)).trans el79)) ((hg229 b18 4 0 4 (qS86 _ _ (qb82 _ _ hk65)) (by decide)).trans ((hg224 b18 4 0 4 (qS86 _ _ (qb82 _ _ hk65)) (by decide)).trans el89)) ((hg229 b32 10 0 0 (qS86 _ _ (qb82 _ _ hk70)) (by decide)).trans ((hg224 b32 10 0 0 (qS86 _ _ (qb82 _ _ hk70)) (by decide)).trans el99)) ((hg229 b36 13 0 1 (qS86 _ _ (qb82 _ _ hs_y62)) (by decide)).trans ((hg224 b36 13 0 1 (qS86 _ _ (qb82 _ _ hs_y62)) (by decide)).trans el109)) ((hg229 b36 13 0 10 (qS86 _ _ (qb82 _ _ hs_y62)) (by decide)).trans ((hg224 b36 13 0 10 (qS86 _ _ (qb82 _ _ hs_y62)) (by decide)).trans el119)) ((hg229 b36 13 0 13 (qS86 _ _ (qb82 _ _ hs_y62)) (by decide)).trans ((hg224 b36 13 0 13 (qS86 _ _ (qb82 _ _ hs_y62)) (by decide)).trans el129)) ((hg229 b36 13 0 14 (qS86 _ _ (qb82 _ _ hs_y62)) (by decide)).trans ((hg224 b36 13 0 14 (qS86 _ _ (qb82 _ _ hs_y62)) (by decide)).trans el139)) ((hg229 b36 13 0 12 (qS86 _ _ (qb82 _ _ hs_y62)) (by decide)).trans ((hg224 b36 13 0 12 (qS86 _ _ (qb82 _ _ hs_y62)) (by decide)).trans el149)) ((hg229 b32 10 0 1 (qS86 _ _ (qb82 _ _ hk70)) (by decide)).trans ((hg224 b32 10 0 1 (qS86 _ _ (qb82 _ _ hk70)) (by decide)).trans exk9)) ((hg229 b36 13 0 2 (qS86 _ _ (qb82 _ _ hs_y62)) (by decide)).trans ((hg224 b36 13 0 2 (qS86 _ _ (qb82 _ _ hs_y62)) (by decide)).trans emk9)) ((hg229 b1 12 0 12 (qS86 _ _ (qb82 _ _ hk64)) (by decide)).trans ((hg224 b1 12 0 12 (qS86 _ _ (qb82 _ _ hk64)) (by decide)).trans ext9)) ((hg229 b36 13 0 3 (qS86 _ _ (qb82 _ _ hs_y62)) (by decide)).trans ((hg224 b36 13 0 3 (qS86 _ _ (qb82 _ _ hs_y62)) (by decide)).trans emt9)) ((hg229 b33 5 0 3 (qS86 _ _ (qb82 _ _ hk71)) (by decide)).trans ((hg224 b33 5 0 3 (qS86 _ _ (qb82 _ _ hk71)) (by decide)).trans exc9)) ((hg229 b36 13 0 69 (qS86 _ _ (qb82 _ _ hs_y62)) (by decide)).trans ((hg224 b36 13 0 69 (qS86 _ _ (qb82 _ _ hs_y62)) (by decide)).trans emc9)) ((hg229 b35 0 0 2 (qS86 _ _ (qb82 _ _ hk73)) (by decide)).trans ((hg224 b35 0 0 2 (qS86 _ _ (qb82 _ _ hk73)) (by decide)).trans exb9)) ((hg229 b36 13 0 16 (qS86 _ _ (qb82 _ _ hs_y62)) (by decide)).trans ((hg224 b36 13 0 16 (qS86 _ _ (qb82 _ _ hs_y62)) (by decide)).trans emb9)) ((hg229 b1 12 0 16 (qS86 _ _ (qb82 _ _ hk64)) (by decide)).trans ((hg224 b1 12 0 16 (qS86 _ _ (qb82 _ _ hk64)) (by decide)).trans exsh9)) ((hg229 b36 13 0 89 (qS86 _ _ (qb82 _ _ hs_y62)) (by decide)).trans ((hg224 b36 13 0 89 (qS86 _ _ (qb82 _ _ hs_y62)) (by decide)).trans emsh9)) ((hg229 b1 12 0 17 (qS86 _ _ (qb82 _ _ hk64)) (by decide)).trans ((hg224 b1 12 0 17 (qS86 _ _ (qb82 _ _ hk64)) (by decide)).trans exsp9)) ((hg229 b36 13 0 90 (qS86 _ _ (qb82 _ _ hs_y62)) (by decide)).trans ((hg224 b36 13 0 90 (qS86 _ _ (qb82 _ _ hs_y62)) (by decide)).trans emsp9)) ((hg229 b36 13 0 17 (qS86 _ _ (qb82 _ _ hs_y62)) (by decide)).trans ((hg224 b36 13 0 17 (qS86 _ _ (qb82 _ _ hs_y62)) (by decide)).trans emsm9)) (xWn.m (xWn.m wn9 (qS86 _ _ (qb82 _ _ hk69)) (qS86 _ _ (qb82 _ _ hk76)) hg224 xLe.rf (by decide)) (qS86 _ _ (qb82 _ _ hk69)) (qS86 _ _ (qb82 _ _ hk76)) hg229 xLe.rf (by decide)) (by rw [(Eq.trans (xv_m hg229 (qS86 _ _ (qb82 _ _ hk67)) (by decide) (by decide)) (xv_m hg224 (qS86 _ _ (qb82 _ _ hk67)) (by decide) (by decide))), (Eq.trans (xv_m hg229 (qS86 _ _ (qb82 _ _ hk74)) (by decide) (by decide)) (xv_m hg224 (qS86 _ _ (qb82 _ _ hk74)) (by decide) (by decide)))]; exact wt9) (by rw [(Eq.trans (xv_m hg229 (qS86 _ _ (qb82 _ _ hk68)) (by decide) (by decide)) (xv_m hg224 (qS86 _ _ (qb82 _ _ hk68)) (by decide) (by decide))), (Eq.trans (xv_m hg229 (qS86 _ _ (qb82 _ _ hk75)) (by decide) (by decide)) (xv_m hg224 (qS86 _ _ (qb82 _ _ hk75)) (by decide) (by decide)))]; exact ld9) (by rw [(Eq.trans (xv_m hg229 (qS86 _ _ (qb82 _ _ hk66)) (by decide) (by decide)) (xv_m hg224 (qS86 _ _ (qb82 _ _ hk66)) (by decide) (by decide))), (Eq.trans (xv_m hg229 (qS86 _ _ (qb82 _ _ hs_b81)) (by decide) (by decide)) (xv_m hg224 (qS86 _ _ (qb82 _ _ hs_b81)) (by decide) (by decide)))]; exact sk9) (by rw [(Eq.trans (xv_m hg229 (qS86 _ _ (qb82 _ _ hs_b79)) (by decide) (by decide)) (xv_m hg224 (qS86 _ _ (qb82 _ _ hs_b79)) (by decide) (by decide))), (Eq.trans (xv_m hg229 (qS86 _ _ (qb82 _ _ hs_b80)) (by decide) (by decide)) (xv_m hg224 (qS86 _ _ (qb82 _ _ hs_b80)) (by decide) (by decide)))]; exact xTc.mono tc9 (by omega)) dc9 ds9 (by omega) (by omega) (by omega)
        · refine X_tableIn hK 532 8 (by decide) c91 (by decide) (by decide) dL_law_40 rfl (by decide) ?_
          refine X_aloadn hK (i := 1) 3 dL_law_532 rfl rfl ?_
          refine X_aloadn hK (i := 0) 4 dL_law_533 rfl rfl ?_
          refine X_iload hK (i := 4) 0 dL_law_534 rfl ?_
          refine X_iconst hK dL_law_536 ?_
          refine X_iadd hK dL_law_537 ?_
          refine X_scr hK hX hbl hbA hL (by omega) (by omega) dL_law_538 (fun z233 ez233 lz233 uz233 => ?_)
          refine X_aloadn hK (i := 0) 4 dL_law_539 rfl rfl ?_
          refine X_iload hK (i := 4) 0 dL_law_540 rfl ?_
          refine X_iconst hK dL_law_542 ?_
          refine X_iadd hK dL_law_543 ?_
          refine X_scr hK hX hbl hbA hL (by omega) (by omega) dL_law_544 (fun z234 ez234 lz234 uz234 => ?_)
          refine X_aloadn hK (i := 0) 4 dL_law_545 rfl rfl ?_
          refine X_iload hK (i := 4) 0 dL_law_546 rfl ?_
          refine X_iconst hK dL_law_548 ?_
          refine X_iadd hK dL_law_549 ?_
          refine X_scr hK hX hbl hbA hL (by omega) (by omega) dL_law_550 (fun z235 ez235 lz235 uz235 => ?_)
          refine X_callV hK [.int (iI z233), .int (iI z234), .int (iI z235)] [] lk_L_61 (c_X11_table _ _ _ _ _ S86 g87 b1 z233 z234 z235 b18 b20 b21 (qS86 _ _ (qb82 _ _ hk64)) (by omega) (by omega) (by omega) el49 (qS86 _ _ (qb82 _ _ hk65)) el69 (qS86 _ _ (qb82 _ _ hk67)) el79 (qS86 _ _ (qb82 _ _ hk68))) (qS86 _ _ (qb82 _ _ hk64)) ⟨by decide, rfl⟩ dL_law_551 rfl rfl (by simp [Value.category]) (by decide) (by omega) (by omega) (by decide) (fun r236 S238 g237 pr236 qr236 hg237 => ?_)
          obtain ⟨rfl, z239, rfl, lz239, uz239, k240, k241⟩ := pr236
          refine X_st [.int (iI z239)] rfl ?_
          refine X_pop hK dL_law_554 rfl ?_
          refine X_aloadn hK (i := 2) 2 dL_law_555 rfl rfl ?_
          refine X_aloadn hK (i := 0) 4 dL_law_556 rfl rfl ?_
          refine X_iload hK (i := 4) 0 dL_law_557 rfl ?_
          refine X_iconst hK dL_law_559 ?_
          refine X_iadd hK dL_law_560 ?_
          refine X_scrK hK hX hbl hbA hL (by omega) (by omega) ez233 dL_law_561 ?_
          refine X_aloadn hK (i := 0) 4 dL_law_562 rfl rfl ?_
          refine X_iload hK (i := 4) 0 dL_law_563 rfl ?_
          refine X_iconst hK dL_law_565 ?_
          refine X_iadd hK dL_law_566 ?_
          refine X_scrK hK hX hbl hbA hL (by omega) (by omega) ez234 dL_law_567 ?_
          refine X_aloadn hK (i := 0) 4 dL_law_568 rfl rfl ?_
          refine X_iload hK (i := 4) 0 dL_law_569 rfl ?_
          refine X_iconst hK dL_law_571 ?_
          refine X_iadd hK dL_law_572 ?_
          refine X_scrK hK hX hbl hbA hL (by omega) (by omega) ez235 dL_law_573 ?_
          refine X_callV hK [.int (iI z233), .int (iI z234), .int (iI z235)] [] lk_L_64 (c_X12_table _ _ _ _ _ S86 g237 b36 z233 z234 z235 b58 b59 (qS86 _ _ (qb82 _ _ hs_y62)) (by omega) (by omega) (by omega) ((hg237 b36 13 0 13 (qS86 _ _ (qb82 _ _ hs_y62)) (by decide)).trans el129) (qS86 _ _ (qb82 _ _ hk74)) ((hg237 b36 13 0 14 (qS86 _ _ (qb82 _ _ hs_y62)) (by decide)).trans el139) (qS86 _ _ (qb82 _ _ hk75))) (qS86 _ _ (qb82 _ _ hs_y62)) ⟨by decide, rfl⟩ dL_law_574 rfl rfl (by simp [Value.category]) (by decide) (by omega) (by omega) (by decide) (fun r242 S244 g243 pr242 qr242 hg243 => ?_)
          obtain ⟨rfl, z245, rfl, lz245, uz245, k246, k247⟩ := pr242
          refine X_st [.int (iI z245)] rfl ?_
          have tb248 := xTb.tc (by rw [(xv_m hg237 (qS86 _ _ (qb82 _ _ hk74)) (by decide) (by decide))]; exact wt9) (by rw [(xv_m hg237 (qS86 _ _ (qb82 _ _ hk75)) (by decide) (by decide))]; exact ld9) k241 k247 (by omega)
          refine X_pop hK dL_law_577 rfl ?_
          refine X_goto hK 1465 dL_law_578 (by decide) ?_
          refine X_iinc hK (i := 4) (z := i9) (n := 6) 0 [(4, .int (iI (i9 + 6))), (3, .ref b82), (2, .ref b36), (1, .ref b1), (0, .ref b)] dL_law_1465 rfl (by decide) rfl ?_
          refine X_goto hK 23 dL_law_1468 (by decide) ?_
          exact ih9 S86 qS86 g243 (i9 + 6) k9 t9 c9 b9 sh9 sp9 sm9 (by omega) (by omega) (by omega) (by omega) (by omega) (by omega) (by omega) (by omega) (xLs_mod (xLs_mod al9 hg237 (by decide)) hg243 (by decide)) si9 (xPi_m (xPi_m pi9 hg237 xLe.rf (by decide)) hg243 xLe.rf (by decide)) (xMp_m (xMp_m mp9 hg237 xLe.rf (by decide)) hg243 xLe.rf (by decide)) (xTw_m (xTw_m tw9 hg237 xLe.rf (by decide)) hg243 xLe.rf (by decide)) ((hg243 b1 12 0 0 (qS86 _ _ (qb82 _ _ hk64)) (by decide)).trans ((hg237 b1 12 0 0 (qS86 _ _ (qb82 _ _ hk64)) (by decide)).trans el09)) ((hg243 b1 12 0 3 (qS86 _ _ (qb82 _ _ hk64)) (by decide)).trans ((hg237 b1 12 0 3 (qS86 _ _ (qb82 _ _ hk64)) (by decide)).trans el19)) ((hg243 b1 12 0 1 (qS86 _ _ (qb82 _ _ hk64)) (by decide)).trans ((hg237 b1 12 0 1 (qS86 _ _ (qb82 _ _ hk64)) (by decide)).trans el29)) ((hg243 b34 6 0 1 (qS86 _ _ (qb82 _ _ hk72)) (by decide)).trans ((hg237 b34 6 0 1 (qS86 _ _ (qb82 _ _ hk72)) (by decide)).trans el39)) ((hg243 b1 12 0 2 (qS86 _ _ (qb82 _ _ hk64)) (by decide)).trans ((hg237 b1 12 0 2 (qS86 _ _ (qb82 _ _ hk64)) (by decide)).trans el49)) ((hg243 b18 4 0 0 (qS86 _ _ (qb82 _ _ hk65)) (by decide)).trans ((hg237 b18 4 0 0 (qS86 _ _ (qb82 _ _ hk65)) (by decide)).trans el59)) ((hg243 b18 4 0 2 (qS86 _ _ (qb82 _ _ hk65)) (by decide)).trans ((hg237 b18 4 0 2 (qS86 _ _ (qb82 _ _ hk65)) (by decide)).trans el69)) ((hg243 b18 4 0 3 (qS86 _ _ (qb82 _ _ hk65)) (by decide)).trans ((hg237 b18 4 0 3 (qS86 _ _ (qb82 _ _ hk65)) (by decide)).trans el79)) ((hg243 b18 4 0 4 (qS86 _ _ (qb82 _ _ hk65)) (by decide)).trans ((hg237 b18 4 0 4 (qS86 _ _ (qb82 _ _ hk65)) (by decide)).trans el89)) ((hg243 b32 10 0 0 (qS86 _ _ (qb82 _ _ hk70)) (by decide)).trans ((hg237 b32 10 0 0 (qS86 _ _ (qb82 _ _ hk70)) (by decide)).trans el99)) ((hg243 b36 13 0 1 (qS86 _ _ (qb82 _ _ hs_y62)) (by decide)).trans ((hg237 b36 13 0 1 (qS86 _ _ (qb82 _ _ hs_y62)) (by decide)).trans el109)) ((hg243 b36 13 0 10 (qS86 _ _ (qb82 _ _ hs_y62)) (by decide)).trans ((hg237 b36 13 0 10 (qS86 _ _ (qb82 _ _ hs_y62)) (by decide)).trans el119)) ((hg243 b36 13 0 13 (qS86 _ _ (qb82 _ _ hs_y62)) (by decide)).trans ((hg237 b36 13 0 13 (qS86 _ _ (qb82 _ _ hs_y62)) (by decide)).trans el129)) ((hg243 b36 13 0 14 (qS86 _ _ (qb82 _ _ hs_y62)) (by decide)).trans ((hg237 b36 13 0 14 (qS86 _ _ (qb82 _ _ hs_y62)) (by decide)).trans el139)) ((hg243 b36 13 0 12 (qS86 _ _ (qb82 _ _ hs_y62)) (by decide)).trans ((hg237 b36 13 0 12 (qS86 _ _ (qb82 _ _ hs_y62)) (by decide)).trans el149)) ((hg243 b32 10 0 1 (qS86 _ _ (qb82 _ _ hk70)) (by decide)).trans ((hg237 b32 10 0 1 (qS86 _ _ (qb82 _ _ hk70)) (by decide)).trans exk9)) ((hg243 b36 13 0 2 (qS86 _ _ (qb82 _ _ hs_y62)) (by decide)).trans ((hg237 b36 13 0 2 (qS86 _ _ (qb82 _ _ hs_y62)) (by decide)).trans emk9)) ((hg243 b1 12 0 12 (qS86 _ _ (qb82 _ _ hk64)) (by decide)).trans ((hg237 b1 12 0 12 (qS86 _ _ (qb82 _ _ hk64)) (by decide)).trans ext9)) ((hg243 b36 13 0 3 (qS86 _ _ (qb82 _ _ hs_y62)) (by decide)).trans ((hg237 b36 13 0 3 (qS86 _ _ (qb82 _ _ hs_y62)) (by decide)).trans emt9)) ((hg243 b33 5 0 3 (qS86 _ _ (qb82 _ _ hk71)) (by decide)).trans ((hg237 b33 5 0 3 (qS86 _ _ (qb82 _ _ hk71)) (by decide)).trans exc9)) ((hg243 b36 13 0 69 (qS86 _ _ (qb82 _ _ hs_y62)) (by decide)).trans ((hg237 b36 13 0 69 (qS86 _ _ (qb82 _ _ hs_y62)) (by decide)).trans emc9)) ((hg243 b35 0 0 2 (qS86 _ _ (qb82 _ _ hk73)) (by decide)).trans ((hg237 b35 0 0 2 (qS86 _ _ (qb82 _ _ hk73)) (by decide)).trans exb9)) ((hg243 b36 13 0 16 (qS86 _ _ (qb82 _ _ hs_y62)) (by decide)).trans ((hg237 b36 13 0 16 (qS86 _ _ (qb82 _ _ hs_y62)) (by decide)).trans emb9)) ((hg243 b1 12 0 16 (qS86 _ _ (qb82 _ _ hk64)) (by decide)).trans ((hg237 b1 12 0 16 (qS86 _ _ (qb82 _ _ hk64)) (by decide)).trans exsh9)) ((hg243 b36 13 0 89 (qS86 _ _ (qb82 _ _ hs_y62)) (by decide)).trans ((hg237 b36 13 0 89 (qS86 _ _ (qb82 _ _ hs_y62)) (by decide)).trans emsh9)) ((hg243 b1 12 0 17 (qS86 _ _ (qb82 _ _ hk64)) (by decide)).trans ((hg237 b1 12 0 17 (qS86 _ _ (qb82 _ _ hk64)) (by decide)).trans exsp9)) ((hg243 b36 13 0 90 (qS86 _ _ (qb82 _ _ hs_y62)) (by decide)).trans ((hg237 b36 13 0 90 (qS86 _ _ (qb82 _ _ hs_y62)) (by decide)).trans emsp9)) ((hg243 b36 13 0 17 (qS86 _ _ (qb82 _ _ hs_y62)) (by decide)).trans ((hg237 b36 13 0 17 (qS86 _ _ (qb82 _ _ hs_y62)) (by decide)).trans emsm9)) (xWn.m (xWn.m wn9 (qS86 _ _ (qb82 _ _ hk69)) (qS86 _ _ (qb82 _ _ hk76)) hg237 xLe.rf (by decide)) (qS86 _ _ (qb82 _ _ hk69)) (qS86 _ _ (qb82 _ _ hk76)) hg243 xLe.rf (by decide)) (by rw [(xv_m hg243 (qS86 _ _ (qb82 _ _ hk67)) (by decide) (by decide))]; exact tb248.1) (by rw [(xv_m hg243 (qS86 _ _ (qb82 _ _ hk68)) (by decide) (by decide))]; exact tb248.2) (by rw [(Eq.trans (xv_m hg243 (qS86 _ _ (qb82 _ _ hk66)) (by decide) (by decide)) (xv_m hg237 (qS86 _ _ (qb82 _ _ hk66)) (by decide) (by decide))), (Eq.trans (xv_m hg243 (qS86 _ _ (qb82 _ _ hs_b81)) (by decide) (by decide)) (xv_m hg237 (qS86 _ _ (qb82 _ _ hs_b81)) (by decide) (by decide)))]; exact sk9) (by rw [(Eq.trans (xv_m hg243 (qS86 _ _ (qb82 _ _ hs_b79)) (by decide) (by decide)) (xv_m hg237 (qS86 _ _ (qb82 _ _ hs_b79)) (by decide) (by decide))), (Eq.trans (xv_m hg243 (qS86 _ _ (qb82 _ _ hs_b80)) (by decide) (by decide)) (xv_m hg237 (qS86 _ _ (qb82 _ _ hs_b80)) (by decide) (by decide)))]; exact xTc.mono tc9 (by omega)) dc9 ds9 (by omega) (by omega) (by omega)
        · refine X_tableIn hK 581 9 (by decide) c91 (by decide) (by decide) dL_law_40 rfl (by decide) ?_
          refine X_aloadn hK (i := 1) 3 dL_law_581 rfl rfl ?_
          refine X_aloadn hK (i := 0) 4 dL_law_582 rfl rfl ?_
          refine X_iload hK (i := 4) 0 dL_law_583 rfl ?_
          refine X_iconst hK dL_law_585 ?_
          refine X_iadd hK dL_law_586 ?_
          refine X_scr hK hX hbl hbA hL (by omega) (by omega) dL_law_587 (fun z249 ez249 lz249 uz249 => ?_)
          refine X_aloadn hK (i := 0) 4 dL_law_588 rfl rfl ?_
          refine X_iload hK (i := 4) 0 dL_law_589 rfl ?_
          refine X_iconst hK dL_law_591 ?_
          refine X_iadd hK dL_law_592 ?_
          refine X_scr hK hX hbl hbA hL (by omega) (by omega) dL_law_593 (fun z250 ez250 lz250 uz250 => ?_)
          refine X_aloadn hK (i := 0) 4 dL_law_594 rfl rfl ?_
          refine X_iload hK (i := 4) 0 dL_law_595 rfl ?_
          refine X_iconst hK dL_law_597 ?_
          refine X_iadd hK dL_law_598 ?_
          refine X_scr hK hX hbl hbA hL (by omega) (by omega) dL_law_599 (fun z251 ez251 lz251 uz251 => ?_)
          refine X_callV hK [.int (iI z249), .int (iI z250), .int (iI z251)] [] lk_L_65 (c_X11_want _ _ _ _ _ S86 g87 b1 z249 z250 z251 b18 b22 (qS86 _ _ (qb82 _ _ hk64)) (by omega) (by omega) (by omega) el49 (qS86 _ _ (qb82 _ _ hk65)) el89 (qS86 _ _ (qb82 _ _ hk69))) (qS86 _ _ (qb82 _ _ hk64)) ⟨by decide, rfl⟩ dL_law_600 rfl rfl (by simp [Value.category]) (by decide) (by omega) (by omega) (by decide) (fun r252 S254 g253 pr252 qr252 hg253 => ?_)
          obtain ⟨rfl, z255, rfl, lz255, uz255, k256, k257⟩ := pr252
          refine X_st [.int (iI z255)] rfl ?_
          refine X_pop hK dL_law_603 rfl ?_
          refine X_aloadn hK (i := 2) 2 dL_law_604 rfl rfl ?_
          refine X_aloadn hK (i := 0) 4 dL_law_605 rfl rfl ?_
          refine X_iload hK (i := 4) 0 dL_law_606 rfl ?_
          refine X_iconst hK dL_law_608 ?_
          refine X_iadd hK dL_law_609 ?_
          refine X_scrK hK hX hbl hbA hL (by omega) (by omega) ez249 dL_law_610 ?_
          refine X_aloadn hK (i := 0) 4 dL_law_611 rfl rfl ?_
          refine X_iload hK (i := 4) 0 dL_law_612 rfl ?_
          refine X_iconst hK dL_law_614 ?_
          refine X_iadd hK dL_law_615 ?_
          refine X_scrK hK hX hbl hbA hL (by omega) (by omega) ez250 dL_law_616 ?_
          refine X_aloadn hK (i := 0) 4 dL_law_617 rfl rfl ?_
          refine X_iload hK (i := 4) 0 dL_law_618 rfl ?_
          refine X_iconst hK dL_law_620 ?_
          refine X_iadd hK dL_law_621 ?_
          refine X_scrK hK hX hbl hbA hL (by omega) (by omega) ez251 dL_law_622 ?_
          refine X_callV hK [.int (iI z249), .int (iI z250), .int (iI z251)] [] lk_L_68 (c_X12_want _ _ _ _ _ S86 g253 b36 z249 z250 z251 b60 (qS86 _ _ (qb82 _ _ hs_y62)) (by omega) (by omega) (by omega) ((hg253 b36 13 0 12 (qS86 _ _ (qb82 _ _ hs_y62)) (by decide)).trans el149) (qS86 _ _ (qb82 _ _ hk76))) (qS86 _ _ (qb82 _ _ hs_y62)) ⟨by decide, rfl⟩ dL_law_623 rfl rfl (by simp [Value.category]) (by decide) (by omega) (by omega) (by decide) (fun r258 S260 g259 pr258 qr258 hg259 => ?_)
          obtain ⟨rfl, z261, rfl, lz261, uz261, k262, k263⟩ := pr258
          refine X_st [.int (iI z261)] rfl ?_
          have wn264 : xWn S86 g259 b22 b60 := by
            by_cases h9 : z255 = 1
            · obtain ⟨w9, a1, a2, a3⟩ := k257.1 h9
              have hb9 := k256.mp h9
              exact xWn.up wn9 (by omega) (by omega) a1 a2 a3 (fun k9 => ((hg259 _ _ _ _ (qS86 _ _ (qb82 _ _ hk69)) (by rw [xky_a (by decide)]; decide)).trans (hg253 _ _ _ _ (qS86 _ _ (qb82 _ _ hk69)) (by rw [xky_a (by decide)]; decide)))) (fun r9 n9 h9 => xv_m hg259 h9 (by decide) (by decide)) (by rw [← (xv_m hg253 (qS86 _ _ (qb82 _ _ hk76)) (by decide) (by decide))]; exact k263.1 (by omega))
            · exact xWn.same wn9 (fun k9 => ((hg259 _ _ _ _ (qS86 _ _ (qb82 _ _ hk69)) (by rw [xky_a (by decide)]; decide)).trans (hg253 _ _ _ _ (qS86 _ _ (qb82 _ _ hk69)) (by rw [xky_a (by decide)]; decide)))) (fun r9 n9 h8 => (xv_m hg259 h8 (by decide) (by decide)).trans (k257.2 h9 r9 n9 h8)) ((k263.2 (by omega)).trans (xv_m hg253 (qS86 _ _ (qb82 _ _ hk76)) (by decide) (by decide)))
          refine X_pop hK dL_law_626 rfl ?_
          refine X_goto hK 1465 dL_law_627 (by decide) ?_
          refine X_iinc hK (i := 4) (z := i9) (n := 6) 0 [(4, .int (iI (i9 + 6))), (3, .ref b82), (2, .ref b36), (1, .ref b1), (0, .ref b)] dL_law_1465 rfl (by decide) rfl ?_
          refine X_goto hK 23 dL_law_1468 (by decide) ?_
          exact ih9 S86 qS86 g259 (i9 + 6) k9 t9 c9 b9 sh9 sp9 sm9 (by omega) (by omega) (by omega) (by omega) (by omega) (by omega) (by omega) (by omega) (xLs_mod (xLs_mod al9 hg253 (by decide)) hg259 (by decide)) si9 (xPi_m (xPi_m pi9 hg253 xLe.rf (by decide)) hg259 xLe.rf (by decide)) (xMp_m (xMp_m mp9 hg253 xLe.rf (by decide)) hg259 xLe.rf (by decide)) (xTw_m (xTw_m tw9 hg253 xLe.rf (by decide)) hg259 xLe.rf (by decide)) ((hg259 b1 12 0 0 (qS86 _ _ (qb82 _ _ hk64)) (by decide)).trans ((hg253 b1 12 0 0 (qS86 _ _ (qb82 _ _ hk64)) (by decide)).trans el09)) ((hg259 b1 12 0 3 (qS86 _ _ (qb82 _ _ hk64)) (by decide)).trans ((hg253 b1 12 0 3 (qS86 _ _ (qb82 _ _ hk64)) (by decide)).trans el19)) ((hg259 b1 12 0 1 (qS86 _ _ (qb82 _ _ hk64)) (by decide)).trans ((hg253 b1 12 0 1 (qS86 _ _ (qb82 _ _ hk64)) (by decide)).trans el29)) ((hg259 b34 6 0 1 (qS86 _ _ (qb82 _ _ hk72)) (by decide)).trans ((hg253 b34 6 0 1 (qS86 _ _ (qb82 _ _ hk72)) (by decide)).trans el39)) ((hg259 b1 12 0 2 (qS86 _ _ (qb82 _ _ hk64)) (by decide)).trans ((hg253 b1 12 0 2 (qS86 _ _ (qb82 _ _ hk64)) (by decide)).trans el49)) ((hg259 b18 4 0 0 (qS86 _ _ (qb82 _ _ hk65)) (by decide)).trans ((hg253 b18 4 0 0 (qS86 _ _ (qb82 _ _ hk65)) (by decide)).trans el59)) ((hg259 b18 4 0 2 (qS86 _ _ (qb82 _ _ hk65)) (by decide)).trans ((hg253 b18 4 0 2 (qS86 _ _ (qb82 _ _ hk65)) (by decide)).trans el69)) ((hg259 b18 4 0 3 (qS86 _ _ (qb82 _ _ hk65)) (by decide)).trans ((hg253 b18 4 0 3 (qS86 _ _ (qb82 _ _ hk65)) (by decide)).trans el79)) ((hg259 b18 4 0 4 (qS86 _ _ (qb82 _ _ hk65)) (by decide)).trans ((hg253 b18 4 0 4 (qS86 _ _ (qb82 _ _ hk65)) (by decide)).trans el89)) ((hg259 b32 10 0 0 (qS86 _ _ (qb82 _ _ hk70)) (by decide)).trans ((hg253 b32 10 0 0 (qS86 _ _ (qb82 _ _ hk70)) (by decide)).trans el99)) ((hg259 b36 13 0 1 (qS86 _ _ (qb82 _ _ hs_y62)) (by decide)).trans ((hg253 b36 13 0 1 (qS86 _ _ (qb82 _ _ hs_y62)) (by decide)).trans el109)) ((hg259 b36 13 0 10 (qS86 _ _ (qb82 _ _ hs_y62)) (by decide)).trans ((hg253 b36 13 0 10 (qS86 _ _ (qb82 _ _ hs_y62)) (by decide)).trans el119)) ((hg259 b36 13 0 13 (qS86 _ _ (qb82 _ _ hs_y62)) (by decide)).trans ((hg253 b36 13 0 13 (qS86 _ _ (qb82 _ _ hs_y62)) (by decide)).trans el129)) ((hg259 b36 13 0 14 (qS86 _ _ (qb82 _ _ hs_y62)) (by decide)).trans ((hg253 b36 13 0 14 (qS86 _ _ (qb82 _ _ hs_y62)) (by decide)).trans el139)) ((hg259 b36 13 0 12 (qS86 _ _ (qb82 _ _ hs_y62)) (by decide)).trans ((hg253 b36 13 0 12 (qS86 _ _ (qb82 _ _ hs_y62)) (by decide)).trans el149)) ((hg259 b32 10 0 1 (qS86 _ _ (qb82 _ _ hk70)) (by decide)).trans ((hg253 b32 10 0 1 (qS86 _ _ (qb82 _ _ hk70)) (by decide)).trans exk9)) ((hg259 b36 13 0 2 (qS86 _ _ (qb82 _ _ hs_y62)) (by decide)).trans ((hg253 b36 13 0 2 (qS86 _ _ (qb82 _ _ hs_y62)) (by decide)).trans emk9)) ((hg259 b1 12 0 12 (qS86 _ _ (qb82 _ _ hk64)) (by decide)).trans ((hg253 b1 12 0 12 (qS86 _ _ (qb82 _ _ hk64)) (by decide)).trans ext9)) ((hg259 b36 13 0 3 (qS86 _ _ (qb82 _ _ hs_y62)) (by decide)).trans ((hg253 b36 13 0 3 (qS86 _ _ (qb82 _ _ hs_y62)) (by decide)).trans emt9)) ((hg259 b33 5 0 3 (qS86 _ _ (qb82 _ _ hk71)) (by decide)).trans ((hg253 b33 5 0 3 (qS86 _ _ (qb82 _ _ hk71)) (by decide)).trans exc9)) ((hg259 b36 13 0 69 (qS86 _ _ (qb82 _ _ hs_y62)) (by decide)).trans ((hg253 b36 13 0 69 (qS86 _ _ (qb82 _ _ hs_y62)) (by decide)).trans emc9)) ((hg259 b35 0 0 2 (qS86 _ _ (qb82 _ _ hk73)) (by decide)).trans ((hg253 b35 0 0 2 (qS86 _ _ (qb82 _ _ hk73)) (by decide)).trans exb9)) ((hg259 b36 13 0 16 (qS86 _ _ (qb82 _ _ hs_y62)) (by decide)).trans ((hg253 b36 13 0 16 (qS86 _ _ (qb82 _ _ hs_y62)) (by decide)).trans emb9)) ((hg259 b1 12 0 16 (qS86 _ _ (qb82 _ _ hk64)) (by decide)).trans ((hg253 b1 12 0 16 (qS86 _ _ (qb82 _ _ hk64)) (by decide)).trans exsh9)) ((hg259 b36 13 0 89 (qS86 _ _ (qb82 _ _ hs_y62)) (by decide)).trans ((hg253 b36 13 0 89 (qS86 _ _ (qb82 _ _ hs_y62)) (by decide)).trans emsh9)) ((hg259 b1 12 0 17 (qS86 _ _ (qb82 _ _ hk64)) (by decide)).trans ((hg253 b1 12 0 17 (qS86 _ _ (qb82 _ _ hk64)) (by decide)).trans exsp9)) ((hg259 b36 13 0 90 (qS86 _ _ (qb82 _ _ hs_y62)) (by decide)).trans ((hg253 b36 13 0 90 (qS86 _ _ (qb82 _ _ hs_y62)) (by decide)).trans emsp9)) ((hg259 b36 13 0 17 (qS86 _ _ (qb82 _ _ hs_y62)) (by decide)).trans ((hg253 b36 13 0 17 (qS86 _ _ (qb82 _ _ hs_y62)) (by decide)).trans emsm9)) wn264 (by rw [(Eq.trans (xv_m hg259 (qS86 _ _ (qb82 _ _ hk67)) (by decide) (by decide)) (xv_m hg253 (qS86 _ _ (qb82 _ _ hk67)) (by decide) (by decide))), (Eq.trans (xv_m hg259 (qS86 _ _ (qb82 _ _ hk74)) (by decide) (by decide)) (xv_m hg253 (qS86 _ _ (qb82 _ _ hk74)) (by decide) (by decide)))]; exact wt9) (by rw [(Eq.trans (xv_m hg259 (qS86 _ _ (qb82 _ _ hk68)) (by decide) (by decide)) (xv_m hg253 (qS86 _ _ (qb82 _ _ hk68)) (by decide) (by decide))), (Eq.trans (xv_m hg259 (qS86 _ _ (qb82 _ _ hk75)) (by decide) (by decide)) (xv_m hg253 (qS86 _ _ (qb82 _ _ hk75)) (by decide) (by decide)))]; exact ld9) (by rw [(Eq.trans (xv_m hg259 (qS86 _ _ (qb82 _ _ hk66)) (by decide) (by decide)) (xv_m hg253 (qS86 _ _ (qb82 _ _ hk66)) (by decide) (by decide))), (Eq.trans (xv_m hg259 (qS86 _ _ (qb82 _ _ hs_b81)) (by decide) (by decide)) (xv_m hg253 (qS86 _ _ (qb82 _ _ hs_b81)) (by decide) (by decide)))]; exact sk9) (by rw [(Eq.trans (xv_m hg259 (qS86 _ _ (qb82 _ _ hs_b79)) (by decide) (by decide)) (xv_m hg253 (qS86 _ _ (qb82 _ _ hs_b79)) (by decide) (by decide))), (Eq.trans (xv_m hg259 (qS86 _ _ (qb82 _ _ hs_b80)) (by decide) (by decide)) (xv_m hg253 (qS86 _ _ (qb82 _ _ hs_b80)) (by decide) (by decide)))]; exact xTc.mono tc9 (by omega)) dc9 ds9 (by omega) (by omega) (by omega)
        · refine X_tableIn hK 630 10 (by decide) c91 (by decide) (by decide) dL_law_40 rfl (by decide) ?_
          refine X_aloadn hK (i := 1) 3 dL_law_630 rfl rfl ?_
          refine X_aloadn hK (i := 0) 4 dL_law_631 rfl rfl ?_
          refine X_iload hK (i := 4) 0 dL_law_632 rfl ?_
          refine X_iconst hK dL_law_634 ?_
          refine X_iadd hK dL_law_635 ?_
          refine X_scr hK hX hbl hbA hL (by omega) (by omega) dL_law_636 (fun z265 ez265 lz265 uz265 => ?_)
          refine X_aloadn hK (i := 0) 4 dL_law_637 rfl rfl ?_
          refine X_iload hK (i := 4) 0 dL_law_638 rfl ?_
          refine X_iconst hK dL_law_640 ?_
          refine X_iadd hK dL_law_641 ?_
          refine X_scr hK hX hbl hbA hL (by omega) (by omega) dL_law_642 (fun z266 ez266 lz266 uz266 => ?_)
          refine X_aloadn hK (i := 0) 4 dL_law_643 rfl rfl ?_
          refine X_iload hK (i := 4) 0 dL_law_644 rfl ?_
          refine X_iconst hK dL_law_646 ?_
          refine X_iadd hK dL_law_647 ?_
          refine X_scr hK hX hbl hbA hL (by omega) (by omega) dL_law_648 (fun z267 ez267 lz267 uz267 => ?_)
          refine X_aloadn hK (i := 0) 4 dL_law_649 rfl rfl ?_
          refine X_iload hK (i := 4) 0 dL_law_650 rfl ?_
          refine X_iconst hK dL_law_652 ?_
          refine X_iadd hK dL_law_653 ?_
          refine X_scr hK hX hbl hbA hL (by omega) (by omega) dL_law_654 (fun z268 ez268 lz268 uz268 => ?_)
          refine X_callV hK [.int (iI z265), .int (iI z266), .int (iI z267), .int (iI z268)] [] lk_L_69 (c_X11_asked _ _ _ _ _ S86 g87 b1 z265 z266 z267 z268 b18 b22 b20 b21 (qS86 _ _ (qb82 _ _ hk64)) (by omega) (by omega) (by omega) (by omega) el49 (qS86 _ _ (qb82 _ _ hk65)) el89 (qS86 _ _ (qb82 _ _ hk69)) el69 (qS86 _ _ (qb82 _ _ hk67)) el79 (qS86 _ _ (qb82 _ _ hk68))) (qS86 _ _ (qb82 _ _ hk64)) ⟨by decide, rfl⟩ dL_law_655 rfl rfl (by simp [Value.category]) (by decide) (by omega) (by omega) (by decide) (fun r269 S271 g270 pr269 qr269 hg270 => ?_)
          obtain ⟨rfl, rfl, z272, rfl, lz272, uz272, k273⟩ := pr269
          refine X_st [.int (iI z272)] rfl ?_
          refine X_pop hK dL_law_658 rfl ?_
          refine X_aloadn hK (i := 2) 2 dL_law_659 rfl rfl ?_
          refine X_aloadn hK (i := 0) 4 dL_law_660 rfl rfl ?_
          refine X_iload hK (i := 4) 0 dL_law_661 rfl ?_
          refine X_iconst hK dL_law_663 ?_
          refine X_iadd hK dL_law_664 ?_
          refine X_scrK hK hX hbl hbA hL (by omega) (by omega) ez265 dL_law_665 ?_
          refine X_aloadn hK (i := 0) 4 dL_law_666 rfl rfl ?_
          refine X_iload hK (i := 4) 0 dL_law_667 rfl ?_
          refine X_iconst hK dL_law_669 ?_
          refine X_iadd hK dL_law_670 ?_
          refine X_scrK hK hX hbl hbA hL (by omega) (by omega) ez266 dL_law_671 ?_
          refine X_aloadn hK (i := 0) 4 dL_law_672 rfl rfl ?_
          refine X_iload hK (i := 4) 0 dL_law_673 rfl ?_
          refine X_iconst hK dL_law_675 ?_
          refine X_iadd hK dL_law_676 ?_
          refine X_scrK hK hX hbl hbA hL (by omega) (by omega) ez267 dL_law_677 ?_
          refine X_aloadn hK (i := 0) 4 dL_law_678 rfl rfl ?_
          refine X_iload hK (i := 4) 0 dL_law_679 rfl ?_
          refine X_iconst hK dL_law_681 ?_
          refine X_iadd hK dL_law_682 ?_
          refine X_scrK hK hX hbl hbA hL (by omega) (by omega) ez268 dL_law_683 ?_
          refine X_callV hK [.int (iI z265), .int (iI z266), .int (iI z267), .int (iI z268)] [] lk_L_73 (c_X12_asked _ _ _ _ _ S86 g87 b36 z265 z266 z267 z268 b60 b58 b59 (qS86 _ _ (qb82 _ _ hs_y62)) (by omega) (by omega) (by omega) (by omega) el149 (qS86 _ _ (qb82 _ _ hk76)) el129 (qS86 _ _ (qb82 _ _ hk74)) el139 (qS86 _ _ (qb82 _ _ hk75))) (qS86 _ _ (qb82 _ _ hs_y62)) ⟨by decide, rfl⟩ dL_law_684 rfl rfl (by simp [Value.category]) (by decide) (by omega) (by omega) (by decide) (fun r274 S276 g275 pr274 qr274 hg275 => ?_)
          obtain ⟨rfl, z277, rfl, lz277, uz277, k278⟩ := pr274
          refine X_st [.int (iI z277)] rfl ?_
          refine X_pop hK dL_law_687 rfl ?_
          refine X_goto hK 1465 dL_law_688 (by decide) ?_
          refine X_iinc hK (i := 4) (z := i9) (n := 6) 0 [(4, .int (iI (i9 + 6))), (3, .ref b82), (2, .ref b36), (1, .ref b1), (0, .ref b)] dL_law_1465 rfl (by decide) rfl ?_
          refine X_goto hK 23 dL_law_1468 (by decide) ?_
          exact ih9 S86 qS86 g275 (i9 + 6) k9 t9 c9 b9 sh9 sp9 sm9 (by omega) (by omega) (by omega) (by omega) (by omega) (by omega) (by omega) (by omega) (xLs_mod al9 hg275 (by decide)) si9 (xPi_m pi9 hg275 xLe.rf (by decide)) (xMp_m mp9 hg275 xLe.rf (by decide)) (xTw_m tw9 hg275 xLe.rf (by decide)) ((hg275 b1 12 0 0 (qS86 _ _ (qb82 _ _ hk64)) (by decide)).trans el09) ((hg275 b1 12 0 3 (qS86 _ _ (qb82 _ _ hk64)) (by decide)).trans el19) ((hg275 b1 12 0 1 (qS86 _ _ (qb82 _ _ hk64)) (by decide)).trans el29) ((hg275 b34 6 0 1 (qS86 _ _ (qb82 _ _ hk72)) (by decide)).trans el39) ((hg275 b1 12 0 2 (qS86 _ _ (qb82 _ _ hk64)) (by decide)).trans el49) ((hg275 b18 4 0 0 (qS86 _ _ (qb82 _ _ hk65)) (by decide)).trans el59) ((hg275 b18 4 0 2 (qS86 _ _ (qb82 _ _ hk65)) (by decide)).trans el69) ((hg275 b18 4 0 3 (qS86 _ _ (qb82 _ _ hk65)) (by decide)).trans el79) ((hg275 b18 4 0 4 (qS86 _ _ (qb82 _ _ hk65)) (by decide)).trans el89) ((hg275 b32 10 0 0 (qS86 _ _ (qb82 _ _ hk70)) (by decide)).trans el99) ((hg275 b36 13 0 1 (qS86 _ _ (qb82 _ _ hs_y62)) (by decide)).trans el109) ((hg275 b36 13 0 10 (qS86 _ _ (qb82 _ _ hs_y62)) (by decide)).trans el119) ((hg275 b36 13 0 13 (qS86 _ _ (qb82 _ _ hs_y62)) (by decide)).trans el129) ((hg275 b36 13 0 14 (qS86 _ _ (qb82 _ _ hs_y62)) (by decide)).trans el139) ((hg275 b36 13 0 12 (qS86 _ _ (qb82 _ _ hs_y62)) (by decide)).trans el149) ((hg275 b32 10 0 1 (qS86 _ _ (qb82 _ _ hk70)) (by decide)).trans exk9) ((hg275 b36 13 0 2 (qS86 _ _ (qb82 _ _ hs_y62)) (by decide)).trans emk9) ((hg275 b1 12 0 12 (qS86 _ _ (qb82 _ _ hk64)) (by decide)).trans ext9) ((hg275 b36 13 0 3 (qS86 _ _ (qb82 _ _ hs_y62)) (by decide)).trans emt9) ((hg275 b33 5 0 3 (qS86 _ _ (qb82 _ _ hk71)) (by decide)).trans exc9) ((hg275 b36 13 0 69 (qS86 _ _ (qb82 _ _ hs_y62)) (by decide)).trans emc9) ((hg275 b35 0 0 2 (qS86 _ _ (qb82 _ _ hk73)) (by decide)).trans exb9) ((hg275 b36 13 0 16 (qS86 _ _ (qb82 _ _ hs_y62)) (by decide)).trans emb9) ((hg275 b1 12 0 16 (qS86 _ _ (qb82 _ _ hk64)) (by decide)).trans exsh9) ((hg275 b36 13 0 89 (qS86 _ _ (qb82 _ _ hs_y62)) (by decide)).trans emsh9) ((hg275 b1 12 0 17 (qS86 _ _ (qb82 _ _ hk64)) (by decide)).trans exsp9) ((hg275 b36 13 0 90 (qS86 _ _ (qb82 _ _ hs_y62)) (by decide)).trans emsp9) ((hg275 b36 13 0 17 (qS86 _ _ (qb82 _ _ hs_y62)) (by decide)).trans emsm9) (xWn.m wn9 (qS86 _ _ (qb82 _ _ hk69)) (qS86 _ _ (qb82 _ _ hk76)) hg275 xLe.rf (by decide)) (by rw [(xv_m hg275 (qS86 _ _ (qb82 _ _ hk67)) (by decide) (by decide)), (xv_m hg275 (qS86 _ _ (qb82 _ _ hk74)) (by decide) (by decide))]; exact wt9) (by rw [(xv_m hg275 (qS86 _ _ (qb82 _ _ hk68)) (by decide) (by decide)), (xv_m hg275 (qS86 _ _ (qb82 _ _ hk75)) (by decide) (by decide))]; exact ld9) (by rw [(xv_m hg275 (qS86 _ _ (qb82 _ _ hk66)) (by decide) (by decide)), (xv_m hg275 (qS86 _ _ (qb82 _ _ hs_b81)) (by decide) (by decide))]; exact sk9) (by rw [(xv_m hg275 (qS86 _ _ (qb82 _ _ hs_b79)) (by decide) (by decide)), (xv_m hg275 (qS86 _ _ (qb82 _ _ hs_b80)) (by decide) (by decide))]; exact xTc.mono tc9 (by omega)) dc9 ds9 (by omega) (by omega) (by omega)
        · refine X_tableIn hK 691 11 (by decide) c91 (by decide) (by decide) dL_law_40 rfl (by decide) ?_
          refine X_aloadn hK (i := 1) 3 dL_law_691 rfl rfl ?_
          refine X_aloadn hK (i := 0) 4 dL_law_692 rfl rfl ?_
          refine X_iload hK (i := 4) 0 dL_law_693 rfl ?_
          refine X_iconst hK dL_law_695 ?_
          refine X_iadd hK dL_law_696 ?_
          refine X_scr hK hX hbl hbA hL (by omega) (by omega) dL_law_697 (fun z279 ez279 lz279 uz279 => ?_)
          refine X_aloadn hK (i := 0) 4 dL_law_698 rfl rfl ?_
          refine X_iload hK (i := 4) 0 dL_law_699 rfl ?_
          refine X_iconst hK dL_law_701 ?_
          refine X_iadd hK dL_law_702 ?_
          refine X_scr hK hX hbl hbA hL (by omega) (by omega) dL_law_703 (fun z280 ez280 lz280 uz280 => ?_)
          refine X_aloadn hK (i := 0) 4 dL_law_704 rfl rfl ?_
          refine X_iload hK (i := 4) 0 dL_law_705 rfl ?_
          refine X_iconst hK dL_law_707 ?_
          refine X_iadd hK dL_law_708 ?_
          refine X_scr hK hX hbl hbA hL (by omega) (by omega) dL_law_709 (fun z281 ez281 lz281 uz281 => ?_)
          refine X_callV hK [.int (iI z279), .int (iI z280), .int (iI z281)] [] lk_L_74 (c_X11_minutes _ _ _ _ _ S86 g87 b1 z279 z280 z281 (qS86 _ _ (qb82 _ _ hk64)) (by omega) (by omega) (by omega)) (qS86 _ _ (qb82 _ _ hk64)) ⟨by decide, rfl⟩ dL_law_710 rfl rfl (by simp [Value.category]) (by decide) (by omega) (by omega) (by decide) (fun r282 S284 g283 pr282 qr282 hg283 => ?_)
          obtain ⟨rfl, z285, rfl, lz285, uz285, k286⟩ := pr282
          refine X_st [.int (iI z285)] rfl ?_
          refine X_pop hK dL_law_713 rfl ?_
          refine X_aloadn hK (i := 2) 2 dL_law_714 rfl rfl ?_
          refine X_aloadn hK (i := 0) 4 dL_law_715 rfl rfl ?_
          refine X_iload hK (i := 4) 0 dL_law_716 rfl ?_
          refine X_iconst hK dL_law_718 ?_
          refine X_iadd hK dL_law_719 ?_
          refine X_scrK hK hX hbl hbA hL (by omega) (by omega) ez279 dL_law_720 ?_
          refine X_aloadn hK (i := 0) 4 dL_law_721 rfl rfl ?_
          refine X_iload hK (i := 4) 0 dL_law_722 rfl ?_
          refine X_iconst hK dL_law_724 ?_
          refine X_iadd hK dL_law_725 ?_
          refine X_scrK hK hX hbl hbA hL (by omega) (by omega) ez280 dL_law_726 ?_
          refine X_aloadn hK (i := 0) 4 dL_law_727 rfl rfl ?_
          refine X_iload hK (i := 4) 0 dL_law_728 rfl ?_
          refine X_iconst hK dL_law_730 ?_
          refine X_iadd hK dL_law_731 ?_
          refine X_scrK hK hX hbl hbA hL (by omega) (by omega) ez281 dL_law_732 ?_
          refine X_callV hK [.int (iI z279), .int (iI z280), .int (iI z281)] [] lk_L_77 (c_X12_minutes _ _ _ _ _ S86 g283 b36 z279 z280 z281 (qS86 _ _ (qb82 _ _ hs_y62)) (by omega) (by omega) (by omega)) (qS86 _ _ (qb82 _ _ hs_y62)) ⟨by decide, rfl⟩ dL_law_733 rfl rfl (by simp [Value.category]) (by decide) (by omega) (by omega) (by decide) (fun r287 S289 g288 pr287 qr287 hg288 => ?_)
          obtain ⟨rfl, z290, rfl, lz290, uz290, k291⟩ := pr287
          refine X_st [.int (iI z290)] rfl ?_
          refine X_pop hK dL_law_736 rfl ?_
          refine X_goto hK 1465 dL_law_737 (by decide) ?_
          refine X_iinc hK (i := 4) (z := i9) (n := 6) 0 [(4, .int (iI (i9 + 6))), (3, .ref b82), (2, .ref b36), (1, .ref b1), (0, .ref b)] dL_law_1465 rfl (by decide) rfl ?_
          refine X_goto hK 23 dL_law_1468 (by decide) ?_
          exact ih9 S86 qS86 g288 (i9 + 6) k9 t9 c9 b9 sh9 sp9 sm9 (by omega) (by omega) (by omega) (by omega) (by omega) (by omega) (by omega) (by omega) (xLs_mod (xLs_mod al9 hg283 (by decide)) hg288 (by decide)) si9 (xPi_m (xPi_m pi9 hg283 xLe.rf (by decide)) hg288 xLe.rf (by decide)) (xMp_m (xMp_m mp9 hg283 xLe.rf (by decide)) hg288 xLe.rf (by decide)) (xTw_m (xTw_m tw9 hg283 xLe.rf (by decide)) hg288 xLe.rf (by decide)) ((hg288 b1 12 0 0 (qS86 _ _ (qb82 _ _ hk64)) (by decide)).trans ((hg283 b1 12 0 0 (qS86 _ _ (qb82 _ _ hk64)) (by decide)).trans el09)) ((hg288 b1 12 0 3 (qS86 _ _ (qb82 _ _ hk64)) (by decide)).trans ((hg283 b1 12 0 3 (qS86 _ _ (qb82 _ _ hk64)) (by decide)).trans el19)) ((hg288 b1 12 0 1 (qS86 _ _ (qb82 _ _ hk64)) (by decide)).trans ((hg283 b1 12 0 1 (qS86 _ _ (qb82 _ _ hk64)) (by decide)).trans el29)) ((hg288 b34 6 0 1 (qS86 _ _ (qb82 _ _ hk72)) (by decide)).trans ((hg283 b34 6 0 1 (qS86 _ _ (qb82 _ _ hk72)) (by decide)).trans el39)) ((hg288 b1 12 0 2 (qS86 _ _ (qb82 _ _ hk64)) (by decide)).trans ((hg283 b1 12 0 2 (qS86 _ _ (qb82 _ _ hk64)) (by decide)).trans el49)) ((hg288 b18 4 0 0 (qS86 _ _ (qb82 _ _ hk65)) (by decide)).trans ((hg283 b18 4 0 0 (qS86 _ _ (qb82 _ _ hk65)) (by decide)).trans el59)) ((hg288 b18 4 0 2 (qS86 _ _ (qb82 _ _ hk65)) (by decide)).trans ((hg283 b18 4 0 2 (qS86 _ _ (qb82 _ _ hk65)) (by decide)).trans el69)) ((hg288 b18 4 0 3 (qS86 _ _ (qb82 _ _ hk65)) (by decide)).trans ((hg283 b18 4 0 3 (qS86 _ _ (qb82 _ _ hk65)) (by decide)).trans el79)) ((hg288 b18 4 0 4 (qS86 _ _ (qb82 _ _ hk65)) (by decide)).trans ((hg283 b18 4 0 4 (qS86 _ _ (qb82 _ _ hk65)) (by decide)).trans el89)) ((hg288 b32 10 0 0 (qS86 _ _ (qb82 _ _ hk70)) (by decide)).trans ((hg283 b32 10 0 0 (qS86 _ _ (qb82 _ _ hk70)) (by decide)).trans el99)) ((hg288 b36 13 0 1 (qS86 _ _ (qb82 _ _ hs_y62)) (by decide)).trans ((hg283 b36 13 0 1 (qS86 _ _ (qb82 _ _ hs_y62)) (by decide)).trans el109)) ((hg288 b36 13 0 10 (qS86 _ _ (qb82 _ _ hs_y62)) (by decide)).trans ((hg283 b36 13 0 10 (qS86 _ _ (qb82 _ _ hs_y62)) (by decide)).trans el119)) ((hg288 b36 13 0 13 (qS86 _ _ (qb82 _ _ hs_y62)) (by decide)).trans ((hg283 b36 13 0 13 (qS86 _ _ (qb82 _ _ hs_y62)) (by decide)).trans el129)) ((hg288 b36 13 0 14 (qS86 _ _ (qb82 _ _ hs_y62)) (by decide)).trans ((hg283 b36 13 0 14 (qS86 _ _ (qb82 _ _ hs_y62)) (by decide)).trans el139)) ((hg288 b36 13 0 12 (qS86 _ _ (qb82 _ _ hs_y62)) (by decide)).trans ((hg283 b36 13 0 12 (qS86 _ _ (qb82 _ _ hs_y62)) (by decide)).trans el149)) ((hg288 b32 10 0 1 (qS86 _ _ (qb82 _ _ hk70)) (by decide)).trans ((hg283 b32 10 0 1 (qS86 _ _ (qb82 _ _ hk70)) (by decide)).trans exk9)) ((hg288 b36 13 0 2 (qS86 _ _ (qb82 _ _ hs_y62)) (by decide)).trans ((hg283 b36 13 0 2 (qS86 _ _ (qb82 _ _ hs_y62)) (by decide)).trans emk9)) ((hg288 b1 12 0 12 (qS86 _ _ (qb82 _ _ hk64)) (by decide)).trans ((hg283 b1 12 0 12 (qS86 _ _ (qb82 _ _ hk64)) (by decide)).trans ext9)) ((hg288 b36 13 0 3 (qS86 _ _ (qb82 _ _ hs_y62)) (by decide)).trans ((hg283 b36 13 0 3 (qS86 _ _ (qb82 _ _ hs_y62)) (by decide)).trans emt9)) ((hg288 b33 5 0 3 (qS86 _ _ (qb82 _ _ hk71)) (by decide)).trans ((hg283 b33 5 0 3 (qS86 _ _ (qb82 _ _ hk71)) (by decide)).trans exc9)) ((hg288 b36 13 0 69 (qS86 _ _ (qb82 _ _ hs_y62)) (by decide)).trans ((hg283 b36 13 0 69 (qS86 _ _ (qb82 _ _ hs_y62)) (by decide)).trans emc9)) ((hg288 b35 0 0 2 (qS86 _ _ (qb82 _ _ hk73)) (by decide)).trans ((hg283 b35 0 0 2 (qS86 _ _ (qb82 _ _ hk73)) (by decide)).trans exb9)) ((hg288 b36 13 0 16 (qS86 _ _ (qb82 _ _ hs_y62)) (by decide)).trans ((hg283 b36 13 0 16 (qS86 _ _ (qb82 _ _ hs_y62)) (by decide)).trans emb9)) ((hg288 b1 12 0 16 (qS86 _ _ (qb82 _ _ hk64)) (by decide)).trans ((hg283 b1 12 0 16 (qS86 _ _ (qb82 _ _ hk64)) (by decide)).trans exsh9)) ((hg288 b36 13 0 89 (qS86 _ _ (qb82 _ _ hs_y62)) (by decide)).trans ((hg283 b36 13 0 89 (qS86 _ _ (qb82 _ _ hs_y62)) (by decide)).trans emsh9)) ((hg288 b1 12 0 17 (qS86 _ _ (qb82 _ _ hk64)) (by decide)).trans ((hg283 b1 12 0 17 (qS86 _ _ (qb82 _ _ hk64)) (by decide)).trans exsp9)) ((hg288 b36 13 0 90 (qS86 _ _ (qb82 _ _ hs_y62)) (by decide)).trans ((hg283 b36 13 0 90 (qS86 _ _ (qb82 _ _ hs_y62)) (by decide)).trans emsp9)) ((hg288 b36 13 0 17 (qS86 _ _ (qb82 _ _ hs_y62)) (by decide)).trans ((hg283 b36 13 0 17 (qS86 _ _ (qb82 _ _ hs_y62)) (by decide)).trans emsm9)) (xWn.m (xWn.m wn9 (qS86 _ _ (qb82 _ _ hk69)) (qS86 _ _ (qb82 _ _ hk76)) hg283 xLe.rf (by decide)) (qS86 _ _ (qb82 _ _ hk69)) (qS86 _ _ (qb82 _ _ hk76)) hg288 xLe.rf (by decide)) (by rw [(Eq.trans (xv_m hg288 (qS86 _ _ (qb82 _ _ hk67)) (by decide) (by decide)) (xv_m hg283 (qS86 _ _ (qb82 _ _ hk67)) (by decide) (by decide))), (Eq.trans (xv_m hg288 (qS86 _ _ (qb82 _ _ hk74)) (by decide) (by decide)) (xv_m hg283 (qS86 _ _ (qb82 _ _ hk74)) (by decide) (by decide)))]; exact wt9) (by rw [(Eq.trans (xv_m hg288 (qS86 _ _ (qb82 _ _ hk68)) (by decide) (by decide)) (xv_m hg283 (qS86 _ _ (qb82 _ _ hk68)) (by decide) (by decide))), (Eq.trans (xv_m hg288 (qS86 _ _ (qb82 _ _ hk75)) (by decide) (by decide)) (xv_m hg283 (qS86 _ _ (qb82 _ _ hk75)) (by decide) (by decide)))]; exact ld9) (by rw [(Eq.trans (xv_m hg288 (qS86 _ _ (qb82 _ _ hk66)) (by decide) (by decide)) (xv_m hg283 (qS86 _ _ (qb82 _ _ hk66)) (by decide) (by decide))), (Eq.trans (xv_m hg288 (qS86 _ _ (qb82 _ _ hs_b81)) (by decide) (by decide)) (xv_m hg283 (qS86 _ _ (qb82 _ _ hs_b81)) (by decide) (by decide)))]; exact sk9) (by rw [(Eq.trans (xv_m hg288 (qS86 _ _ (qb82 _ _ hs_b79)) (by decide) (by decide)) (xv_m hg283 (qS86 _ _ (qb82 _ _ hs_b79)) (by decide) (by decide))), (Eq.trans (xv_m hg288 (qS86 _ _ (qb82 _ _ hs_b80)) (by decide) (by decide)) (xv_m hg283 (qS86 _ _ (qb82 _ _ hs_b80)) (by decide) (by decide)))]; exact xTc.mono tc9 (by omega)) dc9 ds9 (by omega) (by omega) (by omega)
        · refine X_tableIn hK 740 12 (by decide) c91 (by decide) (by decide) dL_law_40 rfl (by decide) ?_
          refine X_aloadn hK (i := 1) 3 dL_law_740 rfl rfl ?_
          refine X_aloadn hK (i := 0) 4 dL_law_741 rfl rfl ?_
          refine X_iload hK (i := 4) 0 dL_law_742 rfl ?_
          refine X_iconst hK dL_law_744 ?_
          refine X_iadd hK dL_law_745 ?_
          refine X_scr hK hX hbl hbA hL (by omega) (by omega) dL_law_746 (fun z292 ez292 lz292 uz292 => ?_)
          refine X_callVU hK [.int (iI z292)] [] lk_L_78 (c_X11_terms _ _ _ _ _ S86 g87 b1 z292 b32 k9 (qS86 _ _ (qb82 _ _ hk64)) (by omega) el09 (qS86 _ _ (qb82 _ _ hk70)) (by omega) exk9 al9 si9) (qS86 _ _ (qb82 _ _ hk64)) ⟨by decide, rfl⟩ dL_law_747 rfl rfl (by simp [Value.category]) (by decide) (by omega) (by omega) (by decide) (fun r293 S295 g294 dcr293 dsr293 pr293 qr293 hg294 => ?_)
          obtain ⟨wr293, z296, rfl, lz296, uz296, k297, k298, k299, k300⟩ := pr293
          refine X_st [.int (iI z296)] rfl ?_
          refine X_pop hK dL_law_750 rfl ?_
          refine X_aloadn hK (i := 2) 2 dL_law_751 rfl rfl ?_
          refine X_aloadn hK (i := 0) 4 dL_law_752 rfl rfl ?_
          refine X_iload hK (i := 4) 0 dL_law_753 rfl ?_
          refine X_iconst hK dL_law_755 ?_
          refine X_iadd hK dL_law_756 ?_
          refine X_scrK hK hX hbl hbA hL (by omega) (by omega) ez292 dL_law_757 ?_
          refine X_callV hK [.int (iI z292)] [] lk_L_81 (c_X12_terms _ _ _ _ _ S295 g294 b36 z292 k9 (qr293 _ _ (qS86 _ _ (qb82 _ _ hs_y62))) (by omega) (by omega) ((hg294 b36 13 0 2 (qS86 _ _ (qb82 _ _ hs_y62)) (by decide)).trans emk9) (xTw_m tw9 hg294 qr293 (by decide))) (qr293 _ _ (qS86 _ _ (qb82 _ _ hs_y62))) ⟨by decide, rfl⟩ dL_law_758 rfl rfl (by simp [Value.category]) (by decide) (by omega) (by omega) (by decide) (fun r301 S303 g302 pr301 qr301 hg302 => ?_)
          obtain ⟨rfl, z304, rfl, lz304, uz304, k305, k306⟩ := pr301
          refine X_st [.int (iI z304)] rfl ?_
          refine X_pop hK dL_law_761 rfl ?_
          refine X_goto hK 1465 dL_law_762 (by decide) ?_
          refine X_iinc hK (i := 4) (z := i9) (n := 6) 0 [(4, .int (iI (i9 + 6))), (3, .ref b82), (2, .ref b36), (1, .ref b1), (0, .ref b)] dL_law_1465 rfl (by decide) rfl ?_
          refine X_goto hK 23 dL_law_1468 (by decide) ?_
          exact ih9 S295 (xLe.tr qS86 qr293) g302 (i9 + 6) (0) t9 c9 b9 sh9 sp9 sm9 (by omega) (by omega) (by omega) (by omega) (by omega) (by omega) (by omega) (by omega) (xLs_mod k297 hg302 (by decide)) k298 (xPi_m (xPi_m pi9 hg294 qr293 (by decide)) hg302 xLe.rf (by decide)) (xMp_m (xMp_m mp9 hg294 qr293 (by decide)) hg302 xLe.rf (by decide)) k306 ((hg302 b1 12 0 0 (qr293 _ _ (qS86 _ _ (qb82 _ _ hk64))) (by decide)).trans ((hg294 b1 12 0 0 (qS86 _ _ (qb82 _ _ hk64)) (by decide)).trans el09)) ((hg302 b1 12 0 3 (qr293 _ _ (qS86 _ _ (qb82 _ _ hk64))) (by decide)).trans ((hg294 b1 12 0 3 (qS86 _ _ (qb82 _ _ hk64)) (by decide)).trans el19)) ((hg302 b1 12 0 1 (qr293 _ _ (qS86 _ _ (qb82 _ _ hk64))) (by decide)).trans ((hg294 b1 12 0 1 (qS86 _ _ (qb82 _ _ hk64)) (by decide)).trans el29)) ((hg302 b34 6 0 1 (qr293 _ _ (qS86 _ _ (qb82 _ _ hk72))) (by decide)).trans ((hg294 b34 6 0 1 (qS86 _ _ (qb82 _ _ hk72)) (by decide)).trans el39)) ((hg302 b1 12 0 2 (qr293 _ _ (qS86 _ _ (qb82 _ _ hk64))) (by decide)).trans ((hg294 b1 12 0 2 (qS86 _ _ (qb82 _ _ hk64)) (by decide)).trans el49)) ((hg302 b18 4 0 0 (qr293 _ _ (qS86 _ _ (qb82 _ _ hk65))) (by decide)).trans ((hg294 b18 4 0 0 (qS86 _ _ (qb82 _ _ hk65)) (by decide)).trans el59)) ((hg302 b18 4 0 2 (qr293 _ _ (qS86 _ _ (qb82 _ _ hk65))) (by decide)).trans ((hg294 b18 4 0 2 (qS86 _ _ (qb82 _ _ hk65)) (by decide)).trans el69)) ((hg302 b18 4 0 3 (qr293 _ _ (qS86 _ _ (qb82 _ _ hk65))) (by decide)).trans ((hg294 b18 4 0 3 (qS86 _ _ (qb82 _ _ hk65)) (by decide)).trans el79)) ((hg302 b18 4 0 4 (qr293 _ _ (qS86 _ _ (qb82 _ _ hk65))) (by decide)).trans ((hg294 b18 4 0 4 (qS86 _ _ (qb82 _ _ hk65)) (by decide)).trans el89)) ((hg302 b32 10 0 0 (qr293 _ _ (qS86 _ _ (qb82 _ _ hk70))) (by decide)).trans ((hg294 b32 10 0 0 (qS86 _ _ (qb82 _ _ hk70)) (by decide)).trans el99)) ((hg302 b36 13 0 1 (qr293 _ _ (qS86 _ _ (qb82 _ _ hs_y62))) (by decide)).trans ((hg294 b36 13 0 1 (qS86 _ _ (qb82 _ _ hs_y62)) (by decide)).trans el109)) ((hg302 b36 13 0 10 (qr293 _ _ (qS86 _ _ (qb82 _ _ hs_y62))) (by decide)).trans ((hg294 b36 13 0 10 (qS86 _ _ (qb82 _ _ hs_y62)) (by decide)).trans el119)) ((hg302 b36 13 0 13 (qr293 _ _ (qS86 _ _ (qb82 _ _ hs_y62))) (by decide)).trans ((hg294 b36 13 0 13 (qS86 _ _ (qb82 _ _ hs_y62)) (by decide)).trans el129)) ((hg302 b36 13 0 14 (qr293 _ _ (qS86 _ _ (qb82 _ _ hs_y62))) (by decide)).trans ((hg294 b36 13 0 14 (qS86 _ _ (qb82 _ _ hs_y62)) (by decide)).trans el139)) ((hg302 b36 13 0 12 (qr293 _ _ (qS86 _ _ (qb82 _ _ hs_y62))) (by decide)).trans ((hg294 b36 13 0 12 (qS86 _ _ (qb82 _ _ hs_y62)) (by decide)).trans el149)) ((hg302 b32 10 0 1 (qr293 _ _ (qS86 _ _ (qb82 _ _ hk70))) (by decide)).trans k300) k305 ((hg302 b1 12 0 12 (qr293 _ _ (qS86 _ _ (qb82 _ _ hk64))) (by decide)).trans ((hg294 b1 12 0 12 (qS86 _ _ (qb82 _ _ hk64)) (by decide)).trans ext9)) ((hg302 b36 13 0 3 (qr293 _ _ (qS86 _ _ (qb82 _ _ hs_y62))) (by decide)).trans ((hg294 b36 13 0 3 (qS86 _ _ (qb82 _ _ hs_y62)) (by decide)).trans emt9)) ((hg302 b33 5 0 3 (qr293 _ _ (qS86 _ _ (qb82 _ _ hk71))) (by decide)).trans ((hg294 b33 5 0 3 (qS86 _ _ (qb82 _ _ hk71)) (by decide)).trans exc9)) ((hg302 b36 13 0 69 (qr293 _ _ (qS86 _ _ (qb82 _ _ hs_y62))) (by decide)).trans ((hg294 b36 13 0 69 (qS86 _ _ (qb82 _ _ hs_y62)) (by decide)).trans emc9)) ((hg302 b35 0 0 2 (qr293 _ _ (qS86 _ _ (qb82 _ _ hk73))) (by decide)).trans ((hg294 b35 0 0 2 (qS86 _ _ (qb82 _ _ hk73)) (by decide)).trans exb9)) ((hg302 b36 13 0 16 (qr293 _ _ (qS86 _ _ (qb82 _ _ hs_y62))) (by decide)).trans ((hg294 b36 13 0 16 (qS86 _ _ (qb82 _ _ hs_y62)) (by decide)).trans emb9)) ((hg302 b1 12 0 16 (qr293 _ _ (qS86 _ _ (qb82 _ _ hk64))) (by decide)).trans ((hg294 b1 12 0 16 (qS86 _ _ (qb82 _ _ hk64)) (by decide)).trans exsh9)) ((hg302 b36 13 0 89 (qr293 _ _ (qS86 _ _ (qb82 _ _ hs_y62))) (by decide)).trans ((hg294 b36 13 0 89 (qS86 _ _ (qb82 _ _ hs_y62)) (by decide)).trans emsh9)) ((hg302 b1 12 0 17 (qr293 _ _ (qS86 _ _ (qb82 _ _ hk64))) (by decide)).trans ((hg294 b1 12 0 17 (qS86 _ _ (qb82 _ _ hk64)) (by decide)).trans exsp9)) ((hg302 b36 13 0 90 (qr293 _ _ (qS86 _ _ (qb82 _ _ hs_y62))) (by decide)).trans ((hg294 b36 13 0 90 (qS86 _ _ (qb82 _ _ hs_y62)) (by decide)).trans emsp9)) ((hg302 b36 13 0 17 (qr293 _ _ (qS86 _ _ (qb82 _ _ hs_y62))) (by decide)).trans ((hg294 b36 13 0 17 (qS86 _ _ (qb82 _ _ hs_y62)) (by decide)).trans emsm9)) (xWn.m (xWn.m wn9 (qS86 _ _ (qb82 _ _ hk69)) (qS86 _ _ (qb82 _ _ hk76)) hg294 qr293 (by decide)) (qr293 _ _ (qS86 _ _ (qb82 _ _ hk69))) (qr293 _ _ (qS86 _ _ (qb82 _ _ hk76))) hg302 xLe.rf (by decide)) (by rw [(Eq.trans (xv_m hg302 (qr293 _ _ (qS86 _ _ (qb82 _ _ hk67))) (by decide) (by decide)) (xv_m hg294 (qS86 _ _ (qb82 _ _ hk67)) (by decide) (by decide))), (Eq.trans (xv_m hg302 (qr293 _ _ (qS86 _ _ (qb82 _ _ hk74))) (by decide) (by decide)) (xv_m hg294 (qS86 _ _ (qb82 _ _ hk74)) (by decide) (by decide)))]; exact wt9) (by rw [(Eq.trans (xv_m hg302 (qr293 _ _ (qS86 _ _ (qb82 _ _ hk68))) (by decide) (by decide)) (xv_m hg294 (qS86 _ _ (qb82 _ _ hk68)) (by decide) (by decide))), (Eq.trans (xv_m hg302 (qr293 _ _ (qS86 _ _ (qb82 _ _ hk75))) (by decide) (by decide)) (xv_m hg294 (qS86 _ _ (qb82 _ _ hk75)) (by decide) (by decide)))]; exact ld9) (by rw [(Eq.trans (xv_m hg302 (qr293 _ _ (qS86 _ _ (qb82 _ _ hk66))) (by decide) (by decide)) (xv_m hg294 (qS86 _ _ (qb82 _ _ hk66)) (by decide) (by decide))), (Eq.trans (xv_m hg302 (qr293 _ _ (qS86 _ _ (qb82 _ _ hs_b81))) (by decide) (by decide)) (xv_m hg294 (qS86 _ _ (qb82 _ _ hs_b81)) (by decide) (by decide)))]; exact sk9) (by rw [(Eq.trans (xv_m hg302 (qr293 _ _ (qS86 _ _ (qb82 _ _ hs_b79))) (by decide) (by decide)) (xv_m hg294 (qS86 _ _ (qb82 _ _ hs_b79)) (by decide) (by decide))), (Eq.trans (xv_m hg302 (qr293 _ _ (qS86 _ _ (qb82 _ _ hs_b80))) (by decide) (by decide)) (xv_m hg294 (qS86 _ _ (qb82 _ _ hs_b80)) (by decide) (by decide)))]; exact xTc.mono tc9 (by omega)) (dc9 + dcr293) (ds9 + dsr293) (by omega) (by omega) (by omega)
        · refine X_tableIn hK 765 13 (by decide) c91 (by decide) (by decide) dL_law_40 rfl (by decide) ?_
          refine X_aloadn hK (i := 1) 3 dL_law_765 rfl rfl ?_
          refine X_callV hK [] [] lk_L_82 (c_X11_fault _ _ _ _ _ S86 g87 b1 (qS86 _ _ (qb82 _ _ hk64))) (qS86 _ _ (qb82 _ _ hk64)) ⟨by decide, rfl⟩ dL_law_766 rfl rfl (by simp [Value.category]) (by decide) (by omega) (by omega) (by decide) (fun r307 S309 g308 pr307 qr307 hg308 => ?_)
          obtain ⟨rfl, rfl, z310, rfl, lz310, uz310⟩ := pr307
          refine X_st [.int (iI z310)] rfl ?_
          refine X_pop hK dL_law_769 rfl ?_
          refine X_aloadn hK (i := 2) 2 dL_law_770 rfl rfl ?_
          refine X_callV hK [] [] lk_L_86 (c_X12_fault _ _ _ _ _ S86 g87 b36 (qS86 _ _ (qb82 _ _ hs_y62))) (qS86 _ _ (qb82 _ _ hs_y62)) ⟨by decide, rfl⟩ dL_law_771 rfl rfl (by simp [Value.category]) (by decide) (by omega) (by omega) (by decide) (fun r311 S313 g312 pr311 qr311 hg312 => ?_)
          obtain ⟨rfl, z314, rfl, lz314, uz314⟩ := pr311
          refine X_st [.int (iI z314)] rfl ?_
          refine X_pop hK dL_law_774 rfl ?_
          refine X_goto hK 1465 dL_law_775 (by decide) ?_
          refine X_iinc hK (i := 4) (z := i9) (n := 6) 0 [(4, .int (iI (i9 + 6))), (3, .ref b82), (2, .ref b36), (1, .ref b1), (0, .ref b)] dL_law_1465 rfl (by decide) rfl ?_
          refine X_goto hK 23 dL_law_1468 (by decide) ?_
          exact ih9 S86 qS86 g312 (i9 + 6) k9 t9 c9 b9 sh9 sp9 sm9 (by omega) (by omega) (by omega) (by omega) (by omega) (by omega) (by omega) (by omega) (xLs_mod al9 hg312 (by decide)) si9 (xPi_m pi9 hg312 xLe.rf (by decide)) (xMp_m mp9 hg312 xLe.rf (by decide)) (xTw_m tw9 hg312 xLe.rf (by decide)) ((hg312 b1 12 0 0 (qS86 _ _ (qb82 _ _ hk64)) (by decide)).trans el09) ((hg312 b1 12 0 3 (qS86 _ _ (qb82 _ _ hk64)) (by decide)).trans el19) ((hg312 b1 12 0 1 (qS86 _ _ (qb82 _ _ hk64)) (by decide)).trans el29) ((hg312 b34 6 0 1 (qS86 _ _ (qb82 _ _ hk72)) (by decide)).trans el39) ((hg312 b1 12 0 2 (qS86 _ _ (qb82 _ _ hk64)) (by decide)).trans el49) ((hg312 b18 4 0 0 (qS86 _ _ (qb82 _ _ hk65)) (by decide)).trans el59) ((hg312 b18 4 0 2 (qS86 _ _ (qb82 _ _ hk65)) (by decide)).trans el69) ((hg312 b18 4 0 3 (qS86 _ _ (qb82 _ _ hk65)) (by decide)).trans el79) ((hg312 b18 4 0 4 (qS86 _ _ (qb82 _ _ hk65)) (by decide)).trans el89) ((hg312 b32 10 0 0 (qS86 _ _ (qb82 _ _ hk70)) (by decide)).trans el99) ((hg312 b36 13 0 1 (qS86 _ _ (qb82 _ _ hs_y62)) (by decide)).trans el109) ((hg312 b36 13 0 10 (qS86 _ _ (qb82 _ _ hs_y62)) (by decide)).trans el119) ((hg312 b36 13 0 13 (qS86 _ _ (qb82 _ _ hs_y62)) (by decide)).trans el129) ((hg312 b36 13 0 14 (qS86 _ _ (qb82 _ _ hs_y62)) (by decide)).trans el139) ((hg312 b36 13 0 12 (qS86 _ _ (qb82 _ _ hs_y62)) (by decide)).trans el149) ((hg312 b32 10 0 1 (qS86 _ _ (qb82 _ _ hk70)) (by decide)).trans exk9) ((hg312 b36 13 0 2 (qS86 _ _ (qb82 _ _ hs_y62)) (by decide)).trans emk9) ((hg312 b1 12 0 12 (qS86 _ _ (qb82 _ _ hk64)) (by decide)).trans ext9) ((hg312 b36 13 0 3 (qS86 _ _ (qb82 _ _ hs_y62)) (by decide)).trans emt9) ((hg312 b33 5 0 3 (qS86 _ _ (qb82 _ _ hk71)) (by decide)).trans exc9) ((hg312 b36 13 0 69 (qS86 _ _ (qb82 _ _ hs_y62)) (by decide)).trans emc9) ((hg312 b35 0 0 2 (qS86 _ _ (qb82 _ _ hk73)) (by decide)).trans exb9) ((hg312 b36 13 0 16 (qS86 _ _ (qb82 _ _ hs_y62)) (by decide)).trans emb9) ((hg312 b1 12 0 16 (qS86 _ _ (qb82 _ _ hk64)) (by decide)).trans exsh9) ((hg312 b36 13 0 89 (qS86 _ _ (qb82 _ _ hs_y62)) (by decide)).trans emsh9) ((hg312 b1 12 0 17 (qS86 _ _ (qb82 _ _ hk64)) (by decide)).trans exsp9) ((hg312 b36 13 0 90 (qS86 _ _ (qb82 _ _ hs_y62)) (by decide)).trans emsp9) ((hg312 b36 13 0 17 (qS86 _ _ (qb82 _ _ hs_y62)) (by decide)).trans emsm9) (xWn.m wn9 (qS86 _ _ (qb82 _ _ hk69)) (qS86 _ _ (qb82 _ _ hk76)) hg312 xLe.rf (by decide)) (by rw [(xv_m hg312 (qS86 _ _ (qb82 _ _ hk67)) (by decide) (by decide)), (xv_m hg312 (qS86 _ _ (qb82 _ _ hk74)) (by decide) (by decide))]; exact wt9) (by rw [(xv_m hg312 (qS86 _ _ (qb82 _ _ hk68)) (by decide) (by decide)), (xv_m hg312 (qS86 _ _ (qb82 _ _ hk75)) (by decide) (by decide))]; exact ld9) (by rw [(xv_m hg312 (qS86 _ _ (qb82 _ _ hk66)) (by decide) (by decide)), (xv_m hg312 (qS86 _ _ (qb82 _ _ hs_b81)) (by decide) (by decide))]; exact sk9) (by rw [(xv_m hg312 (qS86 _ _ (qb82 _ _ hs_b79)) (by decide) (by decide)), (xv_m hg312 (qS86 _ _ (qb82 _ _ hs_b80)) (by decide) (by decide))]; exact xTc.mono tc9 (by omega)) dc9 ds9 (by omega) (by omega) (by omega)
        · refine X_tableIn hK 778 14 (by decide) c91 (by decide) (by decide) dL_law_40 rfl (by decide) ?_
          refine X_aloadn hK (i := 1) 3 dL_law_778 rfl rfl ?_
          refine X_aloadn hK (i := 0) 4 dL_law_779 rfl rfl ?_
          refine X_iload hK (i := 4) 0 dL_law_780 rfl ?_
          refine X_iconst hK dL_law_782 ?_
          refine X_iadd hK dL_law_783 ?_
          refine X_scr hK hX hbl hbA hL (by omega) (by omega) dL_law_784 (fun z315 ez315 lz315 uz315 => ?_)
          refine X_aloadn hK (i := 0) 4 dL_law_785 rfl rfl ?_
          refine X_iload hK (i := 4) 0 dL_law_786 rfl ?_
          refine X_iconst hK dL_law_788 ?_
          refine X_iadd hK dL_law_789 ?_
          refine X_scr hK hX hbl hbA hL (by omega) (by omega) dL_law_790 (fun z316 ez316 lz316 uz316 => ?_)
          refine X_aloadn hK (i := 0) 4 dL_law_791 rfl rfl ?_
          refine X_iload hK (i := 4) 0 dL_law_792 rfl ?_
          refine X_iconst hK dL_law_794 ?_
          refine X_iadd hK dL_law_795 ?_
          refine X_scr hK hX hbl hbA hL (by omega) (by omega) dL_law_796 (fun z317 ez317 lz317 uz317 => ?_)
          refine X_aloadn hK (i := 0) 4 dL_law_797 rfl rfl ?_
          refine X_iload hK (i := 4) 0 dL_law_798 rfl ?_
          refine X_iconst hK dL_law_800 ?_
          refine X_iadd hK dL_law_801 ?_
          refine X_scr hK hX hbl hbA hL (by omega) (by omega) dL_law_802 (fun z318 ez318 lz318 uz318 => ?_)
          refine X_aloadn hK (i := 0) 4 dL_law_803 rfl rfl ?_
          refine X_iload hK (i := 4) 0 dL_law_804 rfl ?_
          refine X_iconst hK dL_law_806 ?_
          refine X_iadd hK dL_law_807 ?_
          refine X_scr hK hX hbl hbA hL (by omega) (by omega) dL_law_808 (fun z319 ez319 lz319 uz319 => ?_)
          refine X_callVU hK [.int (iI z315), .int (iI z316), .int (iI z317), .int (iI z318), .int (iI z319)] [] lk_L_87 (c_X11_bundle _ _ _ _ _ S86 g87 b1 z315 z316 z317 z318 z319 (qS86 _ _ (qb82 _ _ hk64)) (by omega) (by omega) (by omega) (by omega) (by omega) al9 si9) (qS86 _ _ (qb82 _ _ hk64)) ⟨by decide, rfl⟩ dL_law_809 rfl rfl (by simp [Value.category]) (by decide) (by omega) (by omega) (by decide) (fun r320 S322 g321 dcr320 dsr320 pr320 qr320 hg321 => ?_)
          obtain ⟨wr320, z323, rfl, lz323, uz323, k324, k325, k326⟩ := pr320
          refine X_st [.int (iI z323)] rfl ?_
          refine X_pop hK dL_law_812 rfl ?_
          refine X_aloadn hK (i := 2) 2 dL_law_813 rfl rfl ?_
          refine X_aloadn hK (i := 0) 4 dL_law_814 rfl rfl ?_
          refine X_iload hK (i := 4) 0 dL_law_815 rfl ?_
          refine X_iconst hK dL_law_817 ?_
          refine X_iadd hK dL_law_818 ?_
          refine X_scrK hK hX hbl hbA hL (by omega) (by omega) ez315 dL_law_819 ?_
          refine X_aloadn hK (i := 0) 4 dL_law_820 rfl rfl ?_
          refine X_iload hK (i := 4) 0 dL_law_821 rfl ?_
          refine X_iconst hK dL_law_823 ?_
          refine X_iadd hK dL_law_824 ?_
          refine X_scrK hK hX hbl hbA hL (by omega) (by omega) ez316 dL_law_825 ?_
          refine X_aloadn hK (i := 0) 4 dL_law_826 rfl rfl ?_
          refine X_iload hK (i := 4) 0 dL_law_827 rfl ?_
          refine X_iconst hK dL_law_829 ?_
          refine X_iadd hK dL_law_830 ?_
          refine X_scrK hK hX hbl hbA hL (by omega) (by omega) ez317 dL_law_831 ?_
          refine X_aloadn hK (i := 0) 4 dL_law_832 rfl rfl ?_
          refine X_iload hK (i := 4) 0 dL_law_833 rfl ?_
          refine X_iconst hK dL_law_835 ?_
          refine X_iadd hK dL_law_836 ?_
          refine X_scrK hK hX hbl hbA hL (by omega) (by omega) ez318 dL_law_837 ?_
          refine X_aloadn hK (i := 0) 4 dL_law_838 rfl rfl ?_
          refine X_iload hK (i := 4) 0 dL_law_839 rfl ?_
          refine X_iconst hK dL_law_841 ?_
          refine X_iadd hK dL_law_842 ?_
          refine X_scrK hK hX hbl hbA hL (by omega) (by omega) ez319 dL_law_843 ?_
          refine X_callV hK [.int (iI z315), .int (iI z316), .int (iI z317), .int (iI z318), .int (iI z319)] [] lk_L_90 (c_X12_bundle _ _ _ _ _ S322 g321 b36 z315 z316 z317 z318 z319 (qr320 _ _ (qS86 _ _ (qb82 _ _ hs_y62))) (by omega) (by omega) (by omega) (by omega) (by omega) (xTw_m tw9 hg321 qr320 (by decide))) (qr320 _ _ (qS86 _ _ (qb82 _ _ hs_y62))) ⟨by decide, rfl⟩ dL_law_844 rfl rfl (by simp [Value.category]) (by decide) (by omega) (by omega) (by decide) (fun r327 S329 g328 pr327 qr327 hg328 => ?_)
          obtain ⟨rfl, z330, rfl, lz330, uz330⟩ := pr327
          refine X_st [.int (iI z330)] rfl ?_
          refine X_pop hK dL_law_847 rfl ?_
          refine X_goto hK 1465 dL_law_848 (by decide) ?_
          refine X_iinc hK (i := 4) (z := i9) (n := 6) 0 [(4, .int (iI (i9 + 6))), (3, .ref b82), (2, .ref b36), (1, .ref b1), (0, .ref b)] dL_law_1465 rfl (by decide) rfl ?_
          refine X_goto hK 23 dL_law_1468 (by decide) ?_
          exact ih9 S322 (xLe.tr qS86 qr320) g328 (i9 + 6) k9 t9 c9 b9 sh9 sp9 sm9 (by omega) (by omega) (by omega) (by omega) (by omega) (by omega) (by omega) (by omega) (xLs_mod k324 hg328 (by decide)) k325 (xPi_m (xPi_m pi9 hg321 qr320 (by decide)) hg328 xLe.rf (by decide)) (xMp_m (xMp_m mp9 hg321 qr320 (by decide)) hg328 xLe.rf (by decide)) (xTw_m (xTw_m tw9 hg321 qr320 (by decide)) hg328 xLe.rf (by decide)) ((hg328 b1 12 0 0 (qr320 _ _ (qS86 _ _ (qb82 _ _ hk64))) (by decide)).trans ((hg321 b1 12 0 0 (qS86 _ _ (qb82 _ _ hk64)) (by decide)).trans el09)) ((hg328 b1 12 0 3 (qr320 _ _ (qS86 _ _ (qb82 _ _ hk64))) (by decide)).trans ((hg321 b1 12 0 3 (qS86 _ _ (qb82 _ _ hk64)) (by decide)).trans el19)) ((hg328 b1 12 0 1 (qr320 _ _ (qS86 _ _ (qb82 _ _ hk64))) (by decide)).trans ((hg321 b1 12 0 1 (qS86 _ _ (qb82 _ _ hk64)) (by decide)).trans el29)) ((hg328 b34 6 0 1 (qr320 _ _ (qS86 _ _ (qb82 _ _ hk72))) (by decide)).trans ((hg321 b34 6 0 1 (qS86 _ _ (qb82 _ _ hk72)) (by decide)).trans el39)) ((hg328 b1 12 0 2 (qr320 _ _ (qS86 _ _ (qb82 _ _ hk64))) (by decide)).trans ((hg321 b1 12 0 2 (qS86 _ _ (qb82 _ _ hk64)) (by decide)).trans el49)) ((hg328 b18 4 0 0 (qr320 _ _ (qS86 _ _ (qb82 _ _ hk65))) (by decide)).trans ((hg321 b18 4 0 0 (qS86 _ _ (qb82 _ _ hk65)) (by decide)).trans el59)) ((hg328 b18 4 0 2 (qr320 _ _ (qS86 _ _ (qb82 _ _ hk65))) (by decide)).trans ((hg321 b18 4 0 2 (qS86 _ _ (qb82 _ _ hk65)) (by decide)).trans el69)) ((hg328 b18 4 0 3 (qr320 _ _ (qS86 _ _ (qb82 _ _ hk65))) (by decide)).trans ((hg321 b18 4 0 3 (qS86 _ _ (qb82 _ _ hk65)) (by decide)).trans el79)) ((hg328 b18 4 0 4 (qr320 _ _ (qS86 _ _ (qb82 _ _ hk65))) (by decide)).trans ((hg321 b18 4 0 4 (qS86 _ _ (qb82 _ _ hk65)) (by decide)).trans el89)) ((hg328 b32 10 0 0 (qr320 _ _ (qS86 _ _ (qb82 _ _ hk70))) (by decide)).trans ((hg321 b32 10 0 0 (qS86 _ _ (qb82 _ _ hk70)) (by decide)).trans el99)) ((hg328 b36 13 0 1 (qr320 _ _ (qS86 _ _ (qb82 _ _ hs_y62))) (by decide)).trans ((hg321 b36 13 0 1 (qS86 _ _ (qb82 _ _ hs_y62)) (by decide)).trans el109)) ((hg328 b36 13 0 10 (qr320 _ _ (qS86 _ _ (qb82 _ _ hs_y62))) (by decide)).trans ((hg321 b36 13 0 10 (qS86 _ _ (qb82 _ _ hs_y62)) (by decide)).trans el119)) ((hg328 b36 13 0 13 (qr320 _ _ (qS86 _ _ (qb82 _ _ hs_y62))) (by decide)).trans ((hg321 b36 13 0 13 (qS86 _ _ (qb82 _ _ hs_y62)) (by decide)).trans el129)) ((hg328 b36 13 0 14 (qr320 _ _ (qS86 _ _ (qb82 _ _ hs_y62))) (by decide)).trans ((hg321 b36 13 0 14 (qS86 _ _ (qb82 _ _ hs_y62)) (by decide)).trans el139)) ((hg328 b36 13 0 12 (qr320 _ _ (qS86 _ _ (qb82 _ _ hs_y62))) (by decide)).trans ((hg321 b36 13 0 12 (qS86 _ _ (qb82 _ _ hs_y62)) (by decide)).trans el149)) ((hg328 b32 10 0 1 (qr320 _ _ (qS86 _ _ (qb82 _ _ hk70))) (by decide)).trans ((hg321 b32 10 0 1 (qS86 _ _ (qb82 _ _ hk70)) (by decide)).trans exk9)) ((hg328 b36 13 0 2 (qr320 _ _ (qS86 _ _ (qb82 _ _ hs_y62))) (by decide)).trans ((hg321 b36 13 0 2 (qS86 _ _ (qb82 _ _ hs_y62)) (by decide)).trans emk9)) ((hg328 b1 12 0 12 (qr320 _ _ (qS86 _ _ (qb82 _ _ hk64))) (by decide)).trans ((hg321 b1 12 0 12 (qS86 _ _ (qb82 _ _ hk64)) (by decide)).trans ext9)) ((hg328 b36 13 0 3 (qr320 _ _ (qS86 _ _ (qb82 _ _ hs_y62))) (by decide)).trans ((hg321 b36 13 0 3 (qS86 _ _ (qb82 _ _ hs_y62)) (by decide)).trans emt9)) ((hg328 b33 5 0 3 (qr320 _ _ (qS86 _ _ (qb82 _ _ hk71))) (by decide)).trans ((hg321 b33 5 0 3 (qS86 _ _ (qb82 _ _ hk71)) (by decide)).trans exc9)) ((hg328 b36 13 0 69 (qr320 _ _ (qS86 _ _ (qb82 _ _ hs_y62))) (by decide)).trans ((hg321 b36 13 0 69 (qS86 _ _ (qb82 _ _ hs_y62)) (by decide)).trans emc9)) ((hg328 b35 0 0 2 (qr320 _ _ (qS86 _ _ (qb82 _ _ hk73))) (by decide)).trans ((hg321 b35 0 0 2 (qS86 _ _ (qb82 _ _ hk73)) (by decide)).trans exb9)) ((hg328 b36 13 0 16 (qr320 _ _ (qS86 _ _ (qb82 _ _ hs_y62))) (by decide)).trans ((hg321 b36 13 0 16 (qS86 _ _ (qb82 _ _ hs_y62)) (by decide)).trans emb9)) ((hg328 b1 12 0 16 (qr320 _ _ (qS86 _ _ (qb82 _ _ hk64))) (by decide)).trans ((hg321 b1 12 0 16 (qS86 _ _ (qb82 _ _ hk64)) (by decide)).trans exsh9)) ((hg328 b36 13 0 89 (qr320 _ _ (qS86 _ _ (qb82 _ _ hs_y62))) (by decide)).trans ((hg321 b36 13 0 89 (qS86 _ _ (qb82 _ _ hs_y62)) (by decide)).trans emsh9)) ((hg328 b1 12 0 17 (qr320 _ _ (qS86 _ _ (qb82 _ _ hk64))) (by decide)).trans ((hg321 b1 12 0 17 (qS86 _ _ (qb82 _ _ hk64)) (by decide)).trans exsp9)) ((hg328 b36 13 0 90 (qr320 _ _ (qS86 _ _ (qb82 _ _ hs_y62))) (by decide)).trans ((hg321 b36 13 0 90 (qS86 _ _ (qb82 _ _ hs_y62)) (by decide)).trans emsp9)) ((hg328 b36 13 0 17 (qr320 _ _ (qS86 _ _ (qb82 _ _ hs_y62))) (by decide)).trans ((hg321 b36 13 0 17 (qS86 _ _ (qb82 _ _ hs_y62)) (by decide)).trans emsm9)) (xWn.m (xWn.m wn9 (qS86 _ _ (qb82 _ _ hk69)) (qS86 _ _ (qb82 _ _ hk76)) hg321 qr320 (by decide)) (qr320 _ _ (qS86 _ _ (qb82 _ _ hk69))) (qr320 _ _ (qS86 _ _ (qb82 _ _ hk76))) hg328 xLe.rf (by decide)) (by rw [(Eq.trans (xv_m hg328 (qr320 _ _ (qS86 _ _ (qb82 _ _ hk67))) (by decide) (by decide)) (xv_m hg321 (qS86 _ _ (qb82 _ _ hk67)) (by decide) (by decide))), (Eq.trans (xv_m hg328 (qr320 _ _ (qS86 _ _ (qb82 _ _ hk74))) (by decide) (by decide)) (xv_m hg321 (qS86 _ _ (qb82 _ _ hk74)) (by decide) (by decide)))]; exact wt9) (by rw [(Eq.trans (xv_m hg328 (qr320 _ _ (qS86 _ _ (qb82 _ _ hk68))) (by decide) (by decide)) (xv_m hg321 (qS86 _ _ (qb82 _ _ hk68)) (by decide) (by decide))), (Eq.trans (xv_m hg328 (qr320 _ _ (qS86 _ _ (qb82 _ _ hk75))) (by decide) (by decide)) (xv_m hg321 (qS86 _ _ (qb82 _ _ hk75)) (by decide) (by decide)))]; exact ld9) (by rw [(Eq.trans (xv_m hg328 (qr320 _ _ (qS86 _ _ (qb82 _ _ hk66))) (by decide) (by decide)) (xv_m hg321 (qS86 _ _ (qb82 _ _ hk66)) (by decide) (by decide))), (Eq.trans (xv_m hg328 (qr320 _ _ (qS86 _ _ (qb82 _ _ hs_b81))) (by decide) (by decide)) (xv_m hg321 (qS86 _ _ (qb82 _ _ hs_b81)) (by decide) (by decide)))]; exact sk9) (by rw [(Eq.trans (xv_m hg328 (qr320 _ _ (qS86 _ _ (qb82 _ _ hs_b79))) (by decide) (by decide)) (xv_m hg321 (qS86 _ _ (qb82 _ _ hs_b79)) (by decide) (by decide))), (Eq.trans (xv_m hg328 (qr320 _ _ (qS86 _ _ (qb82 _ _ hs_b80))) (by decide) (by decide)) (xv_m hg321 (qS86 _ _ (qb82 _ _ hs_b80)) (by decide) (by decide)))]; exact xTc.mono tc9 (by omega)) (dc9 + dcr320) (ds9 + dsr320) (by omega) (by omega) (by omega)
        · refine X_tableIn hK 851 15 (by decide) c91 (by decide) (by decide) dL_law_40 rfl (by decide) ?_
          refine X_aloadn hK (i := 1) 3 dL_law_851 rfl rfl ?_
          refine X_aloadn hK (i := 0) 4 dL_law_852 rfl rfl ?_
          refine X_iload hK (i := 4) 0 dL_law_853 rfl ?_
          refine X_iconst hK dL_law_855 ?_
          refine X_iadd hK dL_law_856 ?_
          refine X_scr hK hX hbl hbA hL (by omega) (by omega) dL_law_857 (fun z331 ez331 lz331 uz331 => ?_)
          refine X_aloadn hK (i := 0) 4 dL_law_858 rfl rfl ?_
          refine X_iload hK (i := 4) 0 dL_law_859 rfl ?_
          refine X_iconst hK dL_law_861 ?_
          refine X_iadd hK dL_law_862 ?_
          refine X_scr hK hX hbl hbA hL (by omega) (by omega) dL_law_863 (fun z332 ez332 lz332 uz332 => ?_)
          refine X_callV hK [.int (iI z331), .int (iI z332)] [] lk_L_91 (c_X11_told _ _ _ _ _ S86 g87 b1 z331 z332 (qS86 _ _ (qb82 _ _ hk64)) (by omega) (by omega) al9) (qS86 _ _ (qb82 _ _ hk64)) ⟨by decide, rfl⟩ dL_law_864 rfl rfl (by simp [Value.category]) (by decide) (by omega) (by omega) (by decide) (fun r333 S335 g334 pr333 qr333 hg334 => ?_)
          obtain ⟨rfl, z336, rfl, lz336, uz336⟩ := pr333
          refine X_st [.int (iI z336)] rfl ?_
          refine X_pop hK dL_law_867 rfl ?_
          refine X_aloadn hK (i := 2) 2 dL_law_868 rfl rfl ?_
          refine X_aloadn hK (i := 0) 4 dL_law_869 rfl rfl ?_
          refine X_iload hK (i := 4) 0 dL_law_870 rfl ?_
          refine X_iconst hK dL_law_872 ?_
          refine X_iadd hK dL_law_873 ?_
          refine X_scrK hK hX hbl hbA hL (by omega) (by omega) ez331 dL_law_874 ?_
          refine X_aloadn hK (i := 0) 4 dL_law_875 rfl rfl ?_
          refine X_iload hK (i := 4) 0 dL_law_876 rfl ?_
          refine X_iconst hK dL_law_878 ?_
          refine X_iadd hK dL_law_879 ?_
          refine X_scrK hK hX hbl hbA hL (by omega) (by omega) ez332 dL_law_880 ?_
          refine X_callV hK [.int (iI z331), .int (iI z332)] [] lk_L_94 (c_X12_told _ _ _ _ _ S86 g334 b36 z331 z332 (qS86 _ _ (qb82 _ _ hs_y62)) (by omega) (by omega) (xTw_m tw9 hg334 xLe.rf (by decide))) (qS86 _ _ (qb82 _ _ hs_y62)) ⟨by decide, rfl⟩ dL_law_881 rfl rfl (by simp [Value.category]) (by decide) (by omega) (by omega) (by decide) (fun r337 S339 g338 pr337 qr337 hg338 => ?_)
          obtain ⟨rfl, z340, rfl, lz340, uz340⟩ := pr337
          refine X_st [.int (iI z340)] rfl ?_
          refine X_pop hK dL_law_884 rfl ?_
          refine X_goto hK 1465 dL_law_885 (by decide) ?_
          refine X_iinc hK (i := 4) (z := i9) (n := 6) 0 [(4, .int (iI (i9 + 6))), (3, .ref b82), (2, .ref b36), (1, .ref b1), (0, .ref b)] dL_law_1465 rfl (by decide) rfl ?_
          refine X_goto hK 23 dL_law_1468 (by decide) ?_
          exact ih9 S86 qS86 g338 (i9 + 6) k9 t9 c9 b9 sh9 sp9 sm9 (by omega) (by omega) (by omega) (by omega) (by omega) (by omega) (by omega) (by omega) (xLs_mod (xLs_mod al9 hg334 (by decide)) hg338 (by decide)) si9 (xPi_m (xPi_m pi9 hg334 xLe.rf (by decide)) hg338 xLe.rf (by decide)) (xMp_m (xMp_m mp9 hg334 xLe.rf (by decide)) hg338 xLe.rf (by decide)) (xTw_m (xTw_m tw9 hg334 xLe.rf (by decide)) hg338 xLe.rf (by decide)) ((hg338 b1 12 0 0 (qS86 _ _ (qb82 _ _ hk64)) (by decide)).trans ((hg334 b1 12 0 0 (qS86 _ _ (qb82 _ _ hk64)) (by decide)).trans el09)) ((hg338 b1 12 0 3 (qS86 _ _ (qb82 _ _ hk64)) (by decide)).trans ((hg334 b1 12 0 3 (qS86 _ _ (qb82 _ _ hk64)) (by decide)).trans el19)) ((hg338 b1 12 0 1 (qS86 _ _ (qb82 _ _ hk64)) (by decide)).trans ((hg334 b1 12 0 1 (qS86 _ _ (qb82 _ _ hk64)) (by decide)).trans el29)) ((hg338 b34 6 0 1 (qS86 _ _ (qb82 _ _ hk72)) (by decide)).trans ((hg334 b34 6 0 1 (qS86 _ _ (qb82 _ _ hk72)) (by decide)).trans el39)) ((hg338 b1 12 0 2 (qS86 _ _ (qb82 _ _ hk64)) (by decide)).trans ((hg334 b1 12 0 2 (qS86 _ _ (qb82 _ _ hk64)) (by decide)).trans el49)) ((hg338 b18 4 0 0 (qS86 _ _ (qb82 _ _ hk65)) (by decide)).trans ((hg334 b18 4 0 0 (qS86 _ _ (qb82 _ _ hk65)) (by decide)).trans el59)) ((hg338 b18 4 0 2 (qS86 _ _ (qb82 _ _ hk65)) (by decide)).trans ((hg334 b18 4 0 2 (qS86 _ _ (qb82 _ _ hk65)) (by decide)).trans el69)) ((hg338 b18 4 0 3 (qS86 _ _ (qb82 _ _ hk65)) (by decide)).trans ((hg334 b18 4 0 3 (qS86 _ _ (qb82 _ _ hk65)) (by decide)).trans el79)) ((hg338 b18 4 0 4 (qS86 _ _ (qb82 _ _ hk65)) (by decide)).trans ((hg334 b18 4 0 4 (qS86 _ _ (qb82 _ _ hk65)) (by decide)).trans el89)) ((hg338 b32 10 0 0 (qS86 _ _ (qb82 _ _ hk70)) (by decide)).trans ((hg334 b32 10 0 0 (qS86 _ _ (qb82 _ _ hk70)) (by decide)).trans el99)) ((hg338 b36 13 0 1 (qS86 _ _ (qb82 _ _ hs_y62)) (by decide)).trans ((hg334 b36 13 0 1 (qS86 _ _ (qb82 _ _ hs_y62)) (by decide)).trans el109)) ((hg338 b36 13 0 10 (qS86 _ _ (qb82 _ _ hs_y62)) (by decide)).trans ((hg334 b36 13 0 10 (qS86 _ _ (qb82 _ _ hs_y62)) (by decide)).trans el119)) ((hg338 b36 13 0 13 (qS86 _ _ (qb82 _ _ hs_y62)) (by decide)).trans ((hg334 b36 13 0 13 (qS86 _ _ (qb82 _ _ hs_y62)) (by decide)).trans el129)) ((hg338 b36 13 0 14 (qS86 _ _ (qb82 _ _ hs_y62)) (by decide)).trans ((hg334 b36 13 0 14 (qS86 _ _ (qb82 _ _ hs_y62)) (by decide)).trans el139)) ((hg338 b36 13 0 12 (qS86 _ _ (qb82 _ _ hs_y62)) (by decide)).trans ((hg334 b36 13 0 12 (qS86 _ _ (qb82 _ _ hs_y62)) (by decide)).trans el149)) ((hg338 b32 10 0 1 (qS86 _ _ (qb82 _ _ hk70)) (by decide)).trans ((hg334 b32 10 0 1 (qS86 _ _ (qb82 _ _ hk70)) (by decide)).trans exk9)) ((hg338 b36 13 0 2 (qS86 _ _ (qb82 _ _ hs_y62)) (by decide)).trans ((hg334 b36 13 0 2 (qS86 _ _ (qb82 _ _ hs_y62)) (by decide)).trans emk9)) ((hg338 b1 12 0 12 (qS86 _ _ (qb82 _ _ hk64)) (by decide)).trans ((hg334 b1 12 0 12 (qS86 _ _ (qb82 _ _ hk64)) (by decide)).trans ext9)) ((hg338 b36 13 0 3 (qS86 _ _ (qb82 _ _ hs_y62)) (by decide)).trans ((hg334 b36 13 0 3 (qS86 _ _ (qb82 _ _ hs_y62)) (by decide)).trans emt9)) ((hg338 b33 5 0 3 (qS86 _ _ (qb82 _ _ hk71)) (by decide)).trans ((hg334 b33 5 0 3 (qS86 _ _ (qb82 _ _ hk71)) (by decide)).trans exc9)) ((hg338 b36 13 0 69 (qS86 _ _ (qb82 _ _ hs_y62)) (by decide)).trans ((hg334 b36 13 0 69 (qS86 _ _ (qb82 _ _ hs_y62)) (by decide)).trans emc9)) ((hg338 b35 0 0 2 (qS86 _ _ (qb82 _ _ hk73)) (by decide)).trans ((hg334 b35 0 0 2 (qS86 _ _ (qb82 _ _ hk73)) (by decide)).trans exb9)) ((hg338 b36 13 0 16 (qS86 _ _ (qb82 _ _ hs_y62)) (by decide)).trans ((hg334 b36 13 0 16 (qS86 _ _ (qb82 _ _ hs_y62)) (by decide)).trans emb9)) ((hg338 b1 12 0 16 (qS86 _ _ (qb82 _ _ hk64)) (by decide)).trans ((hg334 b1 12 0 16 (qS86 _ _ (qb82 _ _ hk64)) (by decide)).trans exsh9)) ((hg338 b36 13 0 89 (qS86 _ _ (qb82 _ _ hs_y62)) (by decide)).trans ((hg334 b36 13 0 89 (qS86 _ _ (qb82 _ _ hs_y62)) (by decide)).trans emsh9)) ((hg338 b1 12 0 17 (qS86 _ _ (qb82 _ _ hk64)) (by decide)).trans ((hg334 b1 12 0 17 (qS86 _ _ (qb82 _ _ hk64)) (by decide)).trans exsp9)) ((hg338 b36 13 0 90 (qS86 _ _ (qb82 _ _ hs_y62)) (by decide)).trans ((hg334 b36 13 0 90 (qS86 _ _ (qb82 _ _ hs_y62)) (by decide)).trans emsp9)) ((hg338 b36 13 0 17 (qS86 _ _ (qb82 _ _ hs_y62)) (by decide)).trans ((hg334 b36 13 0 17 (qS86 _ _ (qb82 _ _ hs_y62)) (by decide)).trans emsm9)) (xWn.m (xWn.m wn9 (qS86 _ _ (qb82 _ _ hk69)) (qS86 _ _ (qb82 _ _ hk76)) hg334 xLe.rf (by decide)) (qS86 _ _ (qb82 _ _ hk69)) (qS86 _ _ (qb82 _ _ hk76)) hg338 xLe.rf (by decide)) (by rw [(Eq.trans (xv_m hg338 (qS86 _ _ (qb82 _ _ hk67)) (by decide) (by decide)) (xv_m hg334 (qS86 _ _ (qb82 _ _ hk67)) (by decide) (by decide))), (Eq.trans (xv_m hg338 (qS86 _ _ (qb82 _ _ hk74)) (by decide) (by decide)) (xv_m hg334 (qS86 _ _ (qb82 _ _ hk74)) (by decide) (by decide)))]; exact wt9) (by rw [(Eq.trans (xv_m hg338 (qS86 _ _ (qb82 _ _ hk68)) (by decide) (by decide)) (xv_m hg334 (qS86 _ _ (qb82 _ _ hk68)) (by decide) (by decide))), (Eq.trans (xv_m hg338 (qS86 _ _ (qb82 _ _ hk75)) (by decide) (by decide)) (xv_m hg334 (qS86 _ _ (qb82 _ _ hk75)) (by decide) (by decide)))]; exact ld9) (by rw [(Eq.trans (xv_m hg338 (qS86 _ _ (qb82 _ _ hk66)) (by decide) (by decide)) (xv_m hg334 (qS86 _ _ (qb82 _ _ hk66)) (by decide) (by decide))), (Eq.trans (xv_m hg338 (qS86 _ _ (qb82 _ _ hs_b81)) (by decide) (by decide)) (xv_m hg334 (qS86 _ _ (qb82 _ _ hs_b81)) (by decide) (by decide)))]; exact sk9) (by rw [(Eq.trans (xv_m hg338 (qS86 _ _ (qb82 _ _ hs_b79)) (by decide) (by decide)) (xv_m hg334 (qS86 _ _ (qb82 _ _ hs_b79)) (by decide) (by decide))), (Eq.trans (xv_m hg338 (qS86 _ _ (qb82 _ _ hs_b80)) (by decide) (by decide)) (xv_m hg334 (qS86 _ _ (qb82 _ _ hs_b80)) (by decide) (by decide)))]; exact xTc.mono tc9 (by omega)) dc9 ds9 (by omega) (by omega) (by omega)
        · refine X_tableIn hK 888 16 (by decide) c91 (by decide) (by decide) dL_law_40 rfl (by decide) ?_
          refine X_aloadn hK (i := 1) 3 dL_law_888 rfl rfl ?_
          refine X_callV hK [] [] lk_L_95 (c_X11_why _ _ _ _ _ S86 g87 b1 (qS86 _ _ (qb82 _ _ hk64))) (qS86 _ _ (qb82 _ _ hk64)) ⟨by decide, rfl⟩ dL_law_889 rfl rfl (by simp [Value.category]) (by decide) (by omega) (by omega) (by decide) (fun r341 S343 g342 pr341 qr341 hg342 => ?_)
          obtain ⟨rfl, rfl, z344, rfl, lz344, uz344⟩ := pr341
          refine X_st [.int (iI z344)] rfl ?_
          refine X_pop hK dL_law_892 rfl ?_
          refine X_aloadn hK (i := 2) 2 dL_law_893 rfl rfl ?_
          refine X_callV hK [] [] lk_L_98 (c_X12_why _ _ _ _ _ S86 g87 b36 (qS86 _ _ (qb82 _ _ hs_y62))) (qS86 _ _ (qb82 _ _ hs_y62)) ⟨by decide, rfl⟩ dL_law_894 rfl rfl (by simp [Value.category]) (by decide) (by omega) (by omega) (by decide) (fun r345 S347 g346 pr345 qr345 hg346 => ?_)
          obtain ⟨rfl, z348, rfl, lz348, uz348⟩ := pr345
          refine X_st [.int (iI z348)] rfl ?_
          refine X_pop hK dL_law_897 rfl ?_
          refine X_goto hK 1465 dL_law_898 (by decide) ?_
          refine X_iinc hK (i := 4) (z := i9) (n := 6) 0 [(4, .int (iI (i9 + 6))), (3, .ref b82), (2, .ref b36), (1, .ref b1), (0, .ref b)] dL_law_1465 rfl (by decide) rfl ?_
          refine X_goto hK 23 dL_law_1468 (by decide) ?_
          exact ih9 S86 qS86 g346 (i9 + 6) k9 t9 c9 b9 sh9 sp9 sm9 (by omega) (by omega) (by omega) (by omega) (by omega) (by omega) (by omega) (by omega) (xLs_mod al9 hg346 (by decide)) si9 (xPi_m pi9 hg346 xLe.rf (by decide)) (xMp_m mp9 hg346 xLe.rf (by decide)) (xTw_m tw9 hg346 xLe.rf (by decide)) ((hg346 b1 12 0 0 (qS86 _ _ (qb82 _ _ hk64)) (by decide)).trans el09) ((hg346 b1 12 0 3 (qS86 _ _ (qb82 _ _ hk64)) (by decide)).trans el19) ((hg346 b1 12 0 1 (qS86 _ _ (qb82 _ _ hk64)) (by decide)).trans el29) ((hg346 b34 6 0 1 (qS86 _ _ (qb82 _ _ hk72)) (by decide)).trans el39) ((hg346 b1 12 0 2 (qS86 _ _ (qb82 _ _ hk64)) (by decide)).trans el49) ((hg346 b18 4 0 0 (qS86 _ _ (qb82 _ _ hk65)) (by decide)).trans el59) ((hg346 b18 4 0 2 (qS86 _ _ (qb82 _ _ hk65)) (by decide)).trans el69) ((hg346 b18 4 0 3 (qS86 _ _ (qb82 _ _ hk65)) (by decide)).trans el79) ((hg346 b18 4 0 4 (qS86 _ _ (qb82 _ _ hk65)) (by decide)).trans el89) ((hg346 b32 10 0 0 (qS86 _ _ (qb82 _ _ hk70)) (by decide)).trans el99) ((hg346 b36 13 0 1 (qS86 _ _ (qb82 _ _ hs_y62)) (by decide)).trans el109) ((hg346 b36 13 0 10 (qS86 _ _ (qb82 _ _ hs_y62)) (by decide)).trans el119) ((hg346 b36 13 0 13 (qS86 _ _ (qb82 _ _ hs_y62)) (by decide)).trans el129) ((hg346 b36 13 0 14 (qS86 _ _ (qb82 _ _ hs_y62)) (by decide)).trans el139) ((hg346 b36 13 0 12 (qS86 _ _ (qb82 _ _ hs_y62)) (by decide)).trans el149) ((hg346 b32 10 0 1 (qS86 _ _ (qb82 _ _ hk70)) (by decide)).trans exk9) ((hg346 b36 13 0 2 (qS86 _ _ (qb82 _ _ hs_y62)) (by decide)).trans emk9) ((hg346 b1 12 0 12 (qS86 _ _ (qb82 _ _ hk64)) (by decide)).trans ext9) ((hg346 b36 13 0 3 (qS86 _ _ (qb82 _ _ hs_y62)) (by decide)).trans emt9) ((hg346 b33 5 0 3 (qS86 _ _ (qb82 _ _ hk71)) (by decide)).trans exc9) ((hg346 b36 13 0 69 (qS86 _ _ (qb82 _ _ hs_y62)) (by decide)).trans emc9) ((hg346 b35 0 0 2 (qS86 _ _ (qb82 _ _ hk73)) (by decide)).trans exb9) ((hg346 b36 13 0 16 (qS86 _ _ (qb82 _ _ hs_y62)) (by decide)).trans emb9) ((hg346 b1 12 0 16 (qS86 _ _ (qb82 _ _ hk64)) (by decide)).trans exsh9) ((hg346 b36 13 0 89 (qS86 _ _ (qb82 _ _ hs_y62)) (by decide)).trans emsh9) ((hg346 b1 12 0 17 (qS86 _ _ (qb82 _ _ hk64)) (by decide)).trans exsp9) ((hg346 b36 13 0 90 (qS86 _ _ (qb82 _ _ hs_y62)) (by decide)).trans emsp9) ((hg346 b36 13 0 17 (qS86 _ _ (qb82 _ _ hs_y62)) (by decide)).trans emsm9) (xWn.m wn9 (qS86 _ _ (qb82 _ _ hk69)) (qS86 _ _ (qb82 _ _ hk76)) hg346 xLe.rf (by decide)) (by rw [(xv_m hg346 (qS86 _ _ (qb82 _ _ hk67)) (by decide) (by decide)), (xv_m hg346 (qS86 _ _ (qb82 _ _ hk74)) (by decide) (by decide))]; exact wt9) (by rw [(xv_m hg346 (qS86 _ _ (qb82 _ _ hk68)) (by decide) (by decide)), (xv_m hg346 (qS86 _ _ (qb82 _ _ hk75)) (by decide) (by decide))]; exact ld9) (by rw [(xv_m hg346 (qS86 _ _ (qb82 _ _ hk66)) (by decide) (by decide)), (xv_m hg346 (qS86 _ _ (qb82 _ _ hs_b81)) (by decide) (by decide))]; exact sk9) (by rw [(xv_m hg346 (qS86 _ _ (qb82 _ _ hs_b79)) (by decide) (by decide)), (xv_m hg346 (qS86 _ _ (qb82 _ _ hs_b80)) (by decide) (by decide))]; exact xTc.mono tc9 (by omega)) dc9 ds9 (by omega) (by omega) (by omega)
        · refine X_tableIn hK 901 17 (by decide) c91 (by decide) (by decide) dL_law_40 rfl (by decide) ?_
          refine X_aloadn hK (i := 1) 3 dL_law_901 rfl rfl ?_
          refine X_callVU hK [] [] lk_L_99 (c_X11_close _ _ _ _ _ S86 g87 b1 t9 (qS86 _ _ (qb82 _ _ hk64)) (by omega) ext9 al9 si9) (qS86 _ _ (qb82 _ _ hk64)) ⟨by decide, rfl⟩ dL_law_902 rfl rfl (by simp [Value.category]) (by decide) (by omega) (by omega) (by decide) (fun r349 S351 g350 dcr349 dsr349 pr349 qr349 hg350 => ?_)
          obtain ⟨wr349, z352, rfl, lz352, uz352, k353, k354, k355, k356⟩ := pr349
          refine X_st [.int (iI z352)] rfl ?_
          refine X_pop hK dL_law_905 rfl ?_
          refine X_aloadn hK (i := 2) 2 dL_law_906 rfl rfl ?_
          refine X_callV hK [] [] lk_L_102 (c_X12_close _ _ _ _ _ S351 g350 b36 t9 (qr349 _ _ (qS86 _ _ (qb82 _ _ hs_y62))) (by omega) ((hg350 b36 13 0 3 (qS86 _ _ (qb82 _ _ hs_y62)) (by decide)).trans emt9) (xTw_m tw9 hg350 qr349 (by decide))) (qr349 _ _ (qS86 _ _ (qb82 _ _ hs_y62))) ⟨by decide, rfl⟩ dL_law_907 rfl rfl (by simp [Value.category]) (by decide) (by omega) (by omega) (by decide) (fun r357 S359 g358 pr357 qr357 hg358 => ?_)
          obtain ⟨rfl, z360, rfl, lz360, uz360, k361⟩ := pr357
          refine X_st [.int (iI z360)] rfl ?_
          refine X_pop hK dL_law_910 rfl ?_
          refine X_goto hK 1465 dL_law_911 (by decide) ?_
          refine X_iinc hK (i := 4) (z := i9) (n := 6) 0 [(4, .int (iI (i9 + 6))), (3, .ref b82), (2, .ref b36), (1, .ref b1), (0, .ref b)] dL_law_1465 rfl (by decide) rfl ?_
          refine X_goto hK 23 dL_law_1468 (by decide) ?_
          exact ih9 S351 (xLe.tr qS86 qr349) g358 (i9 + 6) k9 (if t9 < 400 then t9 + 1 else t9) c9 b9 sh9 sp9 sm9 (by omega) (by omega) (by first | omega | (split <;> omega)) (by omega) (by omega) (by omega) (by omega) (by omega) (xLs_mod k353 hg358 (by decide)) k354 (xPi_m (xPi_m pi9 hg350 qr349 (by decide)) hg358 xLe.rf (by decide)) (xMp_m (xMp_m mp9 hg350 qr349 (by decide)) hg358 xLe.rf (by decide)) (xTw_m (xTw_m tw9 hg350 qr349 (by decide)) hg358 xLe.rf (by decide)) ((hg358 b1 12 0 0 (qr349 _ _ (qS86 _ _ (qb82 _ _ hk64))) (by decide)).trans ((hg350 b1 12 0 0 (qS86 _ _ (qb82 _ _ hk64)) (by decide)).trans el09)) ((hg358 b1 12 0 3 (qr349 _ _ (qS86 _ _ (qb82 _ _ hk64))) (by decide)).trans ((hg350 b1 12 0 3 (qS86 _ _ (qb82 _ _ hk64)) (by decide)).trans el19)) ((hg358 b1 12 0 1 (qr349 _ _ (qS86 _ _ (qb82 _ _ hk64))) (by decide)).trans ((hg350 b1 12 0 1 (qS86 _ _ (qb82 _ _ hk64)) (by decide)).trans el29)) ((hg358 b34 6 0 1 (qr349 _ _ (qS86 _ _ (qb82 _ _ hk72))) (by decide)).trans ((hg350 b34 6 0 1 (qS86 _ _ (qb82 _ _ hk72)) (by decide)).trans el39)) ((hg358 b1 12 0 2 (qr349 _ _ (qS86 _ _ (qb82 _ _ hk64))) (by decide)).trans ((hg350 b1 12 0 2 (qS86 _ _ (qb82 _ _ hk64)) (by decide)).trans el49)) ((hg358 b18 4 0 0 (qr349 _ _ (qS86 _ _ (qb82 _ _ hk65))) (by decide)).trans ((hg350 b18 4 0 0 (qS86 _ _ (qb82 _ _ hk65)) (by decide)).trans el59)) ((hg358 b18 4 0 2 (qr349 _ _ (qS86 _ _ (qb82 _ _ hk65))) (by decide)).trans ((hg350 b18 4 0 2 (qS86 _ _ (qb82 _ _ hk65)) (by decide)).trans el69)) ((hg358 b18 4 0 3 (qr349 _ _ (qS86 _ _ (qb82 _ _ hk65))) (by decide)).trans ((hg350 b18 4 0 3 (qS86 _ _ (qb82 _ _ hk65)) (by decide)).trans el79)) ((hg358 b18 4 0 4 (qr349 _ _ (qS86 _ _ (qb82 _ _ hk65))) (by decide)).trans ((hg350 b18 4 0 4 (qS86 _ _ (qb82 _ _ hk65)) (by decide)).trans el89)) ((hg358 b32 10 0 0 (qr349 _ _ (qS86 _ _ (qb82 _ _ hk70))) (by decide)).trans ((hg350 b32 10 0 0 (qS86 _ _ (qb82 _ _ hk70)) (by decide)).trans el99)) ((hg358 b36 13 0 1 (qr349 _ _ (qS86 _ _ (qb82 _ _ hs_y62))) (by decide)).trans ((hg350 b36 13 0 1 (qS86 _ _ (qb82 _ _ hs_y62)) (by decide)).trans el109)) ((hg358 b36 13 0 10 (qr349 _ _ (qS86 _ _ (qb82 _ _ hs_y62))) (by decide)).trans ((hg350 b36 13 0 10 (qS86 _ _ (qb82 _ _ hs_y62)) (by decide)).trans el119)) ((hg358 b36 13 0 13 (qr349 _ _ (qS86 _ _ (qb82 _ _ hs_y62))) (by decide)).trans ((hg350 b36 13 0 13 (qS86 _ _ (qb82 _ _ hs_y62)) (by decide)).trans el129)) ((hg358 b36 13 0 14 (qr349 _ _ (qS86 _ _ (qb82 _ _ hs_y62))) (by decide)).trans ((hg350 b36 13 0 14 (qS86 _ _ (qb82 _ _ hs_y62)) (by decide)).trans el139)) ((hg358 b36 13 0 12 (qr349 _ _ (qS86 _ _ (qb82 _ _ hs_y62))) (by decide)).trans ((hg350 b36 13 0 12 (qS86 _ _ (qb82 _ _ hs_y62)) (by decide)).trans el149)) ((hg358 b32 10 0 1 (qr349 _ _ (qS86 _ _ (qb82 _ _ hk70))) (by decide)).trans ((hg350 b32 10 0 1 (qS86 _ _ (qb82 _ _ hk70)) (by decide)).trans exk9)) ((hg358 b36 13 0 2 (qr349 _ _ (qS86 _ _ (qb82 _ _ hs_y62))) (by decide)).trans ((hg350 b36 13 0 2 (qS86 _ _ (qb82 _ _ hs_y62)) (by decide)).trans emk9)) ((hg358 b1 12 0 12 (qr349 _ _ (qS86 _ _ (qb82 _ _ hk64))) (by decide)).trans k356) k361 ((hg358 b33 5 0 3 (qr349 _ _ (qS86 _ _ (qb82 _ _ hk71))) (by decide)).trans ((hg350 b33 5 0 3 (qS86 _ _ (qb82 _ _ hk71)) (by decide)).trans exc9)) ((hg358 b36 13 0 69 (qr349 _ _ (qS86 _ _ (qb82 _ _ hs_y62))) (by decide)).trans ((hg350 b36 13 0 69 (qS86 _ _ (qb82 _ _ hs_y62)) (by decide)).trans emc9)) ((hg358 b35 0 0 2 (qr349 _ _ (qS86 _ _ (qb82 _ _ hk73))) (by decide)).trans ((hg350 b35 0 0 2 (qS86 _ _ (qb82 _ _ hk73)) (by decide)).trans exb9)) ((hg358 b36 13 0 16 (qr349 _ _ (qS86 _ _ (qb82 _ _ hs_y62))) (by decide)).trans ((hg350 b36 13 0 16 (qS86 _ _ (qb82 _ _ hs_y62)) (by decide)).trans emb9)) ((hg358 b1 12 0 16 (qr349 _ _ (qS86 _ _ (qb82 _ _ hk64))) (by decide)).trans ((hg350 b1 12 0 16 (qS86 _ _ (qb82 _ _ hk64)) (by decide)).trans exsh9)) ((hg358 b36 13 0 89 (qr349 _ _ (qS86 _ _ (qb82 _ _ hs_y62))) (by decide)).trans ((hg350 b36 13 0 89 (qS86 _ _ (qb82 _ _ hs_y62)) (by decide)).trans emsh9)) ((hg358 b1 12 0 17 (qr349 _ _ (qS86 _ _ (qb82 _ _ hk64))) (by decide)).trans ((hg350 b1 12 0 17 (qS86 _ _ (qb82 _ _ hk64)) (by decide)).trans exsp9)) ((hg358 b36 13 0 90 (qr349 _ _ (qS86 _ _ (qb82 _ _ hs_y62))) (by decide)).trans ((hg350 b36 13 0 90 (qS86 _ _ (qb82 _ _ hs_y62)) (by decide)).trans emsp9)) ((hg358 b36 13 0 17 (qr349 _ _ (qS86 _ _ (qb82 _ _ hs_y62))) (by decide)).trans ((hg350 b36 13 0 17 (qS86 _ _ (qb82 _ _ hs_y62)) (by decide)).trans emsm9)) (xWn.m (xWn.m wn9 (qS86 _ _ (qb82 _ _ hk69)) (qS86 _ _ (qb82 _ _ hk76)) hg350 qr349 (by decide)) (qr349 _ _ (qS86 _ _ (qb82 _ _ hk69))) (qr349 _ _ (qS86 _ _ (qb82 _ _ hk76))) hg358 xLe.rf (by decide)) (by rw [(Eq.trans (xv_m hg358 (qr349 _ _ (qS86 _ _ (qb82 _ _ hk67))) (by decide) (by decide)) (xv_m hg350 (qS86 _ _ (qb82 _ _ hk67)) (by decide) (by decide))), (Eq.trans (xv_m hg358 (qr349 _ _ (qS86 _ _ (qb82 _ _ hk74))) (by decide) (by decide)) (xv_m hg350 (qS86 _ _ (qb82 _ _ hk74)) (by decide) (by decide)))]; exact wt9) (by rw [(Eq.trans (xv_m hg358 (qr349 _ _ (qS86 _ _ (qb82 _ _ hk68))) (by decide) (by decide)) (xv_m hg350 (qS86 _ _ (qb82 _ _ hk68)) (by decide) (by decide))), (Eq.trans (xv_m hg358 (qr349 _ _ (qS86 _ _ (qb82 _ _ hk75))) (by decide) (by decide)) (xv_m hg350 (qS86 _ _ (qb82 _ _ hk75)) (by decide) (by decide)))]; exact ld9) (by rw [(Eq.trans (xv_m hg358 (qr349 _ _ (qS86 _ _ (qb82 _ _ hk66))) (by decide) (by decide)) (xv_m hg350 (qS86 _ _ (qb82 _ _ hk66)) (by decide) (by decide))), (Eq.trans (xv_m hg358 (qr349 _ _ (qS86 _ _ (qb82 _ _ hs_b81))) (by decide) (by decide)) (xv_m hg350 (qS86 _ _ (qb82 _ _ hs_b81)) (by decide) (by decide)))]; exact sk9) (by rw [(Eq.trans (xv_m hg358 (qr349 _ _ (qS86 _ _ (qb82 _ _ hs_b79))) (by decide) (by decide)) (xv_m hg350 (qS86 _ _ (qb82 _ _ hs_b79)) (by decide) (by decide))), (Eq.trans (xv_m hg358 (qr349 _ _ (qS86 _ _ (qb82 _ _ hs_b80))) (by decide) (by decide)) (xv_m hg350 (qS86 _ _ (qb82 _ _ hs_b80)) (by decide) (by decide)))]; exact xTc.mono tc9 (by omega)) (dc9 + dcr349) (ds9 + dsr349) (by omega) (by omega) (by omega)
        · refine X_tableIn hK 914 18 (by decide) c91 (by decide) (by decide) dL_law_40 rfl (by decide) ?_
          refine X_aloadn hK (i := 1) 3 dL_law_914 rfl rfl ?_
          refine X_aloadn hK (i := 0) 4 dL_law_915 rfl rfl ?_
          refine X_iload hK (i := 4) 0 dL_law_916 rfl ?_
          refine X_iconst hK dL_law_918 ?_
          refine X_iadd hK dL_law_919 ?_
          refine X_scr hK hX hbl hbA hL (by omega) (by omega) dL_law_920 (fun z362 ez362 lz362 uz362 => ?_)
          refine X_aloadn hK (i := 0) 4 dL_law_921 rfl rfl ?_
          refine X_iload hK (i := 4) 0 dL_law_922 rfl ?_
          refine X_iconst hK dL_law_924 ?_
          refine X_iadd hK dL_law_925 ?_
          refine X_scr hK hX hbl hbA hL (by omega) (by omega) dL_law_926 (fun z363 ez363 lz363 uz363 => ?_)
          refine X_aloadn hK (i := 3) 1 dL_law_927 rfl rfl ?_
          refine X_callSW hK hts hT hp3 (n := 4) [.ref b1, .int (iI z362), .int (iI z363), .ref b82] [] gl_L_of (by decide +kernel) (cw_L_of _ hst _ _ _ _ S86 g87 b1 b82 z362 z363 (qS86 _ _ (qb82 _ _ hk64)) (qS86 _ _ hs_b82) (by omega) (by omega) al9) dL_law_928 rfl rfl (by simp [Value.category]) (by decide) (by omega) (by omega) (by decide) (fun r365 S366 g367 pr365 qr365 hg367 => ?_)
          obtain ⟨rfl, z364, rfl⟩ := pr365
          refine X_st [.int (iI z364)] rfl ?_
          refine X_istore hK (i := 5) [(5, .int (iI z364)), (4, .int (iI i9)), (3, .ref b82), (2, .ref b36), (1, .ref b1), (0, .ref b)] dL_law_931 (by decide) rfl ?_
          refine X_aloadn hK (i := 2) 3 dL_law_933 rfl rfl ?_
          refine X_aloadn hK (i := 0) 5 dL_law_934 rfl rfl ?_
          refine X_iload hK (i := 4) 1 dL_law_935 rfl ?_
          refine X_iconst hK dL_law_937 ?_
          refine X_iadd hK dL_law_938 ?_
          refine X_scrK hK hX hbl hbA hL (by omega) (by omega) ez362 dL_law_939 ?_
          refine X_aloadn hK (i := 0) 5 dL_law_940 rfl rfl ?_
          refine X_iload hK (i := 4) 1 dL_law_941 rfl ?_
          refine X_iconst hK dL_law_943 ?_
          refine X_iadd hK dL_law_944 ?_
          refine X_scrK hK hX hbl hbA hL (by omega) (by omega) ez363 dL_law_945 ?_
          refine X_callV hK [.int (iI z362), .int (iI z363)] [] lk_L_108 (c_X12_of _ _ _ _ _ S86 g367 b36 z362 z363 (qS86 _ _ (qb82 _ _ hs_y62)) (by omega) (by omega)) (qS86 _ _ (qb82 _ _ hs_y62)) ⟨by decide, rfl⟩ dL_law_946 rfl rfl (by simp [Value.category]) (by decide) (by omega) (by omega) (by decide) (fun r368 S370 g369 pr368 qr368 hg369 => ?_)
          obtain ⟨rfl, z371, rfl, lz371, uz371⟩ := pr368
          refine X_st [.int (iI z371)] rfl ?_
          refine X_istore hK (i := 6) [(6, .int (iI z371)), (5, .int (iI z364)), (4, .int (iI i9)), (3, .ref b82), (2, .ref b36), (1, .ref b1), (0, .ref b)] dL_law_949 (by decide) rfl ?_
          refine X_goto hK 1465 dL_law_951 (by decide) ?_
          refine X_iinc hK (i := 4) (z := i9) (n := 6) 2 [(4, .int (iI (i9 + 6))), (6, .int (iI z371)), (5, .int (iI z364)), (3, .ref b82), (2, .ref b36), (1, .ref b1), (0, .ref b)] dL_law_1465 rfl (by decide) rfl ?_
          refine X_goto hK 23 dL_law_1468 (by decide) ?_
          refine X_lv [(4, .int (iI (i9 + 6))), (3, .ref b82), (2, .ref b36), (1, .ref b1), (0, .ref b)] [0, 3, 4, 5, 6] rfl ?_
          exact ih9 S86 qS86 g369 (i9 + 6) k9 t9 c9 b9 sh9 sp9 sm9 (by omega) (by omega) (by omega) (by omega) (by omega) (by omega) (by omega) (by omega) (xLs_mod (xLs_mod al9 hg367 (by decide)) hg369 (by decide)) si9 (xPi_m (xPi_m pi9 hg367 xLe.rf (by decide)) hg369 xLe.rf (by decide)) (xMp_m (xMp_m mp9 hg367 xLe.rf (by decide)) hg369 xLe.rf (by decide)) (xTw_m (xTw_m tw9 hg367 xLe.rf (by decide)) hg369 xLe.rf (by decide)) ((hg369 b1 12 0 0 (qS86 _ _ (qb82 _ _ hk64)) (by decide)).trans ((hg367 b1 12 0 0 (qS86 _ _ (qb82 _ _ hk64)) (by decide)).trans el09)) ((hg369 b1 12 0 3 (qS86 _ _ (qb82 _ _ hk64)) (by decide)).trans ((hg367 b1 12 0 3 (qS86 _ _ (qb82 _ _ hk64)) (by decide)).trans el19)) ((hg369 b1 12 0 1 (qS86 _ _ (qb82 _ _ hk64)) (by decide)).trans ((hg367 b1 12 0 1 (qS86 _ _ (qb82 _ _ hk64)) (by decide)).trans el29)) ((hg369 b34 6 0 1 (qS86 _ _ (qb82 _ _ hk72)) (by decide)).trans ((hg367 b34 6 0 1 (qS86 _ _ (qb82 _ _ hk72)) (by decide)).trans el39)) ((hg369 b1 12 0 2 (qS86 _ _ (qb82 _ _ hk64)) (by decide)).trans ((hg367 b1 12 0 2 (qS86 _ _ (qb82 _ _ hk64)) (by decide)).trans el49)) ((hg369 b18 4 0 0 (qS86 _ _ (qb82 _ _ hk65)) (by decide)).trans ((hg367 b18 4 0 0 (qS86 _ _ (qb82 _ _ hk65)) (by decide)).trans el59)) ((hg369 b18 4 0 2 (qS86 _ _ (qb82 _ _ hk65)) (by decide)).trans ((hg367 b18 4 0 2 (qS86 _ _ (qb82 _ _ hk65)) (by decide)).trans el69)) ((hg369 b18 4 0 3 (qS86 _ _ (qb82 _ _ hk65)) (by decide)).trans ((hg367 b18 4 0 3 (qS86 _ _ (qb82 _ _ hk65)) (by decide)).trans el79)) ((hg369 b18 4 0 4 (qS86 _ _ (qb82 _ _ hk65)) (by decide)).trans ((hg367 b18 4 0 4 (qS86 _ _ (qb82 _ _ hk65)) (by decide)).trans el89)) ((hg369 b32 10 0 0 (qS86 _ _ (qb82 _ _ hk70)) (by decide)).trans ((hg367 b32 10 0 0 (qS86 _ _ (qb82 _ _ hk70)) (by decide)).trans el99)) ((hg369 b36 13 0 1 (qS86 _ _ (qb82 _ _ hs_y62)) (by decide)).trans ((hg367 b36 13 0 1 (qS86 _ _ (qb82 _ _ hs_y62)) (by decide)).trans el109)) ((hg369 b36 13 0 10 (qS86 _ _ (qb82 _ _ hs_y62)) (by decide)).trans ((hg367 b36 13 0 10 (qS86 _ _ (qb82 _ _ hs_y62)) (by decide)).trans el119)) ((hg369 b36 13 0 13 (qS86 _ _ (qb82 _ _ hs_y62)) (by decide)).trans ((hg367 b36 13 0 13 (qS86 _ _ (qb82 _ _ hs_y62)) (by decide)).trans el129)) ((hg369 b36 13 0 14 (qS86 _ _ (qb82 _ _ hs_y62)) (by decide)).trans ((hg367 b36 13 0 14 (qS86 _ _ (qb82 _ _ hs_y62)) (by decide)).trans el139)) ((hg369 b36 13 0 12 (qS86 _ _ (qb82 _ _ hs_y62)) (by decide)).trans ((hg367 b36 13 0 12 (qS86 _ _ (qb82 _ _ hs_y62)) (by decide)).trans el149)) ((hg369 b32 10 0 1 (qS86 _ _ (qb82 _ _ hk70)) (by decide)).trans ((hg367 b32 10 0 1 (qS86 _ _ (qb82 _ _ hk70)) (by decide)).trans exk9)) ((hg369 b36 13 0 2 (qS86 _ _ (qb82 _ _ hs_y62)) (by decide)).trans ((hg367 b36 13 0 2 (qS86 _ _ (qb82 _ _ hs_y62)) (by decide)).trans emk9)) ((hg369 b1 12 0 12 (qS86 _ _ (qb82 _ _ hk64)) (by decide)).trans ((hg367 b1 12 0 12 (qS86 _ _ (qb82 _ _ hk64)) (by decide)).trans ext9)) ((hg369 b36 13 0 3 (qS86 _ _ (qb82 _ _ hs_y62)) (by decide)).trans ((hg367 b36 13 0 3 (qS86 _ _ (qb82 _ _ hs_y62)) (by decide)).trans emt9)) ((hg369 b33 5 0 3 (qS86 _ _ (qb82 _ _ hk71)) (by decide)).trans ((hg367 b33 5 0 3 (qS86 _ _ (qb82 _ _ hk71)) (by decide)).trans exc9)) ((hg369 b36 13 0 69 (qS86 _ _ (qb82 _ _ hs_y62)) (by decide)).trans ((hg367 b36 13 0 69 (qS86 _ _ (qb82 _ _ hs_y62)) (by decide)).trans emc9)) ((hg369 b35 0 0 2 (qS86 _ _ (qb82 _ _ hk73)) (by decide)).trans ((hg367 b35 0 0 2 (qS86 _ _ (qb82 _ _ hk73)) (by decide)).trans exb9)) ((hg369 b36 13 0 16 (qS86 _ _ (qb82 _ _ hs_y62)) (by decide)).trans ((hg367 b36 13 0 16 (qS86 _ _ (qb82 _ _ hs_y62)) (by decide)).trans emb9)) ((hg369 b1 12 0 16 (qS86 _ _ (qb82 _ _ hk64)) (by decide)).trans ((hg367 b1 12 0 16 (qS86 _ _ (qb82 _ _ hk64)) (by decide)).trans exsh9)) ((hg369 b36 13 0 89 (qS86 _ _ (qb82 _ _ hs_y62)) (by decide)).trans ((hg367 b36 13 0 89 (qS86 _ _ (qb82 _ _ hs_y62)) (by decide)).trans emsh9)) ((hg369 b1 12 0 17 (qS86 _ _ (qb82 _ _ hk64)) (by decide)).trans ((hg367 b1 12 0 17 (qS86 _ _ (qb82 _ _ hk64)) (by decide)).trans exsp9)) ((hg369 b36 13 0 90 (qS86 _ _ (qb82 _ _ hs_y62)) (by decide)).trans ((hg367 b36 13 0 90 (qS86 _ _ (qb82 _ _ hs_y62)) (by decide)).trans emsp9)) ((hg369 b36 13 0 17 (qS86 _ _ (qb82 _ _ hs_y62)) (by decide)).trans ((hg367 b36 13 0 17 (qS86 _ _ (qb82 _ _ hs_y62)) (by decide)).trans emsm9)) (xWn.m (xWn.m wn9 (qS86 _ _ (qb82 _ _ hk69)) (qS86 _ _ (qb82 _ _ hk76)) hg367 xLe.rf (by decide)) (qS86 _ _ (qb82 _ _ hk69)) (qS86 _ _ (qb82 _ _ hk76)) hg369 xLe.rf (by decide)) (by rw [(Eq.trans (xv_m hg369 (qS86 _ _ (qb82 _ _ hk67)) (by decide) (by decide)) (xv_m hg367 (qS86 _ _ (qb82 _ _ hk67)) (by decide) (by decide))), (Eq.trans (xv_m hg369 (qS86 _ _ (qb82 _ _ hk74)) (by decide) (by decide)) (xv_m hg367 (qS86 _ _ (qb82 _ _ hk74)) (by decide) (by decide)))]; exact wt9) (by rw [(Eq.trans (xv_m hg369 (qS86 _ _ (qb82 _ _ hk68)) (by decide) (by decide)) (xv_m hg367 (qS86 _ _ (qb82 _ _ hk68)) (by decide) (by decide))), (Eq.trans (xv_m hg369 (qS86 _ _ (qb82 _ _ hk75)) (by decide) (by decide)) (xv_m hg367 (qS86 _ _ (qb82 _ _ hk75)) (by decide) (by decide)))]; exact ld9) (by rw [(Eq.trans (xv_m hg369 (qS86 _ _ (qb82 _ _ hk66)) (by decide) (by decide)) (xv_m hg367 (qS86 _ _ (qb82 _ _ hk66)) (by decide) (by decide))), (Eq.trans (xv_m hg369 (qS86 _ _ (qb82 _ _ hs_b81)) (by decide) (by decide)) (xv_m hg367 (qS86 _ _ (qb82 _ _ hs_b81)) (by decide) (by decide)))]; exact sk9) (by rw [(Eq.trans (xv_m hg369 (qS86 _ _ (qb82 _ _ hs_b79)) (by decide) (by decide)) (xv_m hg367 (qS86 _ _ (qb82 _ _ hs_b79)) (by decide) (by decide))), (Eq.trans (xv_m hg369 (qS86 _ _ (qb82 _ _ hs_b80)) (by decide) (by decide)) (xv_m hg367 (qS86 _ _ (qb82 _ _ hs_b80)) (by decide) (by decide)))]; exact xTc.mono tc9 (by omega)) (dc9 + 1) (ds9 + 6) (by omega) (by omega) (by omega)
        · refine X_tableIn hK 954 19 (by decide) c91 (by decide) (by decide) dL_law_40 rfl (by decide) ?_
          refine X_aloadn hK (i := 1) 3 dL_law_954 rfl rfl ?_
          refine X_aloadn hK (i := 0) 4 dL_law_955 rfl rfl ?_
          refine X_iload hK (i := 4) 0 dL_law_956 rfl ?_
          refine X_iconst hK dL_law_958 ?_
          refine X_iadd hK dL_law_959 ?_
          refine X_scr hK hX hbl hbA hL (by omega) (by omega) dL_law_960 (fun z372 ez372 lz372 uz372 => ?_)
          refine X_aloadn hK (i := 3) 1 dL_law_961 rfl rfl ?_
          refine X_callSW hK hts hT hp3 (n := 3) [.ref b1, .int (iI z372), .ref b82] [] gl_L_coin (by decide +kernel) (cw_L_coin _ hst _ _ _ _ S86 g87 b1 b82 z372 (qS86 _ _ (qb82 _ _ hk64)) (qS86 _ _ hs_b82) (by omega) al9) dL_law_962 rfl rfl (by simp [Value.category]) (by decide) (by omega) (by omega) (by decide) (fun r374 S375 g376 pr374 qr374 hg376 => ?_)
          obtain ⟨rfl, z373, rfl⟩ := pr374
          refine X_st [.int (iI z373)] rfl ?_
          refine X_istore hK (i := 5) [(5, .int (iI z373)), (4, .int (iI i9)), (3, .ref b82), (2, .ref b36), (1, .ref b1), (0, .ref b)] dL_law_965 (by decide) rfl ?_
          refine X_aloadn hK (i := 2) 3 dL_law_967 rfl rfl ?_
          refine X_aloadn hK (i := 0) 5 dL_law_968 rfl rfl ?_
          refine X_iload hK (i := 4) 1 dL_law_969 rfl ?_
          refine X_iconst hK dL_law_971 ?_
          refine X_iadd hK dL_law_972 ?_
          refine X_scrK hK hX hbl hbA hL (by omega) (by omega) ez372 dL_law_973 ?_
          refine X_callV hK [.int (iI z372)] [] lk_L_112 (c_X12_coin _ _ _ _ _ S86 g376 b36 z372 (qS86 _ _ (qb82 _ _ hs_y62)) (by omega)) (qS86 _ _ (qb82 _ _ hs_y62)) ⟨by decide, rfl⟩ dL_law_974 rfl rfl (by simp [Value.category]) (by decide) (by omega) (by omega) (by decide) (fun r377 S379 g378 pr377 qr377 hg378 => ?_)
          obtain ⟨rfl, z380, rfl, lz380, uz380⟩ := pr377
          refine X_st [.int (iI z380)] rfl ?_
          refine X_istore hK (i := 6) [(6, .int (iI z380)), (5, .int (iI z373)), (4, .int (iI i9)), (3, .ref b82), (2, .ref b36), (1, .ref b1), (0, .ref b)] dL_law_977 (by decide) rfl ?_
          refine X_goto hK 1465 dL_law_979 (by decide) ?_
          refine X_iinc hK (i := 4) (z := i9) (n := 6) 2 [(4, .int (iI (i9 + 6))), (6, .int (iI z380)), (5, .int (iI z373)), (3, .ref b82), (2, .ref b36), (1, .ref b1), (0, .ref b)] dL_law_1465 rfl (by decide) rfl ?_
          refine X_goto hK 23 dL_law_1468 (by decide) ?_
          refine X_lv [(4, .int (iI (i9 + 6))), (3, .ref b82), (2, .ref b36), (1, .ref b1), (0, .ref b)] [0, 3, 4, 5, 6] rfl ?_
          exact ih9 S86 qS86 g378 (i9 + 6) k9 t9 c9 b9 sh9 sp9 sm9 (by omega) (by omega) (by omega) (by omega) (by omega) (by omega) (by omega) (by omega) (xLs_mod (xLs_mod al9 hg376 (by decide)) hg378 (by decide)) si9 (xPi_m (xPi_m pi9 hg376 xLe.rf (by decide)) hg378 xLe.rf (by decide)) (xMp_m (xMp_m mp9 hg376 xLe.rf (by decide)) hg378 xLe.rf (by decide)) (xTw_m (xTw_m tw9 hg376 xLe.rf (by decide)) hg378 xLe.rf (by decide)) ((hg378 b1 12 0 0 (qS86 _ _ (qb82 _ _ hk64)) (by decide)).trans ((hg376 b1 12 0 0 (qS86 _ _ (qb82 _ _ hk64)) (by decide)).trans el09)) ((hg378 b1 12 0 3 (qS86 _ _ (qb82 _ _ hk64)) (by decide)).trans ((hg376 b1 12 0 3 (qS86 _ _ (qb82 _ _ hk64)) (by decide)).trans el19)) ((hg378 b1 12 0 1 (qS86 _ _ (qb82 _ _ hk64)) (by decide)).trans ((hg376 b1 12 0 1 (qS86 _ _ (qb82 _ _ hk64)) (by decide)).trans el29)) ((hg378 b34 6 0 1 (qS86 _ _ (qb82 _ _ hk72)) (by decide)).trans ((hg376 b34 6 0 1 (qS86 _ _ (qb82 _ _ hk72)) (by decide)).trans el39)) ((hg378 b1 12 0 2 (qS86 _ _ (qb82 _ _ hk64)) (by decide)).trans ((hg376 b1 12 0 2 (qS86 _ _ (qb82 _ _ hk64)) (by decide)).trans el49)) ((hg378 b18 4 0 0 (qS86 _ _ (qb82 _ _ hk65)) (by decide)).trans ((hg376 b18 4 0 0 (qS86 _ _ (qb82 _ _ hk65)) (by decide)).trans el59)) ((hg378 b18 4 0 2 (qS86 _ _ (qb82 _ _ hk65)) (by decide)).trans ((hg376 b18 4 0 2 (qS86 _ _ (qb82 _ _ hk65)) (by decide)).trans el69)) ((hg378 b18 4 0 3 (qS86 _ _ (qb82 _ _ hk65)) (by decide)).trans ((hg376 b18 4 0 3 (qS86 _ _ (qb82 _ _ hk65)) (by decide)).trans el79)) ((hg378 b18 4 0 4 (qS86 _ _ (qb82 _ _ hk65)) (by decide)).trans ((hg376 b18 4 0 4 (qS86 _ _ (qb82 _ _ hk65)) (by decide)).trans el89)) ((hg378 b32 10 0 0 (qS86 _ _ (qb82 _ _ hk70)) (by decide)).trans ((hg376 b32 10 0 0 (qS86 _ _ (qb82 _ _ hk70)) (by decide)).trans el99)) ((hg378 b36 13 0 1 (qS86 _ _ (qb82 _ _ hs_y62)) (by decide)).trans ((hg376 b36 13 0 1 (qS86 _ _ (qb82 _ _ hs_y62)) (by decide)).trans el109)) ((hg378 b36 13 0 10 (qS86 _ _ (qb82 _ _ hs_y62)) (by decide)).trans ((hg376 b36 13 0 10 (qS86 _ _ (qb82 _ _ hs_y62)) (by decide)).trans el119)) ((hg378 b36 13 0 13 (qS86 _ _ (qb82 _ _ hs_y62)) (by decide)).trans ((hg376 b36 13 0 13 (qS86 _ _ (qb82 _ _ hs_y62)) (by decide)).trans el129)) ((hg378 b36 13 0 14 (qS86 _ _ (qb82 _ _ hs_y62)) (by decide)).trans ((hg376 b36 13 0 14 (qS86 _ _ (qb82 _ _ hs_y62)) (by decide)).trans el139)) ((hg378 b36 13 0 12 (qS86 _ _ (qb82 _ _ hs_y62)) (by decide)).trans ((hg376 b36 13 0 12 (qS86 _ _ (qb82 _ _ hs_y62)) (by decide)).trans el149)) ((hg378 b32 10 0 1 (qS86 _ _ (qb82 _ _ hk70)) (by decide)).trans ((hg376 b32 10 0 1 (qS86 _ _ (qb82 _ _ hk70)) (by decide)).trans exk9)) ((hg378 b36 13 0 2 (qS86 _ _ (qb82 _ _ hs_y62)) (by decide)).trans ((hg376 b36 13 0 2 (qS86 _ _ (qb82 _ _ hs_y62)) (by decide)).trans emk9)) ((hg378 b1 12 0 12 (qS86 _ _ (qb82 _ _ hk64)) (by decide)).trans ((hg376 b1 12 0 12 (qS86 _ _ (qb82 _ _ hk64)) (by decide)).trans ext9)) ((hg378 b36 13 0 3 (qS86 _ _ (qb82 _ _ hs_y62)) (by decide)).trans ((hg376 b36 13 0 3 (qS86 _ _ (qb82 _ _ hs_y62)) (by decide)).trans emt9)) ((hg378 b33 5 0 3 (qS86 _ _ (qb82 _ _ hk71)) (by decide)).trans ((hg376 b33 5 0 3 (qS86 _ _ (qb82 _ _ hk71)) (by decide)).trans exc9)) ((hg378 b36 13 0 69 (qS86 _ _ (qb82 _ _ hs_y62)) (by decide)).trans ((hg376 b36 13 0 69 (qS86 _ _ (qb82 _ _ hs_y62)) (by decide)).trans emc9)) ((hg378 b35 0 0 2 (qS86 _ _ (qb82 _ _ hk73)) (by decide)).trans ((hg376 b35 0 0 2 (qS86 _ _ (qb82 _ _ hk73)) (by decide)).trans exb9)) ((hg378 b36 13 0 16 (qS86 _ _ (qb82 _ _ hs_y62)) (by decide)).trans ((hg376 b36 13 0 16 (qS86 _ _ (qb82 _ _ hs_y62)) (by decide)).trans emb9)) ((hg378 b1 12 0 16 (qS86 _ _ (qb82 _ _ hk64)) (by decide)).trans ((hg376 b1 12 0 16 (qS86 _ _ (qb82 _ _ hk64)) (by decide)).trans exsh9)) ((hg378 b36 13 0 89 (qS86 _ _ (qb82 _ _ hs_y62)) (by decide)).trans ((hg376 b36 13 0 89 (qS86 _ _ (qb82 _ _ hs_y62)) (by decide)).trans emsh9)) ((hg378 b1 12 0 17 (qS86 _ _ (qb82 _ _ hk64)) (by decide)).trans ((hg376 b1 12 0 17 (qS86 _ _ (qb82 _ _ hk64)) (by decide)).trans exsp9)) ((hg378 b36 13 0 90 (qS86 _ _ (qb82 _ _ hs_y62)) (by decide)).trans ((hg376 b36 13 0 90 (qS86 _ _ (qb82 _ _ hs_y62)) (by decide)).trans emsp9)) ((hg378 b36 13 0 17 (qS86 _ _ (qb82 _ _ hs_y62)) (by decide)).trans ((hg376 b36 13 0 17 (qS86 _ _ (qb82 _ _ hs_y62)) (by decide)).trans emsm9)) (xWn.m (xWn.m wn9 (qS86 _ _ (qb82 _ _ hk69)) (qS86 _ _ (qb82 _ _ hk76)) hg376 xLe.rf (by decide)) (qS86 _ _ (qb82 _ _ hk69)) (qS86 _ _ (qb82 _ _ hk76)) hg378 xLe.rf (by decide)) (by rw [(Eq.trans (xv_m hg378 (qS86 _ _ (qb82 _ _ hk67)) (by decide) (by decide)) (xv_m hg376 (qS86 _ _ (qb82 _ _ hk67)) (by decide) (by decide))), (Eq.trans (xv_m hg378 (qS86 _ _ (qb82 _ _ hk74)) (by decide) (by decide)) (xv_m hg376 (qS86 _ _ (qb82 _ _ hk74)) (by decide) (by decide)))]; exact wt9) (by rw [(Eq.trans (xv_m hg378 (qS86 _ _ (qb82 _ _ hk68)) (by decide) (by decide)) (xv_m hg376 (qS86 _ _ (qb82 _ _ hk68)) (by decide) (by decide))), (Eq.trans (xv_m hg378 (qS86 _ _ (qb82 _ _ hk75)) (by decide) (by decide)) (xv_m hg376 (qS86 _ _ (qb82 _ _ hk75)) (by decide) (by decide)))]; exact ld9) (by rw [(Eq.trans (xv_m hg378 (qS86 _ _ (qb82 _ _ hk66)) (by decide) (by decide)) (xv_m hg376 (qS86 _ _ (qb82 _ _ hk66)) (by decide) (by decide))), (Eq.trans (xv_m hg378 (qS86 _ _ (qb82 _ _ hs_b81)) (by decide) (by decide)) (xv_m hg376 (qS86 _ _ (qb82 _ _ hs_b81)) (by decide) (by decide)))]; exact sk9) (by rw [(Eq.trans (xv_m hg378 (qS86 _ _ (qb82 _ _ hs_b79)) (by decide) (by decide)) (xv_m hg376 (qS86 _ _ (qb82 _ _ hs_b79)) (by decide) (by decide))), (Eq.trans (xv_m hg378 (qS86 _ _ (qb82 _ _ hs_b80)) (by decide) (by decide)) (xv_m hg376 (qS86 _ _ (qb82 _ _ hs_b80)) (by decide) (by decide)))]; exact xTc.mono tc9 (by omega)) (dc9 + 1) (ds9 + 6) (by omega) (by omega) (by omega)
        · refine X_tableIn hK 982 20 (by decide) c91 (by decide) (by decide) dL_law_40 rfl (by decide) ?_
          refine X_aloadn hK (i := 1) 3 dL_law_982 rfl rfl ?_
          refine X_aloadn hK (i := 0) 4 dL_law_983 rfl rfl ?_
          refine X_iload hK (i := 4) 0 dL_law_984 rfl ?_
          refine X_iconst hK dL_law_986 ?_
          refine X_iadd hK dL_law_987 ?_
          refine X_scr hK hX hbl hbA hL (by omega) (by omega) dL_law_988 (fun z381 ez381 lz381 uz381 => ?_)
          refine X_aloadn hK (i := 0) 4 dL_law_989 rfl rfl ?_
          refine X_iload hK (i := 4) 0 dL_law_990 rfl ?_
          refine X_iconst hK dL_law_992 ?_
          refine X_iadd hK dL_law_993 ?_
          refine X_scr hK hX hbl hbA hL (by omega) (by omega) dL_law_994 (fun z382 ez382 lz382 uz382 => ?_)
          refine X_aloadn hK (i := 0) 4 dL_law_995 rfl rfl ?_
          refine X_iload hK (i := 4) 0 dL_law_996 rfl ?_
          refine X_iconst hK dL_law_998 ?_
          refine X_iadd hK dL_law_999 ?_
          refine X_scr hK hX hbl hbA hL (by omega) (by omega) dL_law_1000 (fun z383 ez383 lz383 uz383 => ?_)
          refine X_aloadn hK (i := 0) 4 dL_law_1001 rfl rfl ?_
          refine X_iload hK (i := 4) 0 dL_law_1002 rfl ?_
          refine X_iconst hK dL_law_1004 ?_
          refine X_iadd hK dL_law_1005 ?_
          refine X_scr hK hX hbl hbA hL (by omega) (by omega) dL_law_1006 (fun z384 ez384 lz384 uz384 => ?_)
          refine X_callV hK [.int (iI z381), .int (iI z382), .int (iI z383), .int (iI z384)] [] lk_L_113 (c_X11_counted _ _ _ _ _ S86 g87 b1 z381 z382 z383 z384 b33 c9 t9 (qS86 _ _ (qb82 _ _ hk64)) (by omega) (by omega) (by omega) (by omega) el19 (qS86 _ _ (qb82 _ _ hk71)) (by omega) exc9 (by omega) ext9) (qS86 _ _ (qb82 _ _ hk64)) ⟨by decide, rfl⟩ dL_law_1007 rfl rfl (by simp [Value.category]) (by decide) (by omega) (by omega) (by decide) (fun r385 S387 g386 pr385 qr385 hg386 => ?_)
          obtain ⟨rfl, z388, rfl, lz388, uz388, k389, k390⟩ := pr385
          refine X_st [.int (iI z388)] rfl ?_
          refine X_pop hK dL_law_1010 rfl ?_
          refine X_aloadn hK (i := 2) 2 dL_law_1011 rfl rfl ?_
          refine X_aloadn hK (i := 0) 4 dL_law_1012 rfl rfl ?_
          refine X_iload hK (i := 4) 0 dL_law_1013 rfl ?_
          refine X_iconst hK dL_law_1015 ?_
          refine X_iadd hK dL_law_1016 ?_
          refine X_scrK hK hX hbl hbA hL (by omega) (by omega) ez381 dL_law_1017 ?_
          refine X_aloadn hK (i := 0) 4 dL_law_1018 rfl rfl ?_
          refine X_iload hK (i := 4) 0 dL_law_1019 rfl ?_
          refine X_iconst hK dL_law_1021 ?_
          refine X_iadd hK dL_law_1022 ?_
          refine X_scrK hK hX hbl hbA hL (by omega) (by omega) ez382 dL_law_1023 ?_
          refine X_aloadn hK (i := 0) 4 dL_law_1024 rfl rfl ?_
          refine X_iload hK (i := 4) 0 dL_law_1025 rfl ?_
          refine X_iconst hK dL_law_1027 ?_
          refine X_iadd hK dL_law_1028 ?_
          refine X_scrK hK hX hbl hbA hL (by omega) (by omega) ez383 dL_law_1029 ?_
          refine X_aloadn hK (i := 0) 4 dL_law_1030 rfl rfl ?_
          refine X_iload hK (i := 4) 0 dL_law_1031 rfl ?_
          refine X_iconst hK dL_law_1033 ?_
          refine X_iadd hK dL_law_1034 ?_
          refine X_scrK hK hX hbl hbA hL (by omega) (by omega) ez384 dL_law_1035 ?_
          refine X_callV hK [.int (iI z381), .int (iI z382), .int (iI z383), .int (iI z384)] [] lk_L_116 (c_X12_counted _ _ _ _ _ S86 g386 b36 z381 z382 z383 z384 c9 t9 (qS86 _ _ (qb82 _ _ hs_y62)) (by omega) (by omega) (by omega) (by omega) (by omega) ((hg386 b36 13 0 69 (qS86 _ _ (qb82 _ _ hs_y62)) (by decide)).trans emc9) (by omega) ((hg386 b36 13 0 3 (qS86 _ _ (qb82 _ _ hs_y62)) (by decide)).trans emt9)) (qS86 _ _ (qb82 _ _ hs_y62)) ⟨by decide, rfl⟩ dL_law_1036 rfl rfl (by simp [Value.category]) (by decide) (by omega) (by omega) (by decide) (fun r391 S393 g392 pr391 qr391 hg392 => ?_)
          obtain ⟨rfl, z394, rfl, lz394, uz394, k395, k396⟩ := pr391
          refine X_st [.int (iI z394)] rfl ?_
          refine X_pop hK dL_law_1039 rfl ?_
          refine X_goto hK 1465 dL_law_1040 (by decide) ?_
          refine X_iinc hK (i := 4) (z := i9) (n := 6) 0 [(4, .int (iI (i9 + 6))), (3, .ref b82), (2, .ref b36), (1, .ref b1), (0, .ref b)] dL_law_1465 rfl (by decide) rfl ?_
          refine X_goto hK 23 dL_law_1468 (by decide) ?_
          exact ih9 S86 qS86 g392 (i9 + 6) k9 t9 (if c9 < 60 ∧ 0 ≤ z381 ∧ z381 ≤ 3 ∧ 0 ≤ z382 ∧ z382 ≤ 9 ∧ 0 ≤ z383 ∧ z383 < t9 ∧ 0 ≤ z384 ∧ z384 ≤ 10000 then c9 + 1 else c9) b9 sh9 sp9 sm9 (by omega) (by omega) (by omega) (by first | omega | (split <;> omega)) (by omega) (by omega) (by omega) (by omega) (xLs_mod (xLs_mod al9 hg386 (by decide)) hg392 (by decide)) si9 (xPi_m (xPi_m pi9 hg386 xLe.rf (by decide)) hg392 xLe.rf (by decide)) (xMp_m (xMp_m mp9 hg386 xLe.rf (by decide)) hg392 xLe.rf (by decide)) (xTw_m (xTw_m tw9 hg386 xLe.rf (by decide)) hg392 xLe.rf (by decide)) ((hg392 b1 12 0 0 (qS86 _ _ (qb82 _ _ hk64)) (by decide)).trans ((hg386 b1 12 0 0 (qS86 _ _ (qb82 _ _ hk64)) (by decide)).trans el09)) ((hg392 b1 12 0 3 (qS86 _ _ (qb82 _ _ hk64)) (by decide)).trans ((hg386 b1 12 0 3 (qS86 _ _ (qb82 _ _ hk64)) (by decide)).trans el19)) ((hg392 b1 12 0 1 (qS86 _ _ (qb82 _ _ hk64)) (by decide)).trans ((hg386 b1 12 0 1 (qS86 _ _ (qb82 _ _ hk64)) (by decide)).trans el29)) ((hg392 b34 6 0 1 (qS86 _ _ (qb82 _ _ hk72)) (by decide)).trans ((hg386 b34 6 0 1 (qS86 _ _ (qb82 _ _ hk72)) (by decide)).trans el39)) ((hg392 b1 12 0 2 (qS86 _ _ (qb82 _ _ hk64)) (by decide)).trans ((hg386 b1 12 0 2 (qS86 _ _ (qb82 _ _ hk64)) (by decide)).trans el49)) ((hg392 b18 4 0 0 (qS86 _ _ (qb82 _ _ hk65)) (by decide)).trans ((hg386 b18 4 0 0 (qS86 _ _ (qb82 _ _ hk65)) (by decide)).trans el59)) ((hg392 b18 4 0 2 (qS86 _ _ (qb82 _ _ hk65)) (by decide)).trans ((hg386 b18 4 0 2 (qS86 _ _ (qb82 _ _ hk65)) (by decide)).trans el69)) ((hg392 b18 4 0 3 (qS86 _ _ (qb82 _ _ hk65)) (by decide)).trans ((hg386 b18 4 0 3 (qS86 _ _ (qb82 _ _ hk65)) (by decide)).trans el79)) ((hg392 b18 4 0 4 (qS86 _ _ (qb82 _ _ hk65)) (by decide)).trans ((hg386 b18 4 0 4 (qS86 _ _ (qb82 _ _ hk65)) (by decide)).trans el89)) ((hg392 b32 10 0 0 (qS86 _ _ (qb82 _ _ hk70)) (by decide)).trans ((hg386 b32 10 0 0 (qS86 _ _ (qb82 _ _ hk70)) (by decide)).trans el99)) ((hg392 b36 13 0 1 (qS86 _ _ (qb82 _ _ hs_y62)) (by decide)).trans ((hg386 b36 13 0 1 (qS86 _ _ (qb82 _ _ hs_y62)) (by decide)).trans el109)) ((hg392 b36 13 0 10 (qS86 _ _ (qb82 _ _ hs_y62)) (by decide)).trans ((hg386 b36 13 0 10 (qS86 _ _ (qb82 _ _ hs_y62)) (by decide)).trans el119)) ((hg392 b36 13 0 13 (qS86 _ _ (qb82 _ _ hs_y62)) (by decide)).trans ((hg386 b36 13 0 13 (qS86 _ _ (qb82 _ _ hs_y62)) (by decide)).trans el129)) ((hg392 b36 13 0 14 (qS86 _ _ (qb82 _ _ hs_y62)) (by decide)).trans ((hg386 b36 13 0 14 (qS86 _ _ (qb82 _ _ hs_y62)) (by decide)).trans el139)) ((hg392 b36 13 0 12 (qS86 _ _ (qb82 _ _ hs_y62)) (by decide)).trans ((hg386 b36 13 0 12 (qS86 _ _ (qb82 _ _ hs_y62)) (by decide)).trans el149)) ((hg392 b32 10 0 1 (qS86 _ _ (qb82 _ _ hk70)) (by decide)).trans ((hg386 b32 10 0 1 (qS86 _ _ (qb82 _ _ hk70)) (by decide)).trans exk9)) ((hg392 b36 13 0 2 (qS86 _ _ (qb82 _ _ hs_y62)) (by decide)).trans ((hg386 b36 13 0 2 (qS86 _ _ (qb82 _ _ hs_y62)) (by decide)).trans emk9)) ((hg392 b1 12 0 12 (qS86 _ _ (qb82 _ _ hk64)) (by decide)).trans ((hg386 b1 12 0 12 (qS86 _ _ (qb82 _ _ hk64)) (by decide)).trans ext9)) ((hg392 b36 13 0 3 (qS86 _ _ (qb82 _ _ hs_y62)) (by decide)).trans ((hg386 b36 13 0 3 (qS86 _ _ (qb82 _ _ hs_y62)) (by decide)).trans emt9)) ((hg392 b33 5 0 3 (qS86 _ _ (qb82 _ _ hk71)) (by decide)).trans k390) k396 ((hg392 b35 0 0 2 (qS86 _ _ (qb82 _ _ hk73)) (by decide)).trans ((hg386 b35 0 0 2 (qS86 _ _ (qb82 _ _ hk73)) (by decide)).trans exb9)) ((hg392 b36 13 0 16 (qS86 _ _ (qb82 _ _ hs_y62)) (by decide)).trans ((hg386 b36 13 0 16 (qS86 _ _ (qb82 _ _ hs_y62)) (by decide)).trans emb9)) ((hg392 b1 12 0 16 (qS86 _ _ (qb82 _ _ hk64)) (by decide)).trans ((hg386 b1 12 0 16 (qS86 _ _ (qb82 _ _ hk64)) (by decide)).trans exsh9)) ((hg392 b36 13 0 89 (qS86 _ _ (qb82 _ _ hs_y62)) (by decide)).trans ((hg386 b36 13 0 89 (qS86 _ _ (qb82 _ _ hs_y62)) (by decide)).trans emsh9)) ((hg392 b1 12 0 17 (qS86 _ _ (qb82 _ _ hk64)) (by decide)).trans ((hg386 b1 12 0 17 (qS86 _ _ (qb82 _ _ hk64)) (by decide)).trans exsp9)) ((hg392 b36 13 0 90 (qS86 _ _ (qb82 _ _ hs_y62)) (by decide)).trans ((hg386 b36 13 0 90 (qS86 _ _ (qb82 _ _ hs_y62)) (by decide)).trans emsp9)) ((hg392 b36 13 0 17 (qS86 _ _ (qb82 _ _ hs_y62)) (by decide)).trans ((hg386 b36 13 0 17 (qS86 _ _ (qb82 _ _ hs_y62)) (by decide)).trans emsm9)) (xWn.m (xWn.m wn9 (qS86 _ _ (qb82 _ _ hk69)) (qS86 _ _ (qb82 _ _ hk76)) hg386 xLe.rf (by decide)) (qS86 _ _ (qb82 _ _ hk69)) (qS86 _ _ (qb82 _ _ hk76)) hg392 xLe.rf (by decide)) (by rw [(Eq.trans (xv_m hg392 (qS86 _ _ (qb82 _ _ hk67)) (by decide) (by decide)) (xv_m hg386 (qS86 _ _ (qb82 _ _ hk67)) (by decide) (by decide))), (Eq.trans (xv_m hg392 (qS86 _ _ (qb82 _ _ hk74)) (by decide) (by decide)) (xv_m hg386 (qS86 _ _ (qb82 _ _ hk74)) (by decide) (by decide)))]; exact wt9) (by rw [(Eq.trans (xv_m hg392 (qS86 _ _ (qb82 _ _ hk68)) (by decide) (by decide)) (xv_m hg386 (qS86 _ _ (qb82 _ _ hk68)) (by decide) (by decide))), (Eq.trans (xv_m hg392 (qS86 _ _ (qb82 _ _ hk75)) (by decide) (by decide)) (xv_m hg386 (qS86 _ _ (qb82 _ _ hk75)) (by decide) (by decide)))]; exact ld9) (by rw [(Eq.trans (xv_m hg392 (qS86 _ _ (qb82 _ _ hk66)) (by decide) (by decide)) (xv_m hg386 (qS86 _ _ (qb82 _ _ hk66)) (by decide) (by decide))), (Eq.trans (xv_m hg392 (qS86 _ _ (qb82 _ _ hs_b81)) (by decide) (by decide)) (xv_m hg386 (qS86 _ _ (qb82 _ _ hs_b81)) (by decide) (by decide)))]; exact sk9) (by rw [(Eq.trans (xv_m hg392 (qS86 _ _ (qb82 _ _ hs_b79)) (by decide) (by decide)) (xv_m hg386 (qS86 _ _ (qb82 _ _ hs_b79)) (by decide) (by decide))), (Eq.trans (xv_m hg392 (qS86 _ _ (qb82 _ _ hs_b80)) (by decide) (by decide)) (xv_m hg386 (qS86 _ _ (qb82 _ _ hs_b80)) (by decide) (by decide)))]; exact xTc.mono tc9 (by omega)) dc9 ds9 (by omega) (by omega) (by omega)
        · refine X_tableIn hK 1043 21 (by decide) c91 (by decide) (by decide) dL_law_40 rfl (by decide) ?_
          refine X_aloadn hK (i := 1) 3 dL_law_1043 rfl rfl ?_
          refine X_aloadn hK (i := 0) 4 dL_law_1044 rfl rfl ?_
          refine X_iload hK (i := 4) 0 dL_law_1045 rfl ?_
          refine X_iconst hK dL_law_1047 ?_
          refine X_iadd hK dL_law_1048 ?_
          refine X_scr hK hX hbl hbA hL (by omega) (by omega) dL_law_1049 (fun z397 ez397 lz397 uz397 => ?_)
          refine X_callV hK [.int (iI z397)] [] lk_L_117 (c_X11_falseCounts _ _ _ _ _ S86 g87 b1 z397 (qS86 _ _ (qb82 _ _ hk64)) (by omega) al9) (qS86 _ _ (qb82 _ _ hk64)) ⟨by decide, rfl⟩ dL_law_1050 rfl rfl (by simp [Value.category]) (by decide) (by omega) (by omega) (by decide) (fun r398 S400 g399 pr398 qr398 hg399 => ?_)
          obtain ⟨rfl, rfl, z401, rfl, lz401, uz401⟩ := pr398
          refine X_st [.int (iI z401)] rfl ?_
          refine X_pop hK dL_law_1053 rfl ?_
          refine X_aloadn hK (i := 2) 2 dL_law_1054 rfl rfl ?_
          refine X_aloadn hK (i := 0) 4 dL_law_1055 rfl rfl ?_
          refine X_iload hK (i := 4) 0 dL_law_1056 rfl ?_
          refine X_iconst hK dL_law_1058 ?_
          refine X_iadd hK dL_law_1059 ?_
          refine X_scrK hK hX hbl hbA hL (by omega) (by omega) ez397 dL_law_1060 ?_
          refine X_callV hK [.int (iI z397)] [] lk_L_120 (c_X12_falseCounts _ _ _ _ _ S86 g87 b36 z397 (qS86 _ _ (qb82 _ _ hs_y62)) (by omega)) (qS86 _ _ (qb82 _ _ hs_y62)) ⟨by decide, rfl⟩ dL_law_1061 rfl rfl (by simp [Value.category]) (by decide) (by omega) (by omega) (by decide) (fun r402 S404 g403 pr402 qr402 hg403 => ?_)
          obtain ⟨rfl, z405, rfl, lz405, uz405⟩ := pr402
          refine X_st [.int (iI z405)] rfl ?_
          refine X_pop hK dL_law_1064 rfl ?_
          refine X_goto hK 1465 dL_law_1065 (by decide) ?_
          refine X_iinc hK (i := 4) (z := i9) (n := 6) 0 [(4, .int (iI (i9 + 6))), (3, .ref b82), (2, .ref b36), (1, .ref b1), (0, .ref b)] dL_law_1465 rfl (by decide) rfl ?_
          refine X_goto hK 23 dL_law_1468 (by decide) ?_
          exact ih9 S86 qS86 g403 (i9 + 6) k9 t9 c9 b9 sh9 sp9 sm9 (by omega) (by omega) (by omega) (by omega) (by omega) (by omega) (by omega) (by omega) (xLs_mod al9 hg403 (by decide)) si9 (xPi_m pi9 hg403 xLe.rf (by decide)) (xMp_m mp9 hg403 xLe.rf (by decide)) (xTw_m tw9 hg403 xLe.rf (by decide)) ((hg403 b1 12 0 0 (qS86 _ _ (qb82 _ _ hk64)) (by decide)).trans el09) ((hg403 b1 12 0 3 (qS86 _ _ (qb82 _ _ hk64)) (by decide)).trans el19) ((hg403 b1 12 0 1 (qS86 _ _ (qb82 _ _ hk64)) (by decide)).trans el29) ((hg403 b34 6 0 1 (qS86 _ _ (qb82 _ _ hk72)) (by decide)).trans el39) ((hg403 b1 12 0 2 (qS86 _ _ (qb82 _ _ hk64)) (by decide)).trans el49) ((hg403 b18 4 0 0 (qS86 _ _ (qb82 _ _ hk65)) (by decide)).trans el59) ((hg403 b18 4 0 2 (qS86 _ _ (qb82 _ _ hk65)) (by decide)).trans el69) ((hg403 b18 4 0 3 (qS86 _ _ (qb82 _ _ hk65)) (by decide)).trans el79) ((hg403 b18 4 0 4 (qS86 _ _ (qb82 _ _ hk65)) (by decide)).trans el89) ((hg403 b32 10 0 0 (qS86 _ _ (qb82 _ _ hk70)) (by decide)).trans el99) ((hg403 b36 13 0 1 (qS86 _ _ (qb82 _ _ hs_y62)) (by decide)).trans el109) ((hg403 b36 13 0 10 (qS86 _ _ (qb82 _ _ hs_y62)) (by decide)).trans el119) ((hg403 b36 13 0 13 (qS86 _ _ (qb82 _ _ hs_y62)) (by decide)).trans el129) ((hg403 b36 13 0 14 (qS86 _ _ (qb82 _ _ hs_y62)) (by decide)).trans el139) ((hg403 b36 13 0 12 (qS86 _ _ (qb82 _ _ hs_y62)) (by decide)).trans el149) ((hg403 b32 10 0 1 (qS86 _ _ (qb82 _ _ hk70)) (by decide)).trans exk9) ((hg403 b36 13 0 2 (qS86 _ _ (qb82 _ _ hs_y62)) (by decide)).trans emk9) ((hg403 b1 12 0 12 (qS86 _ _ (qb82 _ _ hk64)) (by decide)).trans ext9) ((hg403 b36 13 0 3 (qS86 _ _ (qb82 _ _ hs_y62)) (by decide)).trans emt9) ((hg403 b33 5 0 3 (qS86 _ _ (qb82 _ _ hk71)) (by decide)).trans exc9) ((hg403 b36 13 0 69 (qS86 _ _ (qb82 _ _ hs_y62)) (by decide)).trans emc9) ((hg403 b35 0 0 2 (qS86 _ _ (qb82 _ _ hk73)) (by decide)).trans exb9) ((hg403 b36 13 0 16 (qS86 _ _ (qb82 _ _ hs_y62)) (by decide)).trans emb9) ((hg403 b1 12 0 16 (qS86 _ _ (qb82 _ _ hk64)) (by decide)).trans exsh9) ((hg403 b36 13 0 89 (qS86 _ _ (qb82 _ _ hs_y62)) (by decide)).trans emsh9) ((hg403 b1 12 0 17 (qS86 _ _ (qb82 _ _ hk64)) (by decide)).trans exsp9) ((hg403 b36 13 0 90 (qS86 _ _ (qb82 _ _ hs_y62)) (by decide)).trans emsp9) ((hg403 b36 13 0 17 (qS86 _ _ (qb82 _ _ hs_y62)) (by decide)).trans emsm9) (xWn.m wn9 (qS86 _ _ (qb82 _ _ hk69)) (qS86 _ _ (qb82 _ _ hk76)) hg403 xLe.rf (by decide)) (by rw [(xv_m hg403 (qS86 _ _ (qb82 _ _ hk67)) (by decide) (by decide)), (xv_m hg403 (qS86 _ _ (qb82 _ _ hk74)) (by decide) (by decide))]; exact wt9) (by rw [(xv_m hg403 (qS86 _ _ (qb82 _ _ hk68)) (by decide) (by decide)), (xv_m hg403 (qS86 _ _ (qb82 _ _ hk75)) (by decide) (by decide))]; exact ld9) (by rw [(xv_m hg403 (qS86 _ _ (qb82 _ _ hk66)) (by decide) (by decide)), (xv_m hg403 (qS86 _ _ (qb82 _ _ hs_b81)) (by decide) (by decide))]; exact sk9) (by rw [(xv_m hg403 (qS86 _ _ (qb82 _ _ hs_b79)) (by decide) (by decide)), (xv_m hg403 (qS86 _ _ (qb82 _ _ hs_b80)) (by decide) (by decide))]; exact xTc.mono tc9 (by omega)) dc9 ds9 (by omega) (by omega) (by omega)
        · refine X_tableIn hK 1068 22 (by decide) c91 (by decide) (by decide) dL_law_40 rfl (by decide) ?_
          refine X_aloadn hK (i := 1) 3 dL_law_1068 rfl rfl ?_
          refine X_aloadn hK (i := 0) 4 dL_law_1069 rfl rfl ?_
          refine X_iload hK (i := 4) 0 dL_law_1070 rfl ?_
          refine X_iconst hK dL_law_1072 ?_
          refine X_iadd hK dL_law_1073 ?_
          refine X_scr hK hX hbl hbA hL (by omega) (by omega) dL_law_1074 (fun z406 ez406 lz406 uz406 => ?_)
          refine X_callV hK [.int (iI z406)] [] lk_L_121 (c_X11_shortOf _ _ _ _ _ S86 g87 b1 z406 (qS86 _ _ (qb82 _ _ hk64)) (by omega) al9) (qS86 _ _ (qb82 _ _ hk64)) ⟨by decide, rfl⟩ dL_law_1075 rfl rfl (by simp [Value.category]) (by decide) (by omega) (by omega) (by decide) (fun r407 S409 g408 pr407 qr407 hg408 => ?_)
          obtain ⟨rfl, rfl, z410, rfl, lz410, uz410⟩ := pr407
          refine X_st [.int (iI z410)] rfl ?_
          refine X_pop hK dL_law_1078 rfl ?_
          refine X_aloadn hK (i := 2) 2 dL_law_1079 rfl rfl ?_
          refine X_aloadn hK (i := 0) 4 dL_law_1080 rfl rfl ?_
          refine X_iload hK (i := 4) 0 dL_law_1081 rfl ?_
          refine X_iconst hK dL_law_1083 ?_
          refine X_iadd hK dL_law_1084 ?_
          refine X_scrK hK hX hbl hbA hL (by omega) (by omega) ez406 dL_law_1085 ?_
          refine X_callV hK [.int (iI z406)] [] lk_L_124 (c_X12_shortOf _ _ _ _ _ S86 g87 b36 z406 (qS86 _ _ (qb82 _ _ hs_y62)) (by omega)) (qS86 _ _ (qb82 _ _ hs_y62)) ⟨by decide, rfl⟩ dL_law_1086 rfl rfl (by simp [Value.category]) (by decide) (by omega) (by omega) (by decide) (fun r411 S413 g412 pr411 qr411 hg412 => ?_)
          obtain ⟨rfl, z414, rfl, lz414, uz414⟩ := pr411
          refine X_st [.int (iI z414)] rfl ?_
          refine X_pop hK dL_law_1089 rfl ?_
          refine X_goto hK 1465 dL_law_1090 (by decide) ?_
          refine X_iinc hK (i := 4) (z := i9) (n := 6) 0 [(4, .int (iI (i9 + 6))), (3, .ref b82), (2, .ref b36), (1, .ref b1), (0, .ref b)] dL_law_1465 rfl (by decide) rfl ?_
          refine X_goto hK 23 dL_law_1468 (by decide) ?_
          exact ih9 S86 qS86 g412 (i9 + 6) k9 t9 c9 b9 sh9 sp9 sm9 (by omega) (by omega) (by omega) (by omega) (by omega) (by omega) (by omega) (by omega) (xLs_mod al9 hg412 (by decide)) si9 (xPi_m pi9 hg412 xLe.rf (by decide)) (xMp_m mp9 hg412 xLe.rf (by decide)) (xTw_m tw9 hg412 xLe.rf (by decide)) ((hg412 b1 12 0 0 (qS86 _ _ (qb82 _ _ hk64)) (by decide)).trans el09) ((hg412 b1 12 0 3 (qS86 _ _ (qb82 _ _ hk64)) (by decide)).trans el19) ((hg412 b1 12 0 1 (qS86 _ _ (qb82 _ _ hk64)) (by decide)).trans el29) ((hg412 b34 6 0 1 (qS86 _ _ (qb82 _ _ hk72)) (by decide)).trans el39) ((hg412 b1 12 0 2 (qS86 _ _ (qb82 _ _ hk64)) (by decide)).trans el49) ((hg412 b18 4 0 0 (qS86 _ _ (qb82 _ _ hk65)) (by decide)).trans el59) ((hg412 b18 4 0 2 (qS86 _ _ (qb82 _ _ hk65)) (by decide)).trans el69) ((hg412 b18 4 0 3 (qS86 _ _ (qb82 _ _ hk65)) (by decide)).trans el79) ((hg412 b18 4 0 4 (qS86 _ _ (qb82 _ _ hk65)) (by decide)).trans el89) ((hg412 b32 10 0 0 (qS86 _ _ (qb82 _ _ hk70)) (by decide)).trans el99) ((hg412 b36 13 0 1 (qS86 _ _ (qb82 _ _ hs_y62)) (by decide)).trans el109) ((hg412 b36 13 0 10 (qS86 _ _ (qb82 _ _ hs_y62)) (by decide)).trans el119) ((hg412 b36 13 0 13 (qS86 _ _ (qb82 _ _ hs_y62)) (by decide)).trans el129) ((hg412 b36 13 0 14 (qS86 _ _ (qb82 _ _ hs_y62)) (by decide)).trans el139) ((hg412 b36 13 0 12 (qS86 _ _ (qb82 _ _ hs_y62)) (by decide)).trans el149) ((hg412 b32 10 0 1 (qS86 _ _ (qb82 _ _ hk70)) (by decide)).trans exk9) ((hg412 b36 13 0 2 (qS86 _ _ (qb82 _ _ hs_y62)) (by decide)).trans emk9) ((hg412 b1 12 0 12 (qS86 _ _ (qb82 _ _ hk64)) (by decide)).trans ext9) ((hg412 b36 13 0 3 (qS86 _ _ (qb82 _ _ hs_y62)) (by decide)).trans emt9) ((hg412 b33 5 0 3 (qS86 _ _ (qb82 _ _ hk71)) (by decide)).trans exc9) ((hg412 b36 13 0 69 (qS86 _ _ (qb82 _ _ hs_y62)) (by decide)).trans emc9) ((hg412 b35 0 0 2 (qS86 _ _ (qb82 _ _ hk73)) (by decide)).trans exb9) ((hg412 b36 13 0 16 (qS86 _ _ (qb82 _ _ hs_y62)) (by decide)).trans emb9) ((hg412 b1 12 0 16 (qS86 _ _ (qb82 _ _ hk64)) (by decide)).trans exsh9) ((hg412 b36 13 0 89 (qS86 _ _ (qb82 _ _ hs_y62)) (by decide)).trans emsh9) ((hg412 b1 12 0 17 (qS86 _ _ (qb82 _ _ hk64)) (by decide)).trans exsp9) ((hg412 b36 13 0 90 (qS86 _ _ (qb82 _ _ hs_y62)) (by decide)).trans emsp9) ((hg412 b36 13 0 17 (qS86 _ _ (qb82 _ _ hs_y62)) (by decide)).trans emsm9) (xWn.m wn9 (qS86 _ _ (qb82 _ _ hk69)) (qS86 _ _ (qb82 _ _ hk76)) hg412 xLe.rf (by decide)) (by rw [(xv_m hg412 (qS86 _ _ (qb82 _ _ hk67)) (by decide) (by decide)), (xv_m hg412 (qS86 _ _ (qb82 _ _ hk74)) (by decide) (by decide))]; exact wt9) (by rw [(xv_m hg412 (qS86 _ _ (qb82 _ _ hk68)) (by decide) (by decide)), (xv_m hg412 (qS86 _ _ (qb82 _ _ hk75)) (by decide) (by decide))]; exact ld9) (by rw [(xv_m hg412 (qS86 _ _ (qb82 _ _ hk66)) (by decide) (by decide)), (xv_m hg412 (qS86 _ _ (qb82 _ _ hs_b81)) (by decide) (by decide))]; exact sk9) (by rw [(xv_m hg412 (qS86 _ _ (qb82 _ _ hs_b79)) (by decide) (by decide)), (xv_m hg412 (qS86 _ _ (qb82 _ _ hs_b80)) (by decide) (by decide))]; exact xTc.mono tc9 (by omega)) dc9 ds9 (by omega) (by omega) (by omega)
        · refine X_tableIn hK 1093 23 (by decide) c91 (by decide) (by decide) dL_law_40 rfl (by decide) ?_
          refine X_aloadn hK (i := 1) 3 dL_law_1093 rfl rfl ?_
          refine X_aloadn hK (i := 0) 4 dL_law_1094 rfl rfl ?_
          refine X_iload hK (i := 4) 0 dL_law_1095 rfl ?_
          refine X_iconst hK dL_law_1097 ?_
          refine X_iadd hK dL_law_1098 ?_
          refine X_scr hK hX hbl hbA hL (by omega) (by omega) dL_law_1099 (fun z415 ez415 lz415 uz415 => ?_)
          refine X_aloadn hK (i := 0) 4 dL_law_1100 rfl rfl ?_
          refine X_iload hK (i := 4) 0 dL_law_1101 rfl ?_
          refine X_iconst hK dL_law_1103 ?_
          refine X_iadd hK dL_law_1104 ?_
          refine X_scr hK hX hbl hbA hL (by omega) (by omega) dL_law_1105 (fun z416 ez416 lz416 uz416 => ?_)
          refine X_aloadn hK (i := 0) 4 dL_law_1106 rfl rfl ?_
          refine X_iload hK (i := 4) 0 dL_law_1107 rfl ?_
          refine X_iconst hK dL_law_1109 ?_
          refine X_iadd hK dL_law_1110 ?_
          refine X_scr hK hX hbl hbA hL (by omega) (by omega) dL_law_1111 (fun z417 ez417 lz417 uz417 => ?_)
          refine X_aloadn hK (i := 0) 4 dL_law_1112 rfl rfl ?_
          refine X_iload hK (i := 4) 0 dL_law_1113 rfl ?_
          refine X_iconst hK dL_law_1115 ?_
          refine X_iadd hK dL_law_1116 ?_
          refine X_scr hK hX hbl hbA hL (by omega) (by omega) dL_law_1117 (fun z418 ez418 lz418 uz418 => ?_)
          refine X_aloadn hK (i := 0) 4 dL_law_1118 rfl rfl ?_
          refine X_iload hK (i := 4) 0 dL_law_1119 rfl ?_
          refine X_iconst hK dL_law_1121 ?_
          refine X_iadd hK dL_law_1122 ?_
          refine X_scr hK hX hbl hbA hL (by omega) (by omega) dL_law_1123 (fun z419 ez419 lz419 uz419 => ?_)
          refine X_callV hK [.int (iI z415), .int (iI z416), .int (iI z417), .int (iI z418), .int (iI z419)] [] lk_L_125 (c_X11_best _ _ _ _ _ S86 g87 b1 z415 z416 z417 z418 z419 b32 k9 (qS86 _ _ (qb82 _ _ hk64)) (by omega) (by omega) (by omega) (by omega) (by omega) el09 (qS86 _ _ (qb82 _ _ hk70)) (by omega) exk9) (qS86 _ _ (qb82 _ _ hk64)) ⟨by decide, rfl⟩ dL_law_1124 rfl rfl (by simp [Value.category]) (by decide) (by omega) (by omega) (by decide) (fun r420 S422 g421 pr420 qr420 hg421 => ?_)
          obtain ⟨rfl, z423, rfl, lz423, uz423, k424⟩ := pr420
          refine X_st [.int (iI z423)] rfl ?_
          refine X_pop hK dL_law_1127 rfl ?_
          refine X_aloadn hK (i := 2) 2 dL_law_1128 rfl rfl ?_
          refine X_aloadn hK (i := 0) 4 dL_law_1129 rfl rfl ?_
          refine X_iload hK (i := 4) 0 dL_law_1130 rfl ?_
          refine X_iconst hK dL_law_1132 ?_
          refine X_iadd hK dL_law_1133 ?_
          refine X_scrK hK hX hbl hbA hL (by omega) (by omega) ez415 dL_law_1134 ?_
          refine X_aloadn hK (i := 0) 4 dL_law_1135 rfl rfl ?_
          refine X_iload hK (i := 4) 0 dL_law_1136 rfl ?_
          refine X_iconst hK dL_law_1138 ?_
          refine X_iadd hK dL_law_1139 ?_
          refine X_scrK hK hX hbl hbA hL (by omega) (by omega) ez416 dL_law_1140 ?_
          refine X_aloadn hK (i := 0) 4 dL_law_1141 rfl rfl ?_
          refine X_iload hK (i := 4) 0 dL_law_1142 rfl ?_
          refine X_iconst hK dL_law_1144 ?_
          refine X_iadd hK dL_law_1145 ?_
          refine X_scrK hK hX hbl hbA hL (by omega) (by omega) ez417 dL_law_1146 ?_
          refine X_aloadn hK (i := 0) 4 dL_law_1147 rfl rfl ?_
          refine X_iload hK (i := 4) 0 dL_law_1148 rfl ?_
          refine X_iconst hK dL_law_1150 ?_
          refine X_iadd hK dL_law_1151 ?_
          refine X_scrK hK hX hbl hbA hL (by omega) (by omega) ez418 dL_law_1152 ?_
          refine X_aloadn hK (i := 0) 4 dL_law_1153 rfl rfl ?_
          refine X_iload hK (i := 4) 0 dL_law_1154 rfl ?_
          refine X_iconst hK dL_law_1156 ?_
          refine X_iadd hK dL_law_1157 ?_
          refine X_scrK hK hX hbl hbA hL (by omega) (by omega) ez419 dL_law_1158 ?_
          refine X_callV hK [.int (iI z415), .int (iI z416), .int (iI z417), .int (iI z418), .int (iI z419)] [] lk_L_128 (c3_best _ _ _ _ _ S86 g421 b36 z415 z416 z417 z418 z419 k9 (qS86 _ _ (qb82 _ _ hs_y62)) (by omega) (by omega) (by omega) (by omega) (by omega) (by omega) ((hg421 b36 13 0 2 (qS86 _ _ (qb82 _ _ hs_y62)) (by decide)).trans emk9)) (qS86 _ _ (qb82 _ _ hs_y62)) ⟨by decide, rfl⟩ dL_law_1159 rfl rfl (by simp [Value.category]) (by decide) (by omega) (by omega) (by decide) (fun r425 S427 g426 pr425 qr425 hg426 => ?_)
          obtain ⟨rfl, z428, rfl, lz428, uz428, k429⟩ := pr425
          refine X_st [.int (iI z428)] rfl ?_
          refine X_pop hK dL_law_1162 rfl ?_
          refine X_goto hK 1465 dL_law_1163 (by decide) ?_
          refine X_iinc hK (i := 4) (z := i9) (n := 6) 0 [(4, .int (iI (i9 + 6))), (3, .ref b82), (2, .ref b36), (1, .ref b1), (0, .ref b)] dL_law_1465 rfl (by decide) rfl ?_
          refine X_goto hK 23 dL_law_1468 (by decide) ?_
          exact ih9 S86 qS86 g426 (i9 + 6) (0) t9 c9 b9 sh9 sp9 sm9 (by omega) (by omega) (by omega) (by omega) (by omega) (by omega) (by omega) (by omega) (xLs_mod (xLs_mod al9 hg421 (by decide)) hg426 (by decide)) si9 (xPi_m (xPi_m pi9 hg421 xLe.rf (by decide)) hg426 xLe.rf (by decide)) (xMp_m (xMp_m mp9 hg421 xLe.rf (by decide)) hg426 xLe.rf (by decide)) (xTw_m (xTw_m tw9 hg421 xLe.rf (by decide)) hg426 xLe.rf (by decide)) ((hg426 b1 12 0 0 (qS86 _ _ (qb82 _ _ hk64)) (by decide)).trans ((hg421 b1 12 0 0 (qS86 _ _ (qb82 _ _ hk64)) (by decide)).trans el09)) ((hg426 b1 12 0 3 (qS86 _ _ (qb82 _ _ hk64)) (by decide)).trans ((hg421 b1 12 0 3 (qS86 _ _ (qb82 _ _ hk64)) (by decide)).trans el19)) ((hg426 b1 12 0 1 (qS86 _ _ (qb82 _ _ hk64)) (by decide)).trans ((hg421 b1 12 0 1 (qS86 _ _ (qb82 _ _ hk64)) (by decide)).trans el29)) ((hg426 b34 6 0 1 (qS86 _ _ (qb82 _ _ hk72)) (by decide)).trans ((hg421 b34 6 0 1 (qS86 _ _ (qb82 _ _ hk72)) (by decide)).trans el39)) ((hg426 b1 12 0 2 (qS86 _ _ (qb82 _ _ hk64)) (by decide)).trans ((hg421 b1 12 0 2 (qS86 _ _ (qb82 _ _ hk64)) (by decide)).trans el49)) ((hg426 b18 4 0 0 (qS86 _ _ (qb82 _ _ hk65)) (by decide)).trans ((hg421 b18 4 0 0 (qS86 _ _ (qb82 _ _ hk65)) (by decide)).trans el59)) ((hg426 b18 4 0 2 (qS86 _ _ (qb82 _ _ hk65)) (by decide)).trans ((hg421 b18 4 0 2 (qS86 _ _ (qb82 _ _ hk65)) (by decide)).trans el69)) ((hg426 b18 4 0 3 (qS86 _ _ (qb82 _ _ hk65)) (by decide)).trans ((hg421 b18 4 0 3 (qS86 _ _ (qb82 _ _ hk65)) (by decide)).trans el79)) ((hg426 b18 4 0 4 (qS86 _ _ (qb82 _ _ hk65)) (by decide)).trans ((hg421 b18 4 0 4 (qS86 _ _ (qb82 _ _ hk65)) (by decide)).trans el89)) ((hg426 b32 10 0 0 (qS86 _ _ (qb82 _ _ hk70)) (by decide)).trans ((hg421 b32 10 0 0 (qS86 _ _ (qb82 _ _ hk70)) (by decide)).trans el99)) ((hg426 b36 13 0 1 (qS86 _ _ (qb82 _ _ hs_y62)) (by decide)).trans ((hg421 b36 13 0 1 (qS86 _ _ (qb82 _ _ hs_y62)) (by decide)).trans el109)) ((hg426 b36 13 0 10 (qS86 _ _ (qb82 _ _ hs_y62)) (by decide)).trans ((hg421 b36 13 0 10 (qS86 _ _ (qb82 _ _ hs_y62)) (by decide)).trans el119)) ((hg426 b36 13 0 13 (qS86 _ _ (qb82 _ _ hs_y62)) (by decide)).trans ((hg421 b36 13 0 13 (qS86 _ _ (qb82 _ _ hs_y62)) (by decide)).trans el129)) ((hg426 b36 13 0 14 (qS86 _ _ (qb82 _ _ hs_y62)) (by decide)).trans ((hg421 b36 13 0 14 (qS86 _ _ (qb82 _ _ hs_y62)) (by decide)).trans el139)) ((hg426 b36 13 0 12 (qS86 _ _ (qb82 _ _ hs_y62)) (by decide)).trans ((hg421 b36 13 0 12 (qS86 _ _ (qb82 _ _ hs_y62)) (by decide)).trans el149)) ((hg426 b32 10 0 1 (qS86 _ _ (qb82 _ _ hk70)) (by decide)).trans k424) k429 ((hg426 b1 12 0 12 (qS86 _ _ (qb82 _ _ hk64)) (by decide)).trans ((hg421 b1 12 0 12 (qS86 _ _ (qb82 _ _ hk64)) (by decide)).trans ext9)) ((hg426 b36 13 0 3 (qS86 _ _ (qb82 _ _ hs_y62)) (by decide)).trans ((hg421 b36 13 0 3 (qS86 _ _ (qb82 _ _ hs_y62)) (by decide)).trans emt9)) ((hg426 b33 5 0 3 (qS86 _ _ (qb82 _ _ hk71)) (by decide)).trans ((hg421 b33 5 0 3 (qS86 _ _ (qb82 _ _ hk71)) (by decide)).trans exc9)) ((hg426 b36 13 0 69 (qS86 _ _ (qb82 _ _ hs_y62)) (by decide)).trans ((hg421 b36 13 0 69 (qS86 _ _ (qb82 _ _ hs_y62)) (by decide)).trans emc9)) ((hg426 b35 0 0 2 (qS86 _ _ (qb82 _ _ hk73)) (by decide)).trans ((hg421 b35 0 0 2 (qS86 _ _ (qb82 _ _ hk73)) (by decide)).trans exb9)) ((hg426 b36 13 0 16 (qS86 _ _ (qb82 _ _ hs_y62)) (by decide)).trans ((hg421 b36 13 0 16 (qS86 _ _ (qb82 _ _ hs_y62)) (by decide)).trans emb9)) ((hg426 b1 12 0 16 (qS86 _ _ (qb82 _ _ hk64)) (by decide)).trans ((hg421 b1 12 0 16 (qS86 _ _ (qb82 _ _ hk64)) (by decide)).trans exsh9)) ((hg426 b36 13 0 89 (qS86 _ _ (qb82 _ _ hs_y62)) (by decide)).trans ((hg421 b36 13 0 89 (qS86 _ _ (qb82 _ _ hs_y62)) (by decide)).trans emsh9)) ((hg426 b1 12 0 17 (qS86 _ _ (qb82 _ _ hk64)) (by decide)).trans ((hg421 b1 12 0 17 (qS86 _ _ (qb82 _ _ hk64)) (by decide)).trans exsp9)) ((hg426 b36 13 0 90 (qS86 _ _ (qb82 _ _ hs_y62)) (by decide)).trans ((hg421 b36 13 0 90 (qS86 _ _ (qb82 _ _ hs_y62)) (by decide)).trans emsp9)) ((hg426 b36 13 0 17 (qS86 _ _ (qb82 _ _ hs_y62)) (by decide)).trans ((hg421 b36 13 0 17 (qS86 _ _ (qb82 _ _ hs_y62)) (by decide)).trans emsm9)) (xWn.m (xWn.m wn9 (qS86 _ _ (qb82 _ _ hk69)) (qS86 _ _ (qb82 _ _ hk76)) hg421 xLe.rf (by decide)) (qS86 _ _ (qb82 _ _ hk69)) (qS86 _ _ (qb82 _ _ hk76)) hg426 xLe.rf (by decide)) (by rw [(Eq.trans (xv_m hg426 (qS86 _ _ (qb82 _ _ hk67)) (by decide) (by decide)) (xv_m hg421 (qS86 _ _ (qb82 _ _ hk67)) (by decide) (by decide))), (Eq.trans (xv_m hg426 (qS86 _ _ (qb82 _ _ hk74)) (by decide) (by decide)) (xv_m hg421 (qS86 _ _ (qb82 _ _ hk74)) (by decide) (by decide)))]; exact wt9) (by rw [(Eq.trans (xv_m hg426 (qS86 _ _ (qb82 _ _ hk68)) (by decide) (by decide)) (xv_m hg421 (qS86 _ _ (qb82 _ _ hk68)) (by decide) (by decide))), (Eq.trans (xv_m hg426 (qS86 _ _ (qb82 _ _ hk75)) (by decide) (by decide)) (xv_m hg421 (qS86 _ _ (qb82 _ _ hk75)) (by decide) (by decide)))]; exact ld9) (by rw [(Eq.trans (xv_m hg426 (qS86 _ _ (qb82 _ _ hk66)) (by decide) (by decide)) (xv_m hg421 (qS86 _ _ (qb82 _ _ hk66)) (by decide) (by decide))), (Eq.trans (xv_m hg426 (qS86 _ _ (qb82 _ _ hs_b81)) (by decide) (by decide)) (xv_m hg421 (qS86 _ _ (qb82 _ _ hs_b81)) (by decide) (by decide)))]; exact sk9) (by rw [(Eq.trans (xv_m hg426 (qS86 _ _ (qb82 _ _ hs_b79)) (by decide) (by decide)) (xv_m hg421 (qS86 _ _ (qb82 _ _ hs_b79)) (by decide) (by decide))), (Eq.trans (xv_m hg426 (qS86 _ _ (qb82 _ _ hs_b80)) (by decide) (by decide)) (xv_m hg421 (qS86 _ _ (qb82 _ _ hs_b80)) (by decide) (by decide)))]; exact xTc.mono tc9 (by omega)) dc9 ds9 (by omega) (by omega) (by omega)
        · refine X_tableIn hK 1166 24 (by decide) c91 (by decide) (by decide) dL_law_40 rfl (by decide) ?_
          refine X_aloadn hK (i := 1) 3 dL_law_1166 rfl rfl ?_
          refine X_callV hK [] [] lk_L_129 (c_X11_expected _ _ _ _ _ S86 g87 b1 (qS86 _ _ (qb82 _ _ hk64))) (qS86 _ _ (qb82 _ _ hk64)) ⟨by decide, rfl⟩ dL_law_1167 rfl rfl (by simp [Value.category]) (by decide) (by omega) (by omega) (by decide) (fun r430 S432 g431 pr430 qr430 hg431 => ?_)
          obtain ⟨rfl, rfl, y433, rfl⟩ := pr430
          refine X_st [.long y433] rfl ?_
          refine X_pop2 hK dL_law_1170 rfl ?_
          refine X_aloadn hK (i := 2) 2 dL_law_1171 rfl rfl ?_
          refine X_callV hK [] [] lk_L_133 (c_X12_expected _ _ _ _ _ S86 g87 b36 (qS86 _ _ (qb82 _ _ hs_y62))) (qS86 _ _ (qb82 _ _ hs_y62)) ⟨by decide, rfl⟩ dL_law_1172 rfl rfl (by simp [Value.category]) (by decide) (by omega) (by omega) (by decide) (fun r434 S436 g435 pr434 qr434 hg435 => ?_)
          obtain ⟨rfl, y437, rfl⟩ := pr434
          refine X_st [.long y437] rfl ?_
          refine X_pop2 hK dL_law_1175 rfl ?_
          refine X_goto hK 1465 dL_law_1176 (by decide) ?_
          refine X_iinc hK (i := 4) (z := i9) (n := 6) 0 [(4, .int (iI (i9 + 6))), (3, .ref b82), (2, .ref b36), (1, .ref b1), (0, .ref b)] dL_law_1465 rfl (by decide) rfl ?_
          refine X_goto hK 23 dL_law_1468 (by decide) ?_
          exact ih9 S86 qS86 g435 (i9 + 6) k9 t9 c9 b9 sh9 sp9 sm9 (by omega) (by omega) (by omega) (by omega) (by omega) (by omega) (by omega) (by omega) (xLs_mod al9 hg435 (by decide)) si9 (xPi_m pi9 hg435 xLe.rf (by decide)) (xMp_m mp9 hg435 xLe.rf (by decide)) (xTw_m tw9 hg435 xLe.rf (by decide)) ((hg435 b1 12 0 0 (qS86 _ _ (qb82 _ _ hk64)) (by decide)).trans el09) ((hg435 b1 12 0 3 (qS86 _ _ (qb82 _ _ hk64)) (by decide)).trans el19) ((hg435 b1 12 0 1 (qS86 _ _ (qb82 _ _ hk64)) (by decide)).trans el29) ((hg435 b34 6 0 1 (qS86 _ _ (qb82 _ _ hk72)) (by decide)).trans el39) ((hg435 b1 12 0 2 (qS86 _ _ (qb82 _ _ hk64)) (by decide)).trans el49) ((hg435 b18 4 0 0 (qS86 _ _ (qb82 _ _ hk65)) (by decide)).trans el59) ((hg435 b18 4 0 2 (qS86 _ _ (qb82 _ _ hk65)) (by decide)).trans el69) ((hg435 b18 4 0 3 (qS86 _ _ (qb82 _ _ hk65)) (by decide)).trans el79) ((hg435 b18 4 0 4 (qS86 _ _ (qb82 _ _ hk65)) (by decide)).trans el89) ((hg435 b32 10 0 0 (qS86 _ _ (qb82 _ _ hk70)) (by decide)).trans el99) ((hg435 b36 13 0 1 (qS86 _ _ (qb82 _ _ hs_y62)) (by decide)).trans el109) ((hg435 b36 13 0 10 (qS86 _ _ (qb82 _ _ hs_y62)) (by decide)).trans el119) ((hg435 b36 13 0 13 (qS86 _ _ (qb82 _ _ hs_y62)) (by decide)).trans el129) ((hg435 b36 13 0 14 (qS86 _ _ (qb82 _ _ hs_y62)) (by decide)).trans el139) ((hg435 b36 13 0 12 (qS86 _ _ (qb82 _ _ hs_y62)) (by decide)).trans el149) ((hg435 b32 10 0 1 (qS86 _ _ (qb82 _ _ hk70)) (by decide)).trans exk9) ((hg435 b36 13 0 2 (qS86 _ _ (qb82 _ _ hs_y62)) (by decide)).trans emk9) ((hg435 b1 12 0 12 (qS86 _ _ (qb82 _ _ hk64)) (by decide)).trans ext9) ((hg435 b36 13 0 3 (qS86 _ _ (qb82 _ _ hs_y62)) (by decide)).trans emt9) ((hg435 b33 5 0 3 (qS86 _ _ (qb82 _ _ hk71)) (by decide)).trans exc9) ((hg435 b36 13 0 69 (qS86 _ _ (qb82 _ _ hs_y62)) (by decide)).trans emc9) ((hg435 b35 0 0 2 (qS86 _ _ (qb82 _ _ hk73)) (by decide)).trans exb9) ((hg435 b36 13 0 16 (qS86 _ _ (qb82 _ _ hs_y62)) (by decide)).trans emb9) ((hg435 b1 12 0 16 (qS86 _ _ (qb82 _ _ hk64)) (by decide)).trans exsh9) ((hg435 b36 13 0 89 (qS86 _ _ (qb82 _ _ hs_y62)) (by decide)).trans emsh9) ((hg435 b1 12 0 17 (qS86 _ _ (qb82 _ _ hk64)) (by decide)).trans exsp9) ((hg435 b36 13 0 90 (qS86 _ _ (qb82 _ _ hs_y62)) (by decide)).trans emsp9) ((hg435 b36 13 0 17 (qS86 _ _ (qb82 _ _ hs_y62)) (by decide)).trans emsm9) (xWn.m wn9 (qS86 _ _ (qb82 _ _ hk69)) (qS86 _ _ (qb82 _ _ hk76)) hg435 xLe.rf (by decide)) (by rw [(xv_m hg435 (qS86 _ _ (qb82 _ _ hk67)) (by decide) (by decide)), (xv_m hg435 (qS86 _ _ (qb82 _ _ hk74)) (by decide) (by decide))]; exact wt9) (by rw [(xv_m hg435 (qS86 _ _ (qb82 _ _ hk68)) (by decide) (by decide)), (xv_m hg435 (qS86 _ _ (qb82 _ _ hk75)) (by decide) (by decide))]; exact ld9) (by rw [(xv_m hg435 (qS86 _ _ (qb82 _ _ hk66)) (by decide) (by decide)), (xv_m hg435 (qS86 _ _ (qb82 _ _ hs_b81)) (by decide) (by decide))]; exact sk9) (by rw [(xv_m hg435 (qS86 _ _ (qb82 _ _ hs_b79)) (by decide) (by decide)), (xv_m hg435 (qS86 _ _ (qb82 _ _ hs_b80)) (by decide) (by decide))]; exact xTc.mono tc9 (by omega)) dc9 ds9 (by omega) (by omega) (by omega)
        · refine X_tableIn hK 1179 25 (by decide) c91 (by decide) (by decide) dL_law_40 rfl (by decide) ?_
          refine X_aloadn hK (i := 1) 3 dL_law_1179 rfl rfl ?_
          refine X_callVU hK [] [] lk_L_134 (c_X11_tried _ _ _ _ _ S86 g87 b1 b32 k9 (qS86 _ _ (qb82 _ _ hk64)) el09 (qS86 _ _ (qb82 _ _ hk70)) (by omega) exk9 al9 si9) (qS86 _ _ (qb82 _ _ hk64)) ⟨by decide, rfl⟩ dL_law_1180 rfl rfl (by simp [Value.category]) (by decide) (by omega) (by omega) (by decide) (fun r438 S440 g439 dcr438 dsr438 pr438 qr438 hg439 => ?_)
          obtain ⟨wr438, z441, rfl, lz441, uz441, k442, k443, k444, k445⟩ := pr438
          refine X_st [.int (iI z441)] rfl ?_
          refine X_pop hK dL_law_1183 rfl ?_
          refine X_aloadn hK (i := 2) 2 dL_law_1184 rfl rfl ?_
          refine X_callV hK [] [] lk_L_137 (c_X12_tried _ _ _ _ _ S440 g439 b36 k9 (qr438 _ _ (qS86 _ _ (qb82 _ _ hs_y62))) (by omega) ((hg439 b36 13 0 2 (qS86 _ _ (qb82 _ _ hs_y62)) (by decide)).trans emk9) (xTw_m tw9 hg439 qr438 (by decide))) (qr438 _ _ (qS86 _ _ (qb82 _ _ hs_y62))) ⟨by decide, rfl⟩ dL_law_1185 rfl rfl (by simp [Value.category]) (by decide) (by omega) (by omega) (by decide) (fun r446 S448 g447 pr446 qr446 hg447 => ?_)
          obtain ⟨rfl, z449, rfl, lz449, uz449, k450, k451⟩ := pr446
          refine X_st [.int (iI z449)] rfl ?_
          refine X_pop hK dL_law_1188 rfl ?_
          refine X_goto hK 1465 dL_law_1189 (by decide) ?_
          refine X_iinc hK (i := 4) (z := i9) (n := 6) 0 [(4, .int (iI (i9 + 6))), (3, .ref b82), (2, .ref b36), (1, .ref b1), (0, .ref b)] dL_law_1465 rfl (by decide) rfl ?_
          refine X_goto hK 23 dL_law_1468 (by decide) ?_
          exact ih9 S440 (xLe.tr qS86 qr438) g447 (i9 + 6) (0) t9 c9 b9 sh9 sp9 sm9 (by omega) (by omega) (by omega) (by omega) (by omega) (by omega) (by omega) (by omega) (xLs_mod k442 hg447 (by decide)) k443 (xPi_m (xPi_m pi9 hg439 qr438 (by decide)) hg447 xLe.rf (by decide)) (xMp_m (xMp_m mp9 hg439 qr438 (by decide)) hg447 xLe.rf (by decide)) k451 ((hg447 b1 12 0 0 (qr438 _ _ (qS86 _ _ (qb82 _ _ hk64))) (by decide)).trans ((hg439 b1 12 0 0 (qS86 _ _ (qb82 _ _ hk64)) (by decide)).trans el09)) ((hg447 b1 12 0 3 (qr438 _ _ (qS86 _ _ (qb82 _ _ hk64))) (by decide)).trans ((hg439 b1 12 0 3 (qS86 _ _ (qb82 _ _ hk64)) (by decide)).trans el19)) ((hg447 b1 12 0 1 (qr438 _ _ (qS86 _ _ (qb82 _ _ hk64))) (by decide)).trans ((hg439 b1 12 0 1 (qS86 _ _ (qb82 _ _ hk64)) (by decide)).trans el29)) ((hg447 b34 6 0 1 (qr438 _ _ (qS86 _ _ (qb82 _ _ hk72))) (by decide)).trans ((hg439 b34 6 0 1 (qS86 _ _ (qb82 _ _ hk72)) (by decide)).trans el39)) ((hg447 b1 12 0 2 (qr438 _ _ (qS86 _ _ (qb82 _ _ hk64))) (by decide)).trans ((hg439 b1 12 0 2 (qS86 _ _ (qb82 _ _ hk64)) (by decide)).trans el49)) ((hg447 b18 4 0 0 (qr438 _ _ (qS86 _ _ (qb82 _ _ hk65))) (by decide)).trans ((hg439 b18 4 0 0 (qS86 _ _ (qb82 _ _ hk65)) (by decide)).trans el59)) ((hg447 b18 4 0 2 (qr438 _ _ (qS86 _ _ (qb82 _ _ hk65))) (by decide)).trans ((hg439 b18 4 0 2 (qS86 _ _ (qb82 _ _ hk65)) (by decide)).trans el69)) ((hg447 b18 4 0 3 (qr438 _ _ (qS86 _ _ (qb82 _ _ hk65))) (by decide)).trans ((hg439 b18 4 0 3 (qS86 _ _ (qb82 _ _ hk65)) (by decide)).trans el79)) ((hg447 b18 4 0 4 (qr438 _ _ (qS86 _ _ (qb82 _ _ hk65))) (by decide)).trans ((hg439 b18 4 0 4 (qS86 _ _ (qb82 _ _ hk65)) (by decide)).trans el89)) ((hg447 b32 10 0 0 (qr438 _ _ (qS86 _ _ (qb82 _ _ hk70))) (by decide)).trans ((hg439 b32 10 0 0 (qS86 _ _ (qb82 _ _ hk70)) (by decide)).trans el99)) ((hg447 b36 13 0 1 (qr438 _ _ (qS86 _ _ (qb82 _ _ hs_y62))) (by decide)).trans ((hg439 b36 13 0 1 (qS86 _ _ (qb82 _ _ hs_y62)) (by decide)).trans el109)) ((hg447 b36 13 0 10 (qr438 _ _ (qS86 _ _ (qb82 _ _ hs_y62))) (by decide)).trans ((hg439 b36 13 0 10 (qS86 _ _ (qb82 _ _ hs_y62)) (by decide)).trans el119)) ((hg447 b36 13 0 13 (qr438 _ _ (qS86 _ _ (qb82 _ _ hs_y62))) (by decide)).trans ((hg439 b36 13 0 13 (qS86 _ _ (qb82 _ _ hs_y62)) (by decide)).trans el129)) ((hg447 b36 13 0 14 (qr438 _ _ (qS86 _ _ (qb82 _ _ hs_y62))) (by decide)).trans ((hg439 b36 13 0 14 (qS86 _ _ (qb82 _ _ hs_y62)) (by decide)).trans el139)) ((hg447 b36 13 0 12 (qr438 _ _ (qS86 _ _ (qb82 _ _ hs_y62))) (by decide)).trans ((hg439 b36 13 0 12 (qS86 _ _ (qb82 _ _ hs_y62)) (by decide)).trans el149)) ((hg447 b32 10 0 1 (qr438 _ _ (qS86 _ _ (qb82 _ _ hk70))) (by decide)).trans k445) k450 ((hg447 b1 12 0 12 (qr438 _ _ (qS86 _ _ (qb82 _ _ hk64))) (by decide)).trans ((hg439 b1 12 0 12 (qS86 _ _ (qb82 _ _ hk64)) (by decide)).trans ext9)) ((hg447 b36 13 0 3 (qr438 _ _ (qS86 _ _ (qb82 _ _ hs_y62))) (by decide)).trans ((hg439 b36 13 0 3 (qS86 _ _ (qb82 _ _ hs_y62)) (by decide)).trans emt9)) ((hg447 b33 5 0 3 (qr438 _ _ (qS86 _ _ (qb82 _ _ hk71))) (by decide)).trans ((hg439 b33 5 0 3 (qS86 _ _ (qb82 _ _ hk71)) (by decide)).trans exc9)) ((hg447 b36 13 0 69 (qr438 _ _ (qS86 _ _ (qb82 _ _ hs_y62))) (by decide)).trans ((hg439 b36 13 0 69 (qS86 _ _ (qb82 _ _ hs_y62)) (by decide)).trans emc9)) ((hg447 b35 0 0 2 (qr438 _ _ (qS86 _ _ (qb82 _ _ hk73))) (by decide)).trans ((hg439 b35 0 0 2 (qS86 _ _ (qb82 _ _ hk73)) (by decide)).trans exb9)) ((hg447 b36 13 0 16 (qr438 _ _ (qS86 _ _ (qb82 _ _ hs_y62))) (by decide)).trans ((hg439 b36 13 0 16 (qS86 _ _ (qb82 _ _ hs_y62)) (by decide)).trans emb9)) ((hg447 b1 12 0 16 (qr438 _ _ (qS86 _ _ (qb82 _ _ hk64))) (by decide)).trans ((hg439 b1 12 0 16 (qS86 _ _ (qb82 _ _ hk64)) (by decide)).trans exsh9)) ((hg447 b36 13 0 89 (qr438 _ _ (qS86 _ _ (qb82 _ _ hs_y62))) (by decide)).trans ((hg439 b36 13 0 89 (qS86 _ _ (qb82 _ _ hs_y62)) (by decide)).trans emsh9)) ((hg447 b1 12 0 17 (qr438 _ _ (qS86 _ _ (qb82 _ _ hk64))) (by decide)).trans ((hg439 b1 12 0 17 (qS86 _ _ (qb82 _ _ hk64)) (by decide)).trans exsp9)) ((hg447 b36 13 0 90 (qr438 _ _ (qS86 _ _ (qb82 _ _ hs_y62))) (by decide)).trans ((hg439 b36 13 0 90 (qS86 _ _ (qb82 _ _ hs_y62)) (by decide)).trans emsp9)) ((hg447 b36 13 0 17 (qr438 _ _ (qS86 _ _ (qb82 _ _ hs_y62))) (by decide)).trans ((hg439 b36 13 0 17 (qS86 _ _ (qb82 _ _ hs_y62)) (by decide)).trans emsm9)) (xWn.m (xWn.m wn9 (qS86 _ _ (qb82 _ _ hk69)) (qS86 _ _ (qb82 _ _ hk76)) hg439 qr438 (by decide)) (qr438 _ _ (qS86 _ _ (qb82 _ _ hk69))) (qr438 _ _ (qS86 _ _ (qb82 _ _ hk76))) hg447 xLe.rf (by decide)) (by rw [(Eq.trans (xv_m hg447 (qr438 _ _ (qS86 _ _ (qb82 _ _ hk67))) (by decide) (by decide)) (xv_m hg439 (qS86 _ _ (qb82 _ _ hk67)) (by decide) (by decide))), (Eq.trans (xv_m hg447 (qr438 _ _ (qS86 _ _ (qb82 _ _ hk74))) (by decide) (by decide)) (xv_m hg439 (qS86 _ _ (qb82 _ _ hk74)) (by decide) (by decide)))]; exact wt9) (by rw [(Eq.trans (xv_m hg447 (qr438 _ _ (qS86 _ _ (qb82 _ _ hk68))) (by decide) (by decide)) (xv_m hg439 (qS86 _ _ (qb82 _ _ hk68)) (by decide) (by decide))), (Eq.trans (xv_m hg447 (qr438 _ _ (qS86 _ _ (qb82 _ _ hk75))) (by decide) (by decide)) (xv_m hg439 (qS86 _ _ (qb82 _ _ hk75)) (by decide) (by decide)))]; exact ld9) (by rw [(Eq.trans (xv_m hg447 (qr438 _ _ (qS86 _ _ (qb82 _ _ hk66))) (by decide) (by decide)) (xv_m hg439 (qS86 _ _ (qb82 _ _ hk66)) (by decide) (by decide))), (Eq.trans (xv_m hg447 (qr438 _ _ (qS86 _ _ (qb82 _ _ hs_b81))) (by decide) (by decide)) (xv_m hg439 (qS86 _ _ (qb82 _ _ hs_b81)) (by decide) (by decide)))]; exact sk9) (by rw [(Eq.trans (xv_m hg447 (qr438 _ _ (qS86 _ _ (qb82 _ _ hs_b79))) (by decide) (by decide)) (xv_m hg439 (qS86 _ _ (qb82 _ _ hs_b79)) (by decide) (by decide))), (Eq.trans (xv_m hg447 (qr438 _ _ (qS86 _ _ (qb82 _ _ hs_b80))) (by decide) (by decide)) (xv_m hg439 (qS86 _ _ (qb82 _ _ hs_b80)) (by decide) (by decide)))]; exact xTc.mono tc9 (by omega)) (dc9 + dcr438) (ds9 + dsr438) (by omega) (by omega) (by omega)
        · refine X_tableIn hK 1192 26 (by decide) c91 (by decide) (by decide) dL_law_40 rfl (by decide) ?_
          refine X_aloadn hK (i := 1) 3 dL_law_1192 rfl rfl ?_
          refine X_callV hK [] [] lk_L_138 (c_X11_triedEaten _ _ _ _ _ S86 g87 b1 (qS86 _ _ (qb82 _ _ hk64))) (qS86 _ _ (qb82 _ _ hk64)) ⟨by decide, rfl⟩ dL_law_1193 rfl rfl (by simp [Value.category]) (by decide) (by omega) (by omega) (by decide) (fun r452 S454 g453 pr452 qr452 hg453 => ?_)
          obtain ⟨rfl, rfl, z455, rfl, lz455, uz455⟩ := pr452
          refine X_st [.int (iI z455)] rfl ?_
          refine X_pop hK dL_law_1196 rfl ?_
          refine X_aloadn hK (i := 2) 2 dL_law_1197 rfl rfl ?_
          refine X_callV hK [] [] lk_L_141 (c_X12_triedEaten _ _ _ _ _ S86 g87 b36 (qS86 _ _ (qb82 _ _ hs_y62))) (qS86 _ _ (qb82 _ _ hs_y62)) ⟨by decide, rfl⟩ dL_law_1198 rfl rfl (by simp [Value.category]) (by decide) (by omega) (by omega) (by decide) (fun r456 S458 g457 pr456 qr456 hg457 => ?_)
          obtain ⟨rfl, z459, rfl, lz459, uz459⟩ := pr456
          refine X_st [.int (iI z459)] rfl ?_
          refine X_pop hK dL_law_1201 rfl ?_
          refine X_goto hK 1465 dL_law_1202 (by decide) ?_
          refine X_iinc hK (i := 4) (z := i9) (n := 6) 0 [(4, .int (iI (i9 + 6))), (3, .ref b82), (2, .ref b36), (1, .ref b1), (0, .ref b)] dL_law_1465 rfl (by decide) rfl ?_
          refine X_goto hK 23 dL_law_1468 (by decide) ?_
          exact ih9 S86 qS86 g457 (i9 + 6) k9 t9 c9 b9 sh9 sp9 sm9 (by omega) (by omega) (by omega) (by omega) (by omega) (by omega) (by omega) (by omega) (xLs_mod al9 hg457 (by decide)) si9 (xPi_m pi9 hg457 xLe.rf (by decide)) (xMp_m mp9 hg457 xLe.rf (by decide)) (xTw_m tw9 hg457 xLe.rf (by decide)) ((hg457 b1 12 0 0 (qS86 _ _ (qb82 _ _ hk64)) (by decide)).trans el09) ((hg457 b1 12 0 3 (qS86 _ _ (qb82 _ _ hk64)) (by decide)).trans el19) ((hg457 b1 12 0 1 (qS86 _ _ (qb82 _ _ hk64)) (by decide)).trans el29) ((hg457 b34 6 0 1 (qS86 _ _ (qb82 _ _ hk72)) (by decide)).trans el39) ((hg457 b1 12 0 2 (qS86 _ _ (qb82 _ _ hk64)) (by decide)).trans el49) ((hg457 b18 4 0 0 (qS86 _ _ (qb82 _ _ hk65)) (by decide)).trans el59) ((hg457 b18 4 0 2 (qS86 _ _ (qb82 _ _ hk65)) (by decide)).trans el69) ((hg457 b18 4 0 3 (qS86 _ _ (qb82 _ _ hk65)) (by decide)).trans el79) ((hg457 b18 4 0 4 (qS86 _ _ (qb82 _ _ hk65)) (by decide)).trans el89) ((hg457 b32 10 0 0 (qS86 _ _ (qb82 _ _ hk70)) (by decide)).trans el99) ((hg457 b36 13 0 1 (qS86 _ _ (qb82 _ _ hs_y62)) (by decide)).trans el109) ((hg457 b36 13 0 10 (qS86 _ _ (qb82 _ _ hs_y62)) (by decide)).trans el119) ((hg457 b36 13 0 13 (qS86 _ _ (qb82 _ _ hs_y62)) (by decide)).trans el129) ((hg457 b36 13 0 14 (qS86 _ _ (qb82 _ _ hs_y62)) (by decide)).trans el139) ((hg457 b36 13 0 12 (qS86 _ _ (qb82 _ _ hs_y62)) (by decide)).trans el149) ((hg457 b32 10 0 1 (qS86 _ _ (qb82 _ _ hk70)) (by decide)).trans exk9) ((hg457 b36 13 0 2 (qS86 _ _ (qb82 _ _ hs_y62)) (by decide)).trans emk9) ((hg457 b1 12 0 12 (qS86 _ _ (qb82 _ _ hk64)) (by decide)).trans ext9) ((hg457 b36 13 0 3 (qS86 _ _ (qb82 _ _ hs_y62)) (by decide)).trans emt9) ((hg457 b33 5 0 3 (qS86 _ _ (qb82 _ _ hk71)) (by decide)).trans exc9) ((hg457 b36 13 0 69 (qS86 _ _ (qb82 _ _ hs_y62)) (by decide)).trans emc9) ((hg457 b35 0 0 2 (qS86 _ _ (qb82 _ _ hk73)) (by decide)).trans exb9) ((hg457 b36 13 0 16 (qS86 _ _ (qb82 _ _ hs_y62)) (by decide)).trans emb9) ((hg457 b1 12 0 16 (qS86 _ _ (qb82 _ _ hk64)) (by decide)).trans exsh9) ((hg457 b36 13 0 89 (qS86 _ _ (qb82 _ _ hs_y62)) (by decide)).trans emsh9) ((hg457 b1 12 0 17 (qS86 _ _ (qb82 _ _ hk64)) (by decide)).trans exsp9) ((hg457 b36 13 0 90 (qS86 _ _ (qb82 _ _ hs_y62)) (by decide)).trans emsp9) ((hg457 b36 13 0 17 (qS86 _ _ (qb82 _ _ hs_y62)) (by decide)).trans emsm9) (xWn.m wn9 (qS86 _ _ (qb82 _ _ hk69)) (qS86 _ _ (qb82 _ _ hk76)) hg457 xLe.rf (by decide)) (by rw [(xv_m hg457 (qS86 _ _ (qb82 _ _ hk67)) (by decide) (by decide)), (xv_m hg457 (qS86 _ _ (qb82 _ _ hk74)) (by decide) (by decide))]; exact wt9) (by rw [(xv_m hg457 (qS86 _ _ (qb82 _ _ hk68)) (by decide) (by decide)), (xv_m hg457 (qS86 _ _ (qb82 _ _ hk75)) (by decide) (by decide))]; exact ld9) (by rw [(xv_m hg457 (qS86 _ _ (qb82 _ _ hk66)) (by decide) (by decide)), (xv_m hg457 (qS86 _ _ (qb82 _ _ hs_b81)) (by decide) (by decide))]; exact sk9) (by rw [(xv_m hg457 (qS86 _ _ (qb82 _ _ hs_b79)) (by decide) (by decide)), (xv_m hg457 (qS86 _ _ (qb82 _ _ hs_b80)) (by decide) (by decide))]; exact xTc.mono tc9 (by omega)) dc9 ds9 (by omega) (by omega) (by omega)
        · refine X_tableIn hK 1205 27 (by decide) c91 (by decide) (by decide) dL_law_40 rfl (by decide) ?_
          refine X_aloadn hK (i := 1) 3 dL_law_1205 rfl rfl ?_
          refine X_aloadn hK (i := 0) 4 dL_law_1206 rfl rfl ?_
          refine X_iload hK (i := 4) 0 dL_law_1207 rfl ?_
          refine X_iconst hK dL_law_1209 ?_
          refine X_iadd hK dL_law_1210 ?_
          refine X_scr hK hX hbl hbA hL (by omega) (by omega) dL_law_1211 (fun z460 ez460 lz460 uz460 => ?_)
          refine X_aloadn hK (i := 0) 4 dL_law_1212 rfl rfl ?_
          refine X_iload hK (i := 4) 0 dL_law_1213 rfl ?_
          refine X_iconst hK dL_law_1215 ?_
          refine X_iadd hK dL_law_1216 ?_
          refine X_scr hK hX hbl hbA hL (by omega) (by omega) dL_law_1217 (fun z461 ez461 lz461 uz461 => ?_)
          refine X_aloadn hK (i := 0) 4 dL_law_1218 rfl rfl ?_
          refine X_iload hK (i := 4) 0 dL_law_1219 rfl ?_
          refine X_iconst hK dL_law_1221 ?_
          refine X_iadd hK dL_law_1222 ?_
          refine X_scr hK hX hbl hbA hL (by omega) (by omega) dL_law_1223 (fun z462 ez462 lz462 uz462 => ?_)
          refine X_callV hK [.int (iI z460), .int (iI z461), .int (iI z462)] [] lk_L_142 (c_X11_parted _ _ _ _ _ S86 g87 b1 z460 z461 z462 b32 k9 (qS86 _ _ (qb82 _ _ hk64)) (by omega) (by omega) (by omega) el09 (qS86 _ _ (qb82 _ _ hk70)) (by omega) exk9 pi9) (qS86 _ _ (qb82 _ _ hk64)) ⟨by decide, rfl⟩ dL_law_1224 rfl rfl (by simp [Value.category]) (by decide) (by omega) (by omega) (by decide) (fun r463 S465 g464 pr463 qr463 hg464 => ?_)
          obtain ⟨rfl, z466, rfl, lz466, uz466, k467, k468⟩ := pr463
          refine X_st [.int (iI z466)] rfl ?_
          refine X_pop hK dL_law_1227 rfl ?_
          refine X_aloadn hK (i := 2) 2 dL_law_1228 rfl rfl ?_
          refine X_aloadn hK (i := 0) 4 dL_law_1229 rfl rfl ?_
          refine X_iload hK (i := 4) 0 dL_law_1230 rfl ?_
          refine X_iconst hK dL_law_1232 ?_
          refine X_iadd hK dL_law_1233 ?_
          refine X_scrK hK hX hbl hbA hL (by omega) (by omega) ez460 dL_law_1234 ?_
          refine X_aloadn hK (i := 0) 4 dL_law_1235 rfl rfl ?_
          refine X_iload hK (i := 4) 0 dL_law_1236 rfl ?_
          refine X_iconst hK dL_law_1238 ?_
          refine X_iadd hK dL_law_1239 ?_
          refine X_scrK hK hX hbl hbA hL (by omega) (by omega) ez461 dL_law_1240 ?_
          refine X_aloadn hK (i := 0) 4 dL_law_1241 rfl rfl ?_
          refine X_iload hK (i := 4) 0 dL_law_1242 rfl ?_
          refine X_iconst hK dL_law_1244 ?_
          refine X_iadd hK dL_law_1245 ?_
          refine X_scrK hK hX hbl hbA hL (by omega) (by omega) ez462 dL_law_1246 ?_
          refine X_callV hK [.int (iI z460), .int (iI z461), .int (iI z462)] [] lk_L_146 (c_X12_parted _ _ _ _ _ S86 g464 b36 z460 z461 z462 k9 (qS86 _ _ (qb82 _ _ hs_y62)) (by omega) (by omega) (by omega) (by omega) ((hg464 b36 13 0 2 (qS86 _ _ (qb82 _ _ hs_y62)) (by decide)).trans emk9) (xMp_m mp9 hg464 xLe.rf (by decide))) (qS86 _ _ (qb82 _ _ hs_y62)) ⟨by decide, rfl⟩ dL_law_1247 rfl rfl (by simp [Value.category]) (by decide) (by omega) (by omega) (by decide) (fun r469 S471 g470 pr469 qr469 hg470 => ?_)
          obtain ⟨rfl, z472, rfl, lz472, uz472, k473, k474⟩ := pr469
          refine X_st [.int (iI z472)] rfl ?_
          refine X_pop hK dL_law_1250 rfl ?_
          refine X_goto hK 1465 dL_law_1251 (by decide) ?_
          refine X_iinc hK (i := 4) (z := i9) (n := 6) 0 [(4, .int (iI (i9 + 6))), (3, .ref b82), (2, .ref b36), (1, .ref b1), (0, .ref b)] dL_law_1465 rfl (by decide) rfl ?_
          refine X_goto hK 23 dL_law_1468 (by decide) ?_
          exact ih9 S86 qS86 g470 (i9 + 6) (0) t9 c9 b9 sh9 sp9 sm9 (by omega) (by omega) (by omega) (by omega) (by omega) (by omega) (by omega) (by omega) (xLs_mod (xLs_mod al9 hg464 (by decide)) hg470 (by decide)) si9 (xPi_m k468 hg470 xLe.rf (by decide)) k474 (xTw_m (xTw_m tw9 hg464 xLe.rf (by decide)) hg470 xLe.rf (by decide)) ((hg470 b1 12 0 0 (qS86 _ _ (qb82 _ _ hk64)) (by decide)).trans ((hg464 b1 12 0 0 (qS86 _ _ (qb82 _ _ hk64)) (by decide)).trans el09)) ((hg470 b1 12 0 3 (qS86 _ _ (qb82 _ _ hk64)) (by decide)).trans ((hg464 b1 12 0 3 (qS86 _ _ (qb82 _ _ hk64)) (by decide)).trans el19)) ((hg470 b1 12 0 1 (qS86 _ _ (qb82 _ _ hk64)) (by decide)).trans ((hg464 b1 12 0 1 (qS86 _ _ (qb82 _ _ hk64)) (by decide)).trans el29)) ((hg470 b34 6 0 1 (qS86 _ _ (qb82 _ _ hk72)) (by decide)).trans ((hg464 b34 6 0 1 (qS86 _ _ (qb82 _ _ hk72)) (by decide)).trans el39)) ((hg470 b1 12 0 2 (qS86 _ _ (qb82 _ _ hk64)) (by decide)).trans ((hg464 b1 12 0 2 (qS86 _ _ (qb82 _ _ hk64)) (by decide)).trans el49)) ((hg470 b18 4 0 0 (qS86 _ _ (qb82 _ _ hk65)) (by decide)).trans ((hg464 b18 4 0 0 (qS86 _ _ (qb82 _ _ hk65)) (by decide)).trans el59)) ((hg470 b18 4 0 2 (qS86 _ _ (qb82 _ _ hk65)) (by decide)).trans ((hg464 b18 4 0 2 (qS86 _ _ (qb82 _ _ hk65)) (by decide)).trans el69)) ((hg470 b18 4 0 3 (qS86 _ _ (qb82 _ _ hk65)) (by decide)).trans ((hg464 b18 4 0 3 (qS86 _ _ (qb82 _ _ hk65)) (by decide)).trans el79)) ((hg470 b18 4 0 4 (qS86 _ _ (qb82 _ _ hk65)) (by decide)).trans ((hg464 b18 4 0 4 (qS86 _ _ (qb82 _ _ hk65)) (by decide)).trans el89)) ((hg470 b32 10 0 0 (qS86 _ _ (qb82 _ _ hk70)) (by decide)).trans ((hg464 b32 10 0 0 (qS86 _ _ (qb82 _ _ hk70)) (by decide)).trans el99)) ((hg470 b36 13 0 1 (qS86 _ _ (qb82 _ _ hs_y62)) (by decide)).trans ((hg464 b36 13 0 1 (qS86 _ _ (qb82 _ _ hs_y62)) (by decide)).trans el109)) ((hg470 b36 13 0 10 (qS86 _ _ (qb82 _ _ hs_y62)) (by decide)).trans ((hg464 b36 13 0 10 (qS86 _ _ (qb82 _ _ hs_y62)) (by decide)).trans el119)) ((hg470 b36 13 0 13 (qS86 _ _ (qb82 _ _ hs_y62)) (by decide)).trans ((hg464 b36 13 0 13 (qS86 _ _ (qb82 _ _ hs_y62)) (by decide)).trans el129)) ((hg470 b36 13 0 14 (qS86 _ _ (qb82 _ _ hs_y62)) (by decide)).trans ((hg464 b36 13 0 14 (qS86 _ _ (qb82 _ _ hs_y62)) (by decide)).trans el139)) ((hg470 b36 13 0 12 (qS86 _ _ (qb82 _ _ hs_y62)) (by decide)).trans ((hg464 b36 13 0 12 (qS86 _ _ (qb82 _ _ hs_y62)) (by decide)).trans el149)) ((hg470 b32 10 0 1 (qS86 _ _ (qb82 _ _ hk70)) (by decide)).trans k467) k473 ((hg470 b1 12 0 12 (qS86 _ _ (qb82 _ _ hk64)) (by decide)).trans ((hg464 b1 12 0 12 (qS86 _ _ (qb82 _ _ hk64)) (by decide)).trans ext9)) ((hg470 b36 13 0 3 (qS86 _ _ (qb82 _ _ hs_y62)) (by decide)).trans ((hg464 b36 13 0 3 (qS86 _ _ (qb82 _ _ hs_y62)) (by decide)).trans emt9)) ((hg470 b33 5 0 3 (qS86 _ _ (qb82 _ _ hk71)) (by decide)).trans ((hg464 b33 5 0 3 (qS86 _ _ (qb82 _ _ hk71)) (by decide)).trans exc9)) ((hg470 b36 13 0 69 (qS86 _ _ (qb82 _ _ hs_y62)) (by decide)).trans ((hg464 b36 13 0 69 (qS86 _ _ (qb82 _ _ hs_y62)) (by decide)).trans emc9)) ((hg470 b35 0 0 2 (qS86 _ _ (qb82 _ _ hk73)) (by decide)).trans ((hg464 b35 0 0 2 (qS86 _ _ (qb82 _ _ hk73)) (by decide)).trans exb9)) ((hg470 b36 13 0 16 (qS86 _ _ (qb82 _ _ hs_y62)) (by decide)).trans ((hg464 b36 13 0 16 (qS86 _ _ (qb82 _ _ hs_y62)) (by decide)).trans emb9)) ((hg470 b1 12 0 16 (qS86 _ _ (qb82 _ _ hk64)) (by decide)).trans ((hg464 b1 12 0 16 (qS86 _ _ (qb82 _ _ hk64)) (by decide)).trans exsh9)) ((hg470 b36 13 0 89 (qS86 _ _ (qb82 _ _ hs_y62)) (by decide)).trans ((hg464 b36 13 0 89 (qS86 _ _ (qb82 _ _ hs_y62)) (by decide)).trans emsh9)) ((hg470 b1 12 0 17 (qS86 _ _ (qb82 _ _ hk64)) (by decide)).trans ((hg464 b1 12 0 17 (qS86 _ _ (qb82 _ _ hk64)) (by decide)).trans exsp9)) ((hg470 b36 13 0 90 (qS86 _ _ (qb82 _ _ hs_y62)) (by decide)).trans ((hg464 b36 13 0 90 (qS86 _ _ (qb82 _ _ hs_y62)) (by decide)).trans emsp9)) ((hg470 b36 13 0 17 (qS86 _ _ (qb82 _ _ hs_y62)) (by decide)).trans ((hg464 b36 13 0 17 (qS86 _ _ (qb82 _ _ hs_y62)) (by decide)).trans emsm9)) (xWn.m (xWn.m wn9 (qS86 _ _ (qb82 _ _ hk69)) (qS86 _ _ (qb82 _ _ hk76)) hg464 xLe.rf (by decide)) (qS86 _ _ (qb82 _ _ hk69)) (qS86 _ _ (qb82 _ _ hk76)) hg470 xLe.rf (by decide)) (by rw [(Eq.trans (xv_m hg470 (qS86 _ _ (qb82 _ _ hk67)) (by decide) (by decide)) (xv_m hg464 (qS86 _ _ (qb82 _ _ hk67)) (by decide) (by decide))), (Eq.trans (xv_m hg470 (qS86 _ _ (qb82 _ _ hk74)) (by decide) (by decide)) (xv_m hg464 (qS86 _ _ (qb82 _ _ hk74)) (by decide) (by decide)))]; exact wt9) (by rw [(Eq.trans (xv_m hg470 (qS86 _ _ (qb82 _ _ hk68)) (by decide) (by decide)) (xv_m hg464 (qS86 _ _ (qb82 _ _ hk68)) (by decide) (by decide))), (Eq.trans (xv_m hg470 (qS86 _ _ (qb82 _ _ hk75)) (by decide) (by decide)) (xv_m hg464 (qS86 _ _ (qb82 _ _ hk75)) (by decide) (by decide)))]; exact ld9) (by rw [(Eq.trans (xv_m hg470 (qS86 _ _ (qb82 _ _ hk66)) (by decide) (by decide)) (xv_m hg464 (qS86 _ _ (qb82 _ _ hk66)) (by decide) (by decide))), (Eq.trans (xv_m hg470 (qS86 _ _ (qb82 _ _ hs_b81)) (by decide) (by decide)) (xv_m hg464 (qS86 _ _ (qb82 _ _ hs_b81)) (by decide) (by decide)))]; exact sk9) (by rw [(Eq.trans (xv_m hg470 (qS86 _ _ (qb82 _ _ hs_b79)) (by decide) (by decide)) (xv_m hg464 (qS86 _ _ (qb82 _ _ hs_b79)) (by decide) (by decide))), (Eq.trans (xv_m hg470 (qS86 _ _ (qb82 _ _ hs_b80)) (by decide) (by decide)) (xv_m hg464 (qS86 _ _ (qb82 _ _ hs_b80)) (by decide) (by decide)))]; exact xTc.mono tc9 (by omega)) dc9 ds9 (by omega) (by omega) (by omega)
        · refine X_tableIn hK 1254 28 (by decide) c91 (by decide) (by decide) dL_law_40 rfl (by decide) ?_
          refine X_aloadn hK (i := 1) 3 dL_law_1254 rfl rfl ?_
          refine X_aloadn hK (i := 0) 4 dL_law_1255 rfl rfl ?_
          refine X_iload hK (i := 4) 0 dL_law_1256 rfl ?_
          refine X_iconst hK dL_law_1258 ?_
          refine X_iadd hK dL_law_1259 ?_
          refine X_scr hK hX hbl hbA hL (by omega) (by omega) dL_law_1260 (fun z475 ez475 lz475 uz475 => ?_)
          refine X_callV hK [.int (iI z475)] [] lk_L_147 (c_X11_partedAt _ _ _ _ _ S86 g87 b1 z475 (qS86 _ _ (qb82 _ _ hk64)) (by omega)) (qS86 _ _ (qb82 _ _ hk64)) ⟨by decide, rfl⟩ dL_law_1261 rfl rfl (by simp [Value.category]) (by decide) (by omega) (by omega) (by decide) (fun r476 S478 g477 pr476 qr476 hg477 => ?_)
          obtain ⟨rfl, rfl, z479, rfl, lz479, uz479⟩ := pr476
          refine X_st [.int (iI z479)] rfl ?_
          refine X_pop hK dL_law_1264 rfl ?_
          refine X_aloadn hK (i := 2) 2 dL_law_1265 rfl rfl ?_
          refine X_aloadn hK (i := 0) 4 dL_law_1266 rfl rfl ?_
          refine X_iload hK (i := 4) 0 dL_law_1267 rfl ?_
          refine X_iconst hK dL_law_1269 ?_
          refine X_iadd hK dL_law_1270 ?_
          refine X_scrK hK hX hbl hbA hL (by omega) (by omega) ez475 dL_law_1271 ?_
          refine X_callV hK [.int (iI z475)] [] lk_L_150 (c_X12_partedAt _ _ _ _ _ S86 g87 b36 z475 (qS86 _ _ (qb82 _ _ hs_y62)) (by omega)) (qS86 _ _ (qb82 _ _ hs_y62)) ⟨by decide, rfl⟩ dL_law_1272 rfl rfl (by simp [Value.category]) (by decide) (by omega) (by omega) (by decide) (fun r480 S482 g481 pr480 qr480 hg481 => ?_)
          obtain ⟨rfl, z483, rfl, lz483, uz483⟩ := pr480
          refine X_st [.int (iI z483)] rfl ?_
          refine X_pop hK dL_law_1275 rfl ?_
          refine X_goto hK 1465 dL_law_1276 (by decide) ?_
          refine X_iinc hK (i := 4) (z := i9) (n := 6) 0 [(4, .int (iI (i9 + 6))), (3, .ref b82), (2, .ref b36), (1, .ref b1), (0, .ref b)] dL_law_1465 rfl (by decide) rfl ?_
          refine X_goto hK 23 dL_law_1468 (by decide) ?_
          exact ih9 S86 qS86 g481 (i9 + 6) k9 t9 c9 b9 sh9 sp9 sm9 (by omega) (by omega) (by omega) (by omega) (by omega) (by omega) (by omega) (by omega) (xLs_mod al9 hg481 (by decide)) si9 (xPi_m pi9 hg481 xLe.rf (by decide)) (xMp_m mp9 hg481 xLe.rf (by decide)) (xTw_m tw9 hg481 xLe.rf (by decide)) ((hg481 b1 12 0 0 (qS86 _ _ (qb82 _ _ hk64)) (by decide)).trans el09) ((hg481 b1 12 0 3 (qS86 _ _ (qb82 _ _ hk64)) (by decide)).trans el19) ((hg481 b1 12 0 1 (qS86 _ _ (qb82 _ _ hk64)) (by decide)).trans el29) ((hg481 b34 6 0 1 (qS86 _ _ (qb82 _ _ hk72)) (by decide)).trans el39) ((hg481 b1 12 0 2 (qS86 _ _ (qb82 _ _ hk64)) (by decide)).trans el49) ((hg481 b18 4 0 0 (qS86 _ _ (qb82 _ _ hk65)) (by decide)).trans el59) ((hg481 b18 4 0 2 (qS86 _ _ (qb82 _ _ hk65)) (by decide)).trans el69) ((hg481 b18 4 0 3 (qS86 _ _ (qb82 _ _ hk65)) (by decide)).trans el79) ((hg481 b18 4 0 4 (qS86 _ _ (qb82 _ _ hk65)) (by decide)).trans el89) ((hg481 b32 10 0 0 (qS86 _ _ (qb82 _ _ hk70)) (by decide)).trans el99) ((hg481 b36 13 0 1 (qS86 _ _ (qb82 _ _ hs_y62)) (by decide)).trans el109) ((hg481 b36 13 0 10 (qS86 _ _ (qb82 _ _ hs_y62)) (by decide)).trans el119) ((hg481 b36 13 0 13 (qS86 _ _ (qb82 _ _ hs_y62)) (by decide)).trans el129) ((hg481 b36 13 0 14 (qS86 _ _ (qb82 _ _ hs_y62)) (by decide)).trans el139) ((hg481 b36 13 0 12 (qS86 _ _ (qb82 _ _ hs_y62)) (by decide)).trans el149) ((hg481 b32 10 0 1 (qS86 _ _ (qb82 _ _ hk70)) (by decide)).trans exk9) ((hg481 b36 13 0 2 (qS86 _ _ (qb82 _ _ hs_y62)) (by decide)).trans emk9) ((hg481 b1 12 0 12 (qS86 _ _ (qb82 _ _ hk64)) (by decide)).trans ext9) ((hg481 b36 13 0 3 (qS86 _ _ (qb82 _ _ hs_y62)) (by decide)).trans emt9) ((hg481 b33 5 0 3 (qS86 _ _ (qb82 _ _ hk71)) (by decide)).trans exc9) ((hg481 b36 13 0 69 (qS86 _ _ (qb82 _ _ hs_y62)) (by decide)).trans emc9) ((hg481 b35 0 0 2 (qS86 _ _ (qb82 _ _ hk73)) (by decide)).trans exb9) ((hg481 b36 13 0 16 (qS86 _ _ (qb82 _ _ hs_y62)) (by decide)).trans emb9) ((hg481 b1 12 0 16 (qS86 _ _ (qb82 _ _ hk64)) (by decide)).trans exsh9) ((hg481 b36 13 0 89 (qS86 _ _ (qb82 _ _ hs_y62)) (by decide)).trans emsh9) ((hg481 b1 12 0 17 (qS86 _ _ (qb82 _ _ hk64)) (by decide)).trans exsp9) ((hg481 b36 13 0 90 (qS86 _ _ (qb82 _ _ hs_y62)) (by decide)).trans emsp9) ((hg481 b36 13 0 17 (qS86 _ _ (qb82 _ _ hs_y62)) (by decide)).trans emsm9) (xWn.m wn9 (qS86 _ _ (qb82 _ _ hk69)) (qS86 _ _ (qb82 _ _ hk76)) hg481 xLe.rf (by decide)) (by rw [(xv_m hg481 (qS86 _ _ (qb82 _ _ hk67)) (by decide) (by decide)), (xv_m hg481 (qS86 _ _ (qb82 _ _ hk74)) (by decide) (by decide))]; exact wt9) (by rw [(xv_m hg481 (qS86 _ _ (qb82 _ _ hk68)) (by decide) (by decide)), (xv_m hg481 (qS86 _ _ (qb82 _ _ hk75)) (by decide) (by decide))]; exact ld9) (by rw [(xv_m hg481 (qS86 _ _ (qb82 _ _ hk66)) (by decide) (by decide)), (xv_m hg481 (qS86 _ _ (qb82 _ _ hs_b81)) (by decide) (by decide))]; exact sk9) (by rw [(xv_m hg481 (qS86 _ _ (qb82 _ _ hs_b79)) (by decide) (by decide)), (xv_m hg481 (qS86 _ _ (qb82 _ _ hs_b80)) (by decide) (by decide))]; exact xTc.mono tc9 (by omega)) dc9 ds9 (by omega) (by omega) (by omega)
        · refine X_tableIn hK 1279 29 (by decide) c91 (by decide) (by decide) dL_law_40 rfl (by decide) ?_
          refine X_aloadn hK (i := 1) 3 dL_law_1279 rfl rfl ?_
          refine X_aloadn hK (i := 0) 4 dL_law_1280 rfl rfl ?_
          refine X_iload hK (i := 4) 0 dL_law_1281 rfl ?_
          refine X_iconst hK dL_law_1283 ?_
          refine X_iadd hK dL_law_1284 ?_
          refine X_scr hK hX hbl hbA hL (by omega) (by omega) dL_law_1285 (fun z484 ez484 lz484 uz484 => ?_)
          refine X_callV hK [.int (iI z484)] [] lk_L_151 (c_X11_peace _ _ _ _ _ S86 g87 b1 z484 (qS86 _ _ (qb82 _ _ hk64)) (by omega) pi9) (qS86 _ _ (qb82 _ _ hk64)) ⟨by decide, rfl⟩ dL_law_1286 rfl rfl (by simp [Value.category]) (by decide) (by omega) (by omega) (by decide) (fun r485 S487 g486 pr485 qr485 hg486 => ?_)
          obtain ⟨rfl, rfl, z488, rfl, lz488, uz488⟩ := pr485
          refine X_st [.int (iI z488)] rfl ?_
          refine X_pop hK dL_law_1289 rfl ?_
          refine X_aloadn hK (i := 2) 2 dL_law_1290 rfl rfl ?_
          refine X_aloadn hK (i := 0) 4 dL_law_1291 rfl rfl ?_
          refine X_iload hK (i := 4) 0 dL_law_1292 rfl ?_
          refine X_iconst hK dL_law_1294 ?_
          refine X_iadd hK dL_law_1295 ?_
          refine X_scrK hK hX hbl hbA hL (by omega) (by omega) ez484 dL_law_1296 ?_
          refine X_callV hK [.int (iI z484)] [] lk_L_154 (c_X12_peace _ _ _ _ _ S86 g87 b36 z484 (qS86 _ _ (qb82 _ _ hs_y62)) (by omega) mp9) (qS86 _ _ (qb82 _ _ hs_y62)) ⟨by decide, rfl⟩ dL_law_1297 rfl rfl (by simp [Value.category]) (by decide) (by omega) (by omega) (by decide) (fun r489 S491 g490 pr489 qr489 hg490 => ?_)
          obtain ⟨rfl, z492, rfl, lz492, uz492⟩ := pr489
          refine X_st [.int (iI z492)] rfl ?_
          refine X_pop hK dL_law_1300 rfl ?_
          refine X_goto hK 1465 dL_law_1301 (by decide) ?_
          refine X_iinc hK (i := 4) (z := i9) (n := 6) 0 [(4, .int (iI (i9 + 6))), (3, .ref b82), (2, .ref b36), (1, .ref b1), (0, .ref b)] dL_law_1465 rfl (by decide) rfl ?_
          refine X_goto hK 23 dL_law_1468 (by decide) ?_
          exact ih9 S86 qS86 g490 (i9 + 6) k9 t9 c9 b9 sh9 sp9 sm9 (by omega) (by omega) (by omega) (by omega) (by omega) (by omega) (by omega) (by omega) (xLs_mod al9 hg490 (by decide)) si9 (xPi_m pi9 hg490 xLe.rf (by decide)) (xMp_m mp9 hg490 xLe.rf (by decide)) (xTw_m tw9 hg490 xLe.rf (by decide)) ((hg490 b1 12 0 0 (qS86 _ _ (qb82 _ _ hk64)) (by decide)).trans el09) ((hg490 b1 12 0 3 (qS86 _ _ (qb82 _ _ hk64)) (by decide)).trans el19) ((hg490 b1 12 0 1 (qS86 _ _ (qb82 _ _ hk64)) (by decide)).trans el29) ((hg490 b34 6 0 1 (qS86 _ _ (qb82 _ _ hk72)) (by decide)).trans el39) ((hg490 b1 12 0 2 (qS86 _ _ (qb82 _ _ hk64)) (by decide)).trans el49) ((hg490 b18 4 0 0 (qS86 _ _ (qb82 _ _ hk65)) (by decide)).trans el59) ((hg490 b18 4 0 2 (qS86 _ _ (qb82 _ _ hk65)) (by decide)).trans el69) ((hg490 b18 4 0 3 (qS86 _ _ (qb82 _ _ hk65)) (by decide)).trans el79) ((hg490 b18 4 0 4 (qS86 _ _ (qb82 _ _ hk65)) (by decide)).trans el89) ((hg490 b32 10 0 0 (qS86 _ _ (qb82 _ _ hk70)) (by decide)).trans el99) ((hg490 b36 13 0 1 (qS86 _ _ (qb82 _ _ hs_y62)) (by decide)).trans el109) ((hg490 b36 13 0 10 (qS86 _ _ (qb82 _ _ hs_y62)) (by decide)).trans el119) ((hg490 b36 13 0 13 (qS86 _ _ (qb82 _ _ hs_y62)) (by decide)).trans el129) ((hg490 b36 13 0 14 (qS86 _ _ (qb82 _ _ hs_y62)) (by decide)).trans el139) ((hg490 b36 13 0 12 (qS86 _ _ (qb82 _ _ hs_y62)) (by decide)).trans el149) ((hg490 b32 10 0 1 (qS86 _ _ (qb82 _ _ hk70)) (by decide)).trans exk9) ((hg490 b36 13 0 2 (qS86 _ _ (qb82 _ _ hs_y62)) (by decide)).trans emk9) ((hg490 b1 12 0 12 (qS86 _ _ (qb82 _ _ hk64)) (by decide)).trans ext9) ((hg490 b36 13 0 3 (qS86 _ _ (qb82 _ _ hs_y62)) (by decide)).trans emt9) ((hg490 b33 5 0 3 (qS86 _ _ (qb82 _ _ hk71)) (by decide)).trans exc9) ((hg490 b36 13 0 69 (qS86 _ _ (qb82 _ _ hs_y62)) (by decide)).trans emc9) ((hg490 b35 0 0 2 (qS86 _ _ (qb82 _ _ hk73)) (by decide)).trans exb9) ((hg490 b36 13 0 16 (qS86 _ _ (qb82 _ _ hs_y62)) (by decide)).trans emb9) ((hg490 b1 12 0 16 (qS86 _ _ (qb82 _ _ hk64)) (by decide)).trans exsh9) ((hg490 b36 13 0 89 (qS86 _ _ (qb82 _ _ hs_y62)) (by decide)).trans emsh9) ((hg490 b1 12 0 17 (qS86 _ _ (qb82 _ _ hk64)) (by decide)).trans exsp9) ((hg490 b36 13 0 90 (qS86 _ _ (qb82 _ _ hs_y62)) (by decide)).trans emsp9) ((hg490 b36 13 0 17 (qS86 _ _ (qb82 _ _ hs_y62)) (by decide)).trans emsm9) (xWn.m wn9 (qS86 _ _ (qb82 _ _ hk69)) (qS86 _ _ (qb82 _ _ hk76)) hg490 xLe.rf (by decide)) (by rw [(xv_m hg490 (qS86 _ _ (qb82 _ _ hk67)) (by decide) (by decide)), (xv_m hg490 (qS86 _ _ (qb82 _ _ hk74)) (by decide) (by decide))]; exact wt9) (by rw [(xv_m hg490 (qS86 _ _ (qb82 _ _ hk68)) (by decide) (by decide)), (xv_m hg490 (qS86 _ _ (qb82 _ _ hk75)) (by decide) (by decide))]; exact ld9) (by rw [(xv_m hg490 (qS86 _ _ (qb82 _ _ hk66)) (by decide) (by decide)), (xv_m hg490 (qS86 _ _ (qb82 _ _ hs_b81)) (by decide) (by decide))]; exact sk9) (by rw [(xv_m hg490 (qS86 _ _ (qb82 _ _ hs_b79)) (by decide) (by decide)), (xv_m hg490 (qS86 _ _ (qb82 _ _ hs_b80)) (by decide) (by decide))]; exact xTc.mono tc9 (by omega)) dc9 ds9 (by omega) (by omega) (by omega)
        · refine X_tableIn hK 1304 30 (by decide) c91 (by decide) (by decide) dL_law_40 rfl (by decide) ?_
          refine X_aloadn hK (i := 1) 3 dL_law_1304 rfl rfl ?_
          refine X_callVU hK [] [] lk_L_155 (c_X11_truck _ _ _ _ _ S86 g87 b1 b32 k9 (qS86 _ _ (qb82 _ _ hk64)) el09 (qS86 _ _ (qb82 _ _ hk70)) (by omega) exk9 si9) (qS86 _ _ (qb82 _ _ hk64)) ⟨by decide, rfl⟩ dL_law_1305 rfl rfl (by simp [Value.category]) (by decide) (by omega) (by omega) (by decide) (fun r493 S495 g494 dcr493 dsr493 pr493 qr493 hg494 => ?_)
          obtain ⟨wr493, z496, rfl, lz496, uz496, k497, k498, k499⟩ := pr493
          have A500 : xLs S495 g494 := xLs_al al9 hg494 (by decide) qr493 wr493 (by decide)
          refine X_st [.int (iI z496)] rfl ?_
          refine X_pop hK dL_law_1308 rfl ?_
          refine X_aloadn hK (i := 2) 2 dL_law_1309 rfl rfl ?_
          refine X_knowr 19100 10 (qr493 _ _ (qS86 _ _ (qb82 _ _ hs_y62))) (by decide) sl_13_85 (fun b501 eb501 hs_b501 => ?_)
          refine X_callV hK [] [] lk_L_158 (c_X12_truck _ _ _ _ _ S495 g494 b36 k9 b501 (qr493 _ _ (qS86 _ _ (qb82 _ _ hs_y62))) (by omega) ((hg494 b36 13 0 2 (qS86 _ _ (qb82 _ _ hs_y62)) (by decide)).trans emk9) eb501 hs_b501) (qr493 _ _ (qS86 _ _ (qb82 _ _ hs_y62))) ⟨by decide, rfl⟩ dL_law_1310 rfl rfl (by simp [Value.category]) (by decide) (by omega) (by omega) (by decide) (fun r502 S504 g503 pr502 qr502 hg503 => ?_)
          obtain ⟨rfl, z505, rfl, lz505, uz505, k506⟩ := pr502
          refine X_st [.int (iI z505)] rfl ?_
          refine X_pop hK dL_law_1313 rfl ?_
          refine X_goto hK 1465 dL_law_1314 (by decide) ?_
          refine X_iinc hK (i := 4) (z := i9) (n := 6) 0 [(4, .int (iI (i9 + 6))), (3, .ref b82), (2, .ref b36), (1, .ref b1), (0, .ref b)] dL_law_1465 rfl (by decide) rfl ?_
          refine X_goto hK 23 dL_law_1468 (by decide) ?_
          exact ih9 S495 (xLe.tr qS86 qr493) g503 (i9 + 6) (0) t9 c9 b9 sh9 sp9 sm9 (by omega) (by omega) (by omega) (by omega) (by omega) (by omega) (by omega) (by omega) (xLs_mod A500 hg503 (by decide)) k497 (xPi_m (xPi_m pi9 hg494 qr493 (by decide)) hg503 xLe.rf (by decide)) (xMp_m (xMp_m mp9 hg494 qr493 (by decide)) hg503 xLe.rf (by decide)) (xTw_m (xTw_m tw9 hg494 qr493 (by decide)) hg503 xLe.rf (by decide)) ((hg503 b1 12 0 0 (qr493 _ _ (qS86 _ _ (qb82 _ _ hk64))) (by decide)).trans ((hg494 b1 12 0 0 (qS86 _ _ (qb82 _ _ hk64)) (by decide)).trans el09)) ((hg503 b1 12 0 3 (qr493 _ _ (qS86 _ _ (qb82 _ _ hk64))) (by decide)).trans ((hg494 b1 12 0 3 (qS86 _ _ (qb82 _ _ hk64)) (by decide)).trans el19)) ((hg503 b1 12 0 1 (qr493 _ _ (qS86 _ _ (qb82 _ _ hk64))) (by decide)).trans ((hg494 b1 12 0 1 (qS86 _ _ (qb82 _ _ hk64)) (by decide)).trans el29)) ((hg503 b34 6 0 1 (qr493 _ _ (qS86 _ _ (qb82 _ _ hk72))) (by decide)).trans ((hg494 b34 6 0 1 (qS86 _ _ (qb82 _ _ hk72)) (by decide)).trans el39)) ((hg503 b1 12 0 2 (qr493 _ _ (qS86 _ _ (qb82 _ _ hk64))) (by decide)).trans ((hg494 b1 12 0 2 (qS86 _ _ (qb82 _ _ hk64)) (by decide)).trans el49)) ((hg503 b18 4 0 0 (qr493 _ _ (qS86 _ _ (qb82 _ _ hk65))) (by decide)).trans ((hg494 b18 4 0 0 (qS86 _ _ (qb82 _ _ hk65)) (by decide)).trans el59)) ((hg503 b18 4 0 2 (qr493 _ _ (qS86 _ _ (qb82 _ _ hk65))) (by decide)).trans ((hg494 b18 4 0 2 (qS86 _ _ (qb82 _ _ hk65)) (by decide)).trans el69)) ((hg503 b18 4 0 3 (qr493 _ _ (qS86 _ _ (qb82 _ _ hk65))) (by decide)).trans ((hg494 b18 4 0 3 (qS86 _ _ (qb82 _ _ hk65)) (by decide)).trans el79)) ((hg503 b18 4 0 4 (qr493 _ _ (qS86 _ _ (qb82 _ _ hk65))) (by decide)).trans ((hg494 b18 4 0 4 (qS86 _ _ (qb82 _ _ hk65)) (by decide)).trans el89)) ((hg503 b32 10 0 0 (qr493 _ _ (qS86 _ _ (qb82 _ _ hk70))) (by decide)).trans ((hg494 b32 10 0 0 (qS86 _ _ (qb82 _ _ hk70)) (by decide)).trans el99)) ((hg503 b36 13 0 1 (qr493 _ _ (qS86 _ _ (qb82 _ _ hs_y62))) (by decide)).trans ((hg494 b36 13 0 1 (qS86 _ _ (qb82 _ _ hs_y62)) (by decide)).trans el109)) ((hg503 b36 13 0 10 (qr493 _ _ (qS86 _ _ (qb82 _ _ hs_y62))) (by decide)).trans ((hg494 b36 13 0 10 (qS86 _ _ (qb82 _ _ hs_y62)) (by decide)).trans el119)) ((hg503 b36 13 0 13 (qr493 _ _ (qS86 _ _ (qb82 _ _ hs_y62))) (by decide)).trans ((hg494 b36 13 0 13 (qS86 _ _ (qb82 _ _ hs_y62)) (by decide)).trans el129)) ((hg503 b36 13 0 14 (qr493 _ _ (qS86 _ _ (qb82 _ _ hs_y62))) (by decide)).trans ((hg494 b36 13 0 14 (qS86 _ _ (qb82 _ _ hs_y62)) (by decide)).trans el139)) ((hg503 b36 13 0 12 (qr493 _ _ (qS86 _ _ (qb82 _ _ hs_y62))) (by decide)).trans ((hg494 b36 13 0 12 (qS86 _ _ (qb82 _ _ hs_y62)) (by decide)).trans el149)) ((hg503 b32 10 0 1 (qr493 _ _ (qS86 _ _ (qb82 _ _ hk70))) (by decide)).trans k499) k506 ((hg503 b1 12 0 12 (qr493 _ _ (qS86 _ _ (qb82 _ _ hk64))) (by decide)).trans ((hg494 b1 12 0 12 (qS86 _ _ (qb82 _ _ hk64)) (by decide)).trans ext9)) ((hg503 b36 13 0 3 (qr493 _ _ (qS86 _ _ (qb82 _ _ hs_y62))) (by decide)).trans ((hg494 b36 13 0 3 (qS86 _ _ (qb82 _ _ hs_y62)) (by decide)).trans emt9)) ((hg503 b33 5 0 3 (qr493 _ _ (qS86 _ _ (qb82 _ _ hk71))) (by decide)).trans ((hg494 b33 5 0 3 (qS86 _ _ (qb82 _ _ hk71)) (by decide)).trans exc9)) ((hg503 b36 13 0 69 (qr493 _ _ (qS86 _ _ (qb82 _ _ hs_y62))) (by decide)).trans ((hg494 b36 13 0 69 (qS86 _ _ (qb82 _ _ hs_y62)) (by decide)).trans emc9)) ((hg503 b35 0 0 2 (qr493 _ _ (qS86 _ _ (qb82 _ _ hk73))) (by decide)).trans ((hg494 b35 0 0 2 (qS86 _ _ (qb82 _ _ hk73)) (by decide)).trans exb9)) ((hg503 b36 13 0 16 (qr493 _ _ (qS86 _ _ (qb82 _ _ hs_y62))) (by decide)).trans ((hg494 b36 13 0 16 (qS86 _ _ (qb82 _ _ hs_y62)) (by decide)).trans emb9)) ((hg503 b1 12 0 16 (qr493 _ _ (qS86 _ _ (qb82 _ _ hk64))) (by decide)).trans ((hg494 b1 12 0 16 (qS86 _ _ (qb82 _ _ hk64)) (by decide)).trans exsh9)) ((hg503 b36 13 0 89 (qr493 _ _ (qS86 _ _ (qb82 _ _ hs_y62))) (by decide)).trans ((hg494 b36 13 0 89 (qS86 _ _ (qb82 _ _ hs_y62)) (by decide)).trans emsh9)) ((hg503 b1 12 0 17 (qr493 _ _ (qS86 _ _ (qb82 _ _ hk64))) (by decide)).trans ((hg494 b1 12 0 17 (qS86 _ _ (qb82 _ _ hk64)) (by decide)).trans exsp9)) ((hg503 b36 13 0 90 (qr493 _ _ (qS86 _ _ (qb82 _ _ hs_y62))) (by decide)).trans ((hg494 b36 13 0 90 (qS86 _ _ (qb82 _ _ hs_y62)) (by decide)).trans emsp9)) ((hg503 b36 13 0 17 (qr493 _ _ (qS86 _ _ (qb82 _ _ hs_y62))) (by decide)).trans ((hg494 b36 13 0 17 (qS86 _ _ (qb82 _ _ hs_y62)) (by decide)).trans emsm9)) (xWn.m (xWn.m wn9 (qS86 _ _ (qb82 _ _ hk69)) (qS86 _ _ (qb82 _ _ hk76)) hg494 qr493 (by decide)) (qr493 _ _ (qS86 _ _ (qb82 _ _ hk69))) (qr493 _ _ (qS86 _ _ (qb82 _ _ hk76))) hg503 xLe.rf (by decide)) (by rw [(Eq.trans (xv_m hg503 (qr493 _ _ (qS86 _ _ (qb82 _ _ hk67))) (by decide) (by decide)) (xv_m hg494 (qS86 _ _ (qb82 _ _ hk67)) (by decide) (by decide))), (Eq.trans (xv_m hg503 (qr493 _ _ (qS86 _ _ (qb82 _ _ hk74))) (by decide) (by decide)) (xv_m hg494 (qS86 _ _ (qb82 _ _ hk74)) (by decide) (by decide)))]; exact wt9) (by rw [(Eq.trans (xv_m hg503 (qr493 _ _ (qS86 _ _ (qb82 _ _ hk68))) (by decide) (by decide)) (xv_m hg494 (qS86 _ _ (qb82 _ _ hk68)) (by decide) (by decide))), (Eq.trans (xv_m hg503 (qr493 _ _ (qS86 _ _ (qb82 _ _ hk75))) (by decide) (by decide)) (xv_m hg494 (qS86 _ _ (qb82 _ _ hk75)) (by decide) (by decide)))]; exact ld9) (by rw [(Eq.trans (xv_m hg503 (qr493 _ _ (qS86 _ _ (qb82 _ _ hk66))) (by decide) (by decide)) (xv_m hg494 (qS86 _ _ (qb82 _ _ hk66)) (by decide) (by decide))), (Eq.trans (xv_m hg503 (qr493 _ _ (qS86 _ _ (qb82 _ _ hs_b81))) (by decide) (by decide)) (xv_m hg494 (qS86 _ _ (qb82 _ _ hs_b81)) (by decide) (by decide)))]; exact sk9) (by rw [(Eq.trans (xv_m hg503 (qr493 _ _ (qS86 _ _ (qb82 _ _ hs_b79))) (by decide) (by decide)) (xv_m hg494 (qS86 _ _ (qb82 _ _ hs_b79)) (by decide) (by decide))), (Eq.trans (xv_m hg503 (qr493 _ _ (qS86 _ _ (qb82 _ _ hs_b80))) (by decide) (by decide)) (xv_m hg494 (qS86 _ _ (qb82 _ _ hs_b80)) (by decide) (by decide)))]; exact xTc.mono tc9 (by omega)) (dc9 + dcr493) (ds9 + dsr493) (by omega) (by omega) (by omega)
        · refine X_tableIn hK 1317 31 (by decide) c91 (by decide) (by decide) dL_law_40 rfl (by decide) ?_
          refine X_aloadn hK (i := 1) 3 dL_law_1317 rfl rfl ?_
          refine X_aloadn hK (i := 0) 4 dL_law_1318 rfl rfl ?_
          refine X_iload hK (i := 4) 0 dL_law_1319 rfl ?_
          refine X_iconst hK dL_law_1321 ?_
          refine X_iadd hK dL_law_1322 ?_
          refine X_scr hK hX hbl hbA hL (by omega) (by omega) dL_law_1323 (fun z507 ez507 lz507 uz507 => ?_)
          refine X_callV hK [.int (iI z507)] [] lk_L_159 (c_X11_truckAt _ _ _ _ _ S86 g87 b1 z507 (qS86 _ _ (qb82 _ _ hk64)) (by omega)) (qS86 _ _ (qb82 _ _ hk64)) ⟨by decide, rfl⟩ dL_law_1324 rfl rfl (by simp [Value.category]) (by decide) (by omega) (by omega) (by decide) (fun r508 S510 g509 pr508 qr508 hg509 => ?_)
          obtain ⟨rfl, rfl, z511, rfl, lz511, uz511⟩ := pr508
          refine X_st [.int (iI z511)] rfl ?_
          refine X_pop hK dL_law_1327 rfl ?_
          refine X_aloadn hK (i := 2) 2 dL_law_1328 rfl rfl ?_
          refine X_aloadn hK (i := 0) 4 dL_law_1329 rfl rfl ?_
          refine X_iload hK (i := 4) 0 dL_law_1330 rfl ?_
          refine X_iconst hK dL_law_1332 ?_
          refine X_iadd hK dL_law_1333 ?_
          refine X_scrK hK hX hbl hbA hL (by omega) (by omega) ez507 dL_law_1334 ?_
          refine X_callV hK [.int (iI z507)] [] lk_L_162 (c_X12_truckAt _ _ _ _ _ S86 g87 b36 z507 (qS86 _ _ (qb82 _ _ hs_y62)) (by omega)) (qS86 _ _ (qb82 _ _ hs_y62)) ⟨by decide, rfl⟩ dL_law_1335 rfl rfl (by simp [Value.category]) (by decide) (by omega) (by omega) (by decide) (fun r512 S514 g513 pr512 qr512 hg513 => ?_)
          obtain ⟨rfl, z515, rfl, lz515, uz515⟩ := pr512
          refine X_st [.int (iI z515)] rfl ?_
          refine X_pop hK dL_law_1338 rfl ?_
          refine X_goto hK 1465 dL_law_1339 (by decide) ?_
          refine X_iinc hK (i := 4) (z := i9) (n := 6) 0 [(4, .int (iI (i9 + 6))), (3, .ref b82), (2, .ref b36), (1, .ref b1), (0, .ref b)] dL_law_1465 rfl (by decide) rfl ?_
          refine X_goto hK 23 dL_law_1468 (by decide) ?_
          exact ih9 S86 qS86 g513 (i9 + 6) k9 t9 c9 b9 sh9 sp9 sm9 (by omega) (by omega) (by omega) (by omega) (by omega) (by omega) (by omega) (by omega) (xLs_mod al9 hg513 (by decide)) si9 (xPi_m pi9 hg513 xLe.rf (by decide)) (xMp_m mp9 hg513 xLe.rf (by decide)) (xTw_m tw9 hg513 xLe.rf (by decide)) ((hg513 b1 12 0 0 (qS86 _ _ (qb82 _ _ hk64)) (by decide)).trans el09) ((hg513 b1 12 0 3 (qS86 _ _ (qb82 _ _ hk64)) (by decide)).trans el19) ((hg513 b1 12 0 1 (qS86 _ _ (qb82 _ _ hk64)) (by decide)).trans el29) ((hg513 b34 6 0 1 (qS86 _ _ (qb82 _ _ hk72)) (by decide)).trans el39) ((hg513 b1 12 0 2 (qS86 _ _ (qb82 _ _ hk64)) (by decide)).trans el49) ((hg513 b18 4 0 0 (qS86 _ _ (qb82 _ _ hk65)) (by decide)).trans el59) ((hg513 b18 4 0 2 (qS86 _ _ (qb82 _ _ hk65)) (by decide)).trans el69) ((hg513 b18 4 0 3 (qS86 _ _ (qb82 _ _ hk65)) (by decide)).trans el79) ((hg513 b18 4 0 4 (qS86 _ _ (qb82 _ _ hk65)) (by decide)).trans el89) ((hg513 b32 10 0 0 (qS86 _ _ (qb82 _ _ hk70)) (by decide)).trans el99) ((hg513 b36 13 0 1 (qS86 _ _ (qb82 _ _ hs_y62)) (by decide)).trans el109) ((hg513 b36 13 0 10 (qS86 _ _ (qb82 _ _ hs_y62)) (by decide)).trans el119) ((hg513 b36 13 0 13 (qS86 _ _ (qb82 _ _ hs_y62)) (by decide)).trans el129) ((hg513 b36 13 0 14 (qS86 _ _ (qb82 _ _ hs_y62)) (by decide)).trans el139) ((hg513 b36 13 0 12 (qS86 _ _ (qb82 _ _ hs_y62)) (by decide)).trans el149) ((hg513 b32 10 0 1 (qS86 _ _ (qb82 _ _ hk70)) (by decide)).trans exk9) ((hg513 b36 13 0 2 (qS86 _ _ (qb82 _ _ hs_y62)) (by decide)).trans emk9) ((hg513 b1 12 0 12 (qS86 _ _ (qb82 _ _ hk64)) (by decide)).trans ext9) ((hg513 b36 13 0 3 (qS86 _ _ (qb82 _ _ hs_y62)) (by decide)).trans emt9) ((hg513 b33 5 0 3 (qS86 _ _ (qb82 _ _ hk71)) (by decide)).trans exc9) ((hg513 b36 13 0 69 (qS86 _ _ (qb82 _ _ hs_y62)) (by decide)).trans emc9) ((hg513 b35 0 0 2 (qS86 _ _ (qb82 _ _ hk73)) (by decide)).trans exb9) ((hg513 b36 13 0 16 (qS86 _ _ (qb82 _ _ hs_y62)) (by decide)).trans emb9) ((hg513 b1 12 0 16 (qS86 _ _ (qb82 _ _ hk64)) (by decide)).trans exsh9) ((hg513 b36 13 0 89 (qS86 _ _ (qb82 _ _ hs_y62)) (by decide)).trans emsh9) ((hg513 b1 12 0 17 (qS86 _ _ (qb82 _ _ hk64)) (by decide)).trans exsp9) ((hg513 b36 13 0 90 (qS86 _ _ (qb82 _ _ hs_y62)) (by decide)).trans emsp9) ((hg513 b36 13 0 17 (qS86 _ _ (qb82 _ _ hs_y62)) (by decide)).trans emsm9) (xWn.m wn9 (qS86 _ _ (qb82 _ _ hk69)) (qS86 _ _ (qb82 _ _ hk76)) hg513 xLe.rf (by decide)) (by rw [(xv_m hg513 (qS86 _ _ (qb82 _ _ hk67)) (by decide) (by decide)), (xv_m hg513 (qS86 _ _ (qb82 _ _ hk74)) (by decide) (by decide))]; exact wt9) (by rw [(xv_m hg513 (qS86 _ _ (qb82 _ _ hk68)) (by decide) (by decide)), (xv_m hg513 (qS86 _ _ (qb82 _ _ hk75)) (by decide) (by decide))]; exact ld9) (by rw [(xv_m hg513 (qS86 _ _ (qb82 _ _ hk66)) (by decide) (by decide)), (xv_m hg513 (qS86 _ _ (qb82 _ _ hs_b81)) (by decide) (by decide))]; exact sk9) (by rw [(xv_m hg513 (qS86 _ _ (qb82 _ _ hs_b79)) (by decide) (by decide)), (xv_m hg513 (qS86 _ _ (qb82 _ _ hs_b80)) (by decide) (by decide))]; exact xTc.mono tc9 (by omega)) dc9 ds9 (by omega) (by omega) (by omega)
        · refine X_tableIn hK 1342 32 (by decide) c91 (by decide) (by decide) dL_law_40 rfl (by decide) ?_
          refine X_aloadn hK (i := 1) 3 dL_law_1342 rfl rfl ?_
          refine X_aloadn hK (i := 0) 4 dL_law_1343 rfl rfl ?_
          refine X_iload hK (i := 4) 0 dL_law_1344 rfl ?_
          refine X_iconst hK dL_law_1346 ?_
          refine X_iadd hK dL_law_1347 ?_
          refine X_scr hK hX hbl hbA hL (by omega) (by omega) dL_law_1348 (fun z516 ez516 lz516 uz516 => ?_)
          refine X_aloadn hK (i := 0) 4 dL_law_1349 rfl rfl ?_
          refine X_iload hK (i := 4) 0 dL_law_1350 rfl ?_
          refine X_iconst hK dL_law_1352 ?_
          refine X_iadd hK dL_law_1353 ?_
          refine X_scr hK hX hbl hbA hL (by omega) (by omega) dL_law_1354 (fun z517 ez517 lz517 uz517 => ?_)
          refine X_aloadn hK (i := 0) 4 dL_law_1355 rfl rfl ?_
          refine X_iload hK (i := 4) 0 dL_law_1356 rfl ?_
          refine X_iconst hK dL_law_1358 ?_
          refine X_iadd hK dL_law_1359 ?_
          refine X_scr hK hX hbl hbA hL (by omega) (by omega) dL_law_1360 (fun z518 ez518 lz518 uz518 => ?_)
          refine X_aloadn hK (i := 0) 4 dL_law_1361 rfl rfl ?_
          refine X_iload hK (i := 4) 0 dL_law_1362 rfl ?_
          refine X_iconst hK dL_law_1364 ?_
          refine X_iadd hK dL_law_1365 ?_
          refine X_scr hK hX hbl hbA hL (by omega) (by omega) dL_law_1366 (fun z519 ez519 lz519 uz519 => ?_)
          refine X_aloadn hK (i := 0) 4 dL_law_1367 rfl rfl ?_
          refine X_iload hK (i := 4) 0 dL_law_1368 rfl ?_
          refine X_iconst hK dL_law_1370 ?_
          refine X_iadd hK dL_law_1371 ?_
          refine X_scr hK hX hbl hbA hL (by omega) (by omega) dL_law_1372 (fun z520 ez520 lz520 uz520 => ?_)
          refine X_callV hK [.int (iI z516), .int (iI z517), .int (iI z518), .int (iI z519), .int (iI z520)] [] lk_L_163 (c_X11_strike _ _ _ _ _ S86 g87 b1 z516 z517 z518 z519 z520 b32 k9 b79 sh9 sp9 (qS86 _ _ (qb82 _ _ hk64)) (by omega) (by omega) (by omega) (by omega) (by omega) el09 (qS86 _ _ (qb82 _ _ hk70)) (by omega) exk9 el99 (qS86 _ _ (qb82 _ _ hs_b79)) (by omega) exsh9 (by omega) exsp9) (qS86 _ _ (qb82 _ _ hk64)) ⟨by decide, rfl⟩ dL_law_1373 rfl rfl (by simp [Value.category]) (by decide) (by omega) (by omega) (by decide) (fun r521 S523 g522 pr521 qr521 hg522 => ?_)
          obtain ⟨rfl, z524, rfl, lz524, uz524, k525, k526⟩ := pr521
          refine X_st [.int (iI z524)] rfl ?_
          obtain ⟨z527, z528, ez527, ez528, rz527, rz528, kz527⟩ := k526
          refine X_pop hK dL_law_1376 rfl ?_
          refine X_aloadn hK (i := 2) 2 dL_law_1377 rfl rfl ?_
          refine X_aloadn hK (i := 0) 4 dL_law_1378 rfl rfl ?_
          refine X_iload hK (i := 4) 0 dL_law_1379 rfl ?_
          refine X_iconst hK dL_law_1381 ?_
          refine X_iadd hK dL_law_1382 ?_
          refine X_scrK hK hX hbl hbA hL (by omega) (by omega) ez516 dL_law_1383 ?_
          refine X_aloadn hK (i := 0) 4 dL_law_1384 rfl rfl ?_
          refine X_iload hK (i := 4) 0 dL_law_1385 rfl ?_
          refine X_iconst hK dL_law_1387 ?_
          refine X_iadd hK dL_law_1388 ?_
          refine X_scrK hK hX hbl hbA hL (by omega) (by omega) ez517 dL_law_1389 ?_
          refine X_aloadn hK (i := 0) 4 dL_law_1390 rfl rfl ?_
          refine X_iload hK (i := 4) 0 dL_law_1391 rfl ?_
          refine X_iconst hK dL_law_1393 ?_
          refine X_iadd hK dL_law_1394 ?_
          refine X_scrK hK hX hbl hbA hL (by omega) (by omega) ez518 dL_law_1395 ?_
          refine X_aloadn hK (i := 0) 4 dL_law_1396 rfl rfl ?_
          refine X_iload hK (i := 4) 0 dL_law_1397 rfl ?_
          refine X_iconst hK dL_law_1399 ?_
          refine X_iadd hK dL_law_1400 ?_
          refine X_scrK hK hX hbl hbA hL (by omega) (by omega) ez519 dL_law_1401 ?_
          refine X_aloadn hK (i := 0) 4 dL_law_1402 rfl rfl ?_
          refine X_iload hK (i := 4) 0 dL_law_1403 rfl ?_
          refine X_iconst hK dL_law_1405 ?_
          refine X_iadd hK dL_law_1406 ?_
          refine X_scrK hK hX hbl hbA hL (by omega) (by omega) ez520 dL_law_1407 ?_
          refine X_callV hK [.int (iI z516), .int (iI z517), .int (iI z518), .int (iI z519), .int (iI z520)] [] lk_L_166 (c3_strike _ _ _ _ _ S86 g522 b36 z516 z517 z518 z519 z520 k9 b80 sh9 sp9 (qS86 _ _ (qb82 _ _ hs_y62)) (by omega) (by omega) (by omega) (by omega) (by omega) (by omega) ((hg522 b36 13 0 2 (qS86 _ _ (qb82 _ _ hs_y62)) (by decide)).trans emk9) ((hg522 b36 13 0 1 (qS86 _ _ (qb82 _ _ hs_y62)) (by decide)).trans el109) (qS86 _ _ (qb82 _ _ hs_b80)) (by omega) ((hg522 b36 13 0 89 (qS86 _ _ (qb82 _ _ hs_y62)) (by decide)).trans emsh9) (by omega) ((hg522 b36 13 0 90 (qS86 _ _ (qb82 _ _ hs_y62)) (by decide)).trans emsp9)) (qS86 _ _ (qb82 _ _ hs_y62)) ⟨by decide, rfl⟩ dL_law_1408 rfl rfl (by simp [Value.category]) (by decide) (by omega) (by omega) (by decide) (fun r529 S531 g530 pr529 qr529 hg530 => ?_)
          obtain ⟨rfl, z532, rfl, lz532, uz532, k533, k534⟩ := pr529
          refine X_st [.int (iI z532)] rfl ?_
          obtain ⟨z535, z536, ez535, ez536, rz535, rz536, kz535⟩ := k534
          obtain ⟨hq9, hhz535, hhz536⟩ := xSkr.det (by rw [(xv_m hg522 (qS86 _ _ (qb82 _ _ hs_b80)) (by decide) (by decide))]; exact tc9) kz527 kz535
          refine X_pop hK dL_law_1411 rfl ?_
          refine X_goto hK 1465 dL_law_1412 (by decide) ?_
          refine X_iinc hK (i := 4) (z := i9) (n := 6) 0 [(4, .int (iI (i9 + 6))), (3, .ref b82), (2, .ref b36), (1, .ref b1), (0, .ref b)] dL_law_1465 rfl (by decide) rfl ?_
          refine X_goto hK 23 dL_law_1468 (by decide) ?_
          exact ih9 S86 qS86 g530 (i9 + 6) (0) t9 c9 b9 z527 z528 sm9 (by omega) (by omega) (by omega) (by omega) (by omega) (by omega) (by omega) (by omega) (xLs_mod (xLs_mod al9 hg522 (by decide)) hg530 (by decide)) si9 (xPi_m (xPi_m pi9 hg522 xLe.rf (by decide)) hg530 xLe.rf (by decide)) (xMp_m (xMp_m mp9 hg522 xLe.rf (by decide)) hg530 xLe.rf (by decide)) (xTw_m (xTw_m tw9 hg522 xLe.rf (by decide)) hg530 xLe.rf (by decide)) ((hg530 b1 12 0 0 (qS86 _ _ (qb82 _ _ hk64)) (by decide)).trans ((hg522 b1 12 0 0 (qS86 _ _ (qb82 _ _ hk64)) (by decide)).trans el09)) ((hg530 b1 12 0 3 (qS86 _ _ (qb82 _ _ hk64)) (by decide)).trans ((hg522 b1 12 0 3 (qS86 _ _ (qb82 _ _ hk64)) (by decide)).trans el19)) ((hg530 b1 12 0 1 (qS86 _ _ (qb82 _ _ hk64)) (by decide)).trans ((hg522 b1 12 0 1 (qS86 _ _ (qb82 _ _ hk64)) (by decide)).trans el29)) ((hg530 b34 6 0 1 (qS86 _ _ (qb82 _ _ hk72)) (by decide)).trans ((hg522 b34 6 0 1 (qS86 _ _ (qb82 _ _ hk72)) (by decide)).trans el39)) ((hg530 b1 12 0 2 (qS86 _ _ (qb82 _ _ hk64)) (by decide)).trans ((hg522 b1 12 0 2 (qS86 _ _ (qb82 _ _ hk64)) (by decide)).trans el49)) ((hg530 b18 4 0 0 (qS86 _ _ (qb82 _ _ hk65)) (by decide)).trans ((hg522 b18 4 0 0 (qS86 _ _ (qb82 _ _ hk65)) (by decide)).trans el59)) ((hg530 b18 4 0 2 (qS86 _ _ (qb82 _ _ hk65)) (by decide)).trans ((hg522 b18 4 0 2 (qS86 _ _ (qb82 _ _ hk65)) (by decide)).trans el69)) ((hg530 b18 4 0 3 (qS86 _ _ (qb82 _ _ hk65)) (by decide)).trans ((hg522 b18 4 0 3 (qS86 _ _ (qb82 _ _ hk65)) (by decide)).trans el79)) ((hg530 b18 4 0 4 (qS86 _ _ (qb82 _ _ hk65)) (by decide)).trans ((hg522 b18 4 0 4 (qS86 _ _ (qb82 _ _ hk65)) (by decide)).trans el89)) ((hg530 b32 10 0 0 (qS86 _ _ (qb82 _ _ hk70)) (by decide)).trans ((hg522 b32 10 0 0 (qS86 _ _ (qb82 _ _ hk70)) (by decide)).trans el99)) ((hg530 b36 13 0 1 (qS86 _ _ (qb82 _ _ hs_y62)) (by decide)).trans ((hg522 b36 13 0 1 (qS86 _ _ (qb82 _ _ hs_y62)) (by decide)).trans el109)) ((hg530 b36 13 0 10 (qS86 _ _ (qb82 _ _ hs_y62)) (by decide)).trans ((hg522 b36 13 0 10 (qS86 _ _ (qb82 _ _ hs_y62)) (by decide)).trans el119)) ((hg530 b36 13 0 13 (qS86 _ _ (qb82 _ _ hs_y62)) (by decide)).trans ((hg522 b36 13 0 13 (qS86 _ _ (qb82 _ _ hs_y62)) (by decide)).trans el129)) ((hg530 b36 13 0 14 (qS86 _ _ (qb82 _ _ hs_y62)) (by decide)).trans ((hg522 b36 13 0 14 (qS86 _ _ (qb82 _ _ hs_y62)) (by decide)).trans el139)) ((hg530 b36 13 0 12 (qS86 _ _ (qb82 _ _ hs_y62)) (by decide)).trans ((hg522 b36 13 0 12 (qS86 _ _ (qb82 _ _ hs_y62)) (by decide)).trans el149)) ((hg530 b32 10 0 1 (qS86 _ _ (qb82 _ _ hk70)) (by decide)).trans k525) k533 ((hg530 b1 12 0 12 (qS86 _ _ (qb82 _ _ hk64)) (by decide)).trans ((hg522 b1 12 0 12 (qS86 _ _ (qb82 _ _ hk64)) (by decide)).trans ext9)) ((hg530 b36 13 0 3 (qS86 _ _ (qb82 _ _ hs_y62)) (by decide)).trans ((hg522 b36 13 0 3 (qS86 _ _ (qb82 _ _ hs_y62)) (by decide)).trans emt9)) ((hg530 b33 5 0 3 (qS86 _ _ (qb82 _ _ hk71)) (by decide)).trans ((hg522 b33 5 0 3 (qS86 _ _ (qb82 _ _ hk71)) (by decide)).trans exc9)) ((hg530 b36 13 0 69 (qS86 _ _ (qb82 _ _ hs_y62)) (by decide)).trans ((hg522 b36 13 0 69 (qS86 _ _ (qb82 _ _ hs_y62)) (by decide)).trans emc9)) ((hg530 b35 0 0 2 (qS86 _ _ (qb82 _ _ hk73)) (by decide)).trans ((hg522 b35 0 0 2 (qS86 _ _ (qb82 _ _ hk73)) (by decide)).trans exb9)) ((hg530 b36 13 0 16 (qS86 _ _ (qb82 _ _ hs_y62)) (by decide)).trans ((hg522 b36 13 0 16 (qS86 _ _ (qb82 _ _ hs_y62)) (by decide)).trans emb9)) ((hg530 b1 12 0 16 (qS86 _ _ (qb82 _ _ hk64)) (by decide)).trans ez527) (ez535.trans (by rw [hhz535])) ((hg530 b1 12 0 17 (qS86 _ _ (qb82 _ _ hk64)) (by decide)).trans ez528) (ez536.trans (by rw [hhz536])) ((hg530 b36 13 0 17 (qS86 _ _ (qb82 _ _ hs_y62)) (by decide)).trans ((hg522 b36 13 0 17 (qS86 _ _ (qb82 _ _ hs_y62)) (by decide)).trans emsm9)) (xWn.m (xWn.m wn9 (qS86 _ _ (qb82 _ _ hk69)) (qS86 _ _ (qb82 _ _ hk76)) hg522 xLe.rf (by decide)) (qS86 _ _ (qb82 _ _ hk69)) (qS86 _ _ (qb82 _ _ hk76)) hg530 xLe.rf (by decide)) (by rw [(Eq.trans (xv_m hg530 (qS86 _ _ (qb82 _ _ hk67)) (by decide) (by decide)) (xv_m hg522 (qS86 _ _ (qb82 _ _ hk67)) (by decide) (by decide))), (Eq.trans (xv_m hg530 (qS86 _ _ (qb82 _ _ hk74)) (by decide) (by decide)) (xv_m hg522 (qS86 _ _ (qb82 _ _ hk74)) (by decide) (by decide)))]; exact wt9) (by rw [(Eq.trans (xv_m hg530 (qS86 _ _ (qb82 _ _ hk68)) (by decide) (by decide)) (xv_m hg522 (qS86 _ _ (qb82 _ _ hk68)) (by decide) (by decide))), (Eq.trans (xv_m hg530 (qS86 _ _ (qb82 _ _ hk75)) (by decide) (by decide)) (xv_m hg522 (qS86 _ _ (qb82 _ _ hk75)) (by decide) (by decide)))]; exact ld9) (by rw [(Eq.trans (xv_m hg530 (qS86 _ _ (qb82 _ _ hk66)) (by decide) (by decide)) (xv_m hg522 (qS86 _ _ (qb82 _ _ hk66)) (by decide) (by decide))), (Eq.trans (xv_m hg530 (qS86 _ _ (qb82 _ _ hs_b81)) (by decide) (by decide)) (xv_m hg522 (qS86 _ _ (qb82 _ _ hs_b81)) (by decide) (by decide)))]; exact sk9) (by rw [(Eq.trans (xv_m hg530 (qS86 _ _ (qb82 _ _ hs_b79)) (by decide) (by decide)) (xv_m hg522 (qS86 _ _ (qb82 _ _ hs_b79)) (by decide) (by decide))), (Eq.trans (xv_m hg530 (qS86 _ _ (qb82 _ _ hs_b80)) (by decide) (by decide)) (xv_m hg522 (qS86 _ _ (qb82 _ _ hs_b80)) (by decide) (by decide)))]; exact xTc.mono tc9 (by omega)) dc9 ds9 (by omega) (by omega) (by omega)
        · refine X_tableIn hK 1415 33 (by decide) c91 (by decide) (by decide) dL_law_40 rfl (by decide) ?_
          refine X_aloadn hK (i := 1) 3 dL_law_1415 rfl rfl ?_
          refine X_aloadn hK (i := 0) 4 dL_law_1416 rfl rfl ?_
          refine X_iload hK (i := 4) 0 dL_law_1417 rfl ?_
          refine X_iconst hK dL_law_1419 ?_
          refine X_iadd hK dL_law_1420 ?_
          refine X_scr hK hX hbl hbA hL (by omega) (by omega) dL_law_1421 (fun z537 ez537 lz537 uz537 => ?_)
          refine X_callV hK [.int (iI z537)] [] lk_L_167 (c_X11_struck _ _ _ _ _ S86 g87 b1 z537 sh9 sp9 (qS86 _ _ (qb82 _ _ hk64)) (by omega) (by omega) exsh9 (by omega) exsp9) (qS86 _ _ (qb82 _ _ hk64)) ⟨by decide, rfl⟩ dL_law_1422 rfl rfl (by simp [Value.category]) (by decide) (by omega) (by omega) (by decide) (fun r538 S540 g539 pr538 qr538 hg539 => ?_)
          obtain ⟨rfl, rfl, z541, rfl, lz541, uz541, k542⟩ := pr538
          refine X_st [.int (iI z541)] rfl ?_
          refine X_pop hK dL_law_1425 rfl ?_
          refine X_aloadn hK (i := 2) 2 dL_law_1426 rfl rfl ?_
          refine X_aloadn hK (i := 0) 4 dL_law_1427 rfl rfl ?_
          refine X_iload hK (i := 4) 0 dL_law_1428 rfl ?_
          refine X_iconst hK dL_law_1430 ?_
          refine X_iadd hK dL_law_1431 ?_
          refine X_scrK hK hX hbl hbA hL (by omega) (by omega) ez537 dL_law_1432 ?_
          refine X_callV hK [.int (iI z537)] [] lk_L_170 (c_X12_struck _ _ _ _ _ S86 g87 b36 z537 sh9 sp9 (qS86 _ _ (qb82 _ _ hs_y62)) (by omega) (by omega) emsh9 (by omega) emsp9) (qS86 _ _ (qb82 _ _ hs_y62)) ⟨by decide, rfl⟩ dL_law_1433 rfl rfl (by simp [Value.category]) (by decide) (by omega) (by omega) (by decide) (fun r543 S545 g544 pr543 qr543 hg544 => ?_)
          obtain ⟨rfl, z546, rfl, lz546, uz546, k547⟩ := pr543
          refine X_st [.int (iI z546)] rfl ?_
          refine X_pop hK dL_law_1436 rfl ?_
          refine X_goto hK 1465 dL_law_1437 (by decide) ?_
          refine X_iinc hK (i := 4) (z := i9) (n := 6) 0 [(4, .int (iI (i9 + 6))), (3, .ref b82), (2, .ref b36), (1, .ref b1), (0, .ref b)] dL_law_1465 rfl (by decide) rfl ?_
          refine X_goto hK 23 dL_law_1468 (by decide) ?_
          exact ih9 S86 qS86 g544 (i9 + 6) k9 t9 c9 b9 sh9 sp9 sm9 (by omega) (by omega) (by omega) (by omega) (by omega) (by omega) (by omega) (by omega) (xLs_mod al9 hg544 (by decide)) si9 (xPi_m pi9 hg544 xLe.rf (by decide)) (xMp_m mp9 hg544 xLe.rf (by decide)) (xTw_m tw9 hg544 xLe.rf (by decide)) ((hg544 b1 12 0 0 (qS86 _ _ (qb82 _ _ hk64)) (by decide)).trans el09) ((hg544 b1 12 0 3 (qS86 _ _ (qb82 _ _ hk64)) (by decide)).trans el19) ((hg544 b1 12 0 1 (qS86 _ _ (qb82 _ _ hk64)) (by decide)).trans el29) ((hg544 b34 6 0 1 (qS86 _ _ (qb82 _ _ hk72)) (by decide)).trans el39) ((hg544 b1 12 0 2 (qS86 _ _ (qb82 _ _ hk64)) (by decide)).trans el49) ((hg544 b18 4 0 0 (qS86 _ _ (qb82 _ _ hk65)) (by decide)).trans el59) ((hg544 b18 4 0 2 (qS86 _ _ (qb82 _ _ hk65)) (by decide)).trans el69) ((hg544 b18 4 0 3 (qS86 _ _ (qb82 _ _ hk65)) (by decide)).trans el79) ((hg544 b18 4 0 4 (qS86 _ _ (qb82 _ _ hk65)) (by decide)).trans el89) ((hg544 b32 10 0 0 (qS86 _ _ (qb82 _ _ hk70)) (by decide)).trans el99) ((hg544 b36 13 0 1 (qS86 _ _ (qb82 _ _ hs_y62)) (by decide)).trans el109) ((hg544 b36 13 0 10 (qS86 _ _ (qb82 _ _ hs_y62)) (by decide)).trans el119) ((hg544 b36 13 0 13 (qS86 _ _ (qb82 _ _ hs_y62)) (by decide)).trans el129) ((hg544 b36 13 0 14 (qS86 _ _ (qb82 _ _ hs_y62)) (by decide)).trans el139) ((hg544 b36 13 0 12 (qS86 _ _ (qb82 _ _ hs_y62)) (by decide)).trans el149) ((hg544 b32 10 0 1 (qS86 _ _ (qb82 _ _ hk70)) (by decide)).trans exk9) ((hg544 b36 13 0 2 (qS86 _ _ (qb82 _ _ hs_y62)) (by decide)).trans emk9) ((hg544 b1 12 0 12 (qS86 _ _ (qb82 _ _ hk64)) (by decide)).trans ext9) ((hg544 b36 13 0 3 (qS86 _ _ (qb82 _ _ hs_y62)) (by decide)).trans emt9) ((hg544 b33 5 0 3 (qS86 _ _ (qb82 _ _ hk71)) (by decide)).trans exc9) ((hg544 b36 13 0 69 (qS86 _ _ (qb82 _ _ hs_y62)) (by decide)).trans emc9) ((hg544 b35 0 0 2 (qS86 _ _ (qb82 _ _ hk73)) (by decide)).trans exb9) ((hg544 b36 13 0 16 (qS86 _ _ (qb82 _ _ hs_y62)) (by decide)).trans emb9) ((hg544 b1 12 0 16 (qS86 _ _ (qb82 _ _ hk64)) (by decide)).trans exsh9) ((hg544 b36 13 0 89 (qS86 _ _ (qb82 _ _ hs_y62)) (by decide)).trans emsh9) ((hg544 b1 12 0 17 (qS86 _ _ (qb82 _ _ hk64)) (by decide)).trans exsp9) ((hg544 b36 13 0 90 (qS86 _ _ (qb82 _ _ hs_y62)) (by decide)).trans emsp9) ((hg544 b36 13 0 17 (qS86 _ _ (qb82 _ _ hs_y62)) (by decide)).trans emsm9) (xWn.m wn9 (qS86 _ _ (qb82 _ _ hk69)) (qS86 _ _ (qb82 _ _ hk76)) hg544 xLe.rf (by decide)) (by rw [(xv_m hg544 (qS86 _ _ (qb82 _ _ hk67)) (by decide) (by decide)), (xv_m hg544 (qS86 _ _ (qb82 _ _ hk74)) (by decide) (by decide))]; exact wt9) (by rw [(xv_m hg544 (qS86 _ _ (qb82 _ _ hk68)) (by decide) (by decide)), (xv_m hg544 (qS86 _ _ (qb82 _ _ hk75)) (by decide) (by decide))]; exact ld9) (by rw [(xv_m hg544 (qS86 _ _ (qb82 _ _ hk66)) (by decide) (by decide)), (xv_m hg544 (qS86 _ _ (qb82 _ _ hs_b81)) (by decide) (by decide))]; exact sk9) (by rw [(xv_m hg544 (qS86 _ _ (qb82 _ _ hs_b79)) (by decide) (by decide)), (xv_m hg544 (qS86 _ _ (qb82 _ _ hs_b80)) (by decide) (by decide))]; exact xTc.mono tc9 (by omega)) dc9 ds9 (by omega) (by omega) (by omega)
        · refine X_tableIn hK 1440 34 (by decide) c91 (by decide) (by decide) dL_law_40 rfl (by decide) ?_
          refine X_aloadn hK (i := 1) 3 dL_law_1440 rfl rfl ?_
          refine X_aloadn hK (i := 0) 4 dL_law_1441 rfl rfl ?_
          refine X_iload hK (i := 4) 0 dL_law_1442 rfl ?_
          refine X_iconst hK dL_law_1444 ?_
          refine X_iadd hK dL_law_1445 ?_
          refine X_scr hK hX hbl hbA hL (by omega) (by omega) dL_law_1446 (fun z548 ez548 lz548 uz548 => ?_)
          refine X_callV hK [.int (iI z548)] [] lk_L_171 (c_X11_count _ _ _ _ _ S86 g87 b1 z548 (qS86 _ _ (qb82 _ _ hk64)) (by omega) al9) (qS86 _ _ (qb82 _ _ hk64)) ⟨by decide, rfl⟩ dL_law_1447 rfl rfl (by simp [Value.category]) (by decide) (by omega) (by omega) (by decide) (fun r549 S551 g550 pr549 qr549 hg550 => ?_)
          obtain ⟨rfl, rfl, z552, rfl, lz552, uz552⟩ := pr549
          refine X_st [.int (iI z552)] rfl ?_
          refine X_pop hK dL_law_1450 rfl ?_
          refine X_aloadn hK (i := 2) 2 dL_law_1451 rfl rfl ?_
          refine X_aloadn hK (i := 0) 4 dL_law_1452 rfl rfl ?_
          refine X_iload hK (i := 4) 0 dL_law_1453 rfl ?_
          refine X_iconst hK dL_law_1455 ?_
          refine X_iadd hK dL_law_1456 ?_
          refine X_scrK hK hX hbl hbA hL (by omega) (by omega) ez548 dL_law_1457 ?_
          refine X_callV hK [.int (iI z548)] [] lk_L_174 (c_X12_count _ _ _ _ _ S86 g87 b36 z548 (qS86 _ _ (qb82 _ _ hs_y62)) (by omega)) (qS86 _ _ (qb82 _ _ hs_y62)) ⟨by decide, rfl⟩ dL_law_1458 rfl rfl (by simp [Value.category]) (by decide) (by omega) (by omega) (by decide) (fun r553 S555 g554 pr553 qr553 hg554 => ?_)
          obtain ⟨rfl, z556, rfl, lz556, uz556⟩ := pr553
          refine X_st [.int (iI z556)] rfl ?_
          refine X_pop hK dL_law_1461 rfl ?_
          refine X_goto hK 1465 dL_law_1462 (by decide) ?_
          refine X_iinc hK (i := 4) (z := i9) (n := 6) 0 [(4, .int (iI (i9 + 6))), (3, .ref b82), (2, .ref b36), (1, .ref b1), (0, .ref b)] dL_law_1465 rfl (by decide) rfl ?_
          refine X_goto hK 23 dL_law_1468 (by decide) ?_
          exact ih9 S86 qS86 g554 (i9 + 6) k9 t9 c9 b9 sh9 sp9 sm9 (by omega) (by omega) (by omega) (by omega) (by omega) (by omega) (by omega) (by omega) (xLs_mod al9 hg554 (by decide)) si9 (xPi_m pi9 hg554 xLe.rf (by decide)) (xMp_m mp9 hg554 xLe.rf (by decide)) (xTw_m tw9 hg554 xLe.rf (by decide)) ((hg554 b1 12 0 0 (qS86 _ _ (qb82 _ _ hk64)) (by decide)).trans el09) ((hg554 b1 12 0 3 (qS86 _ _ (qb82 _ _ hk64)) (by decide)).trans el19) ((hg554 b1 12 0 1 (qS86 _ _ (qb82 _ _ hk64)) (by decide)).trans el29) ((hg554 b34 6 0 1 (qS86 _ _ (qb82 _ _ hk72)) (by decide)).trans el39) ((hg554 b1 12 0 2 (qS86 _ _ (qb82 _ _ hk64)) (by decide)).trans el49) ((hg554 b18 4 0 0 (qS86 _ _ (qb82 _ _ hk65)) (by decide)).trans el59) ((hg554 b18 4 0 2 (qS86 _ _ (qb82 _ _ hk65)) (by decide)).trans el69) ((hg554 b18 4 0 3 (qS86 _ _ (qb82 _ _ hk65)) (by decide)).trans el79) ((hg554 b18 4 0 4 (qS86 _ _ (qb82 _ _ hk65)) (by decide)).trans el89) ((hg554 b32 10 0 0 (qS86 _ _ (qb82 _ _ hk70)) (by decide)).trans el99) ((hg554 b36 13 0 1 (qS86 _ _ (qb82 _ _ hs_y62)) (by decide)).trans el109) ((hg554 b36 13 0 10 (qS86 _ _ (qb82 _ _ hs_y62)) (by decide)).trans el119) ((hg554 b36 13 0 13 (qS86 _ _ (qb82 _ _ hs_y62)) (by decide)).trans el129) ((hg554 b36 13 0 14 (qS86 _ _ (qb82 _ _ hs_y62)) (by decide)).trans el139) ((hg554 b36 13 0 12 (qS86 _ _ (qb82 _ _ hs_y62)) (by decide)).trans el149) ((hg554 b32 10 0 1 (qS86 _ _ (qb82 _ _ hk70)) (by decide)).trans exk9) ((hg554 b36 13 0 2 (qS86 _ _ (qb82 _ _ hs_y62)) (by decide)).trans emk9) ((hg554 b1 12 0 12 (qS86 _ _ (qb82 _ _ hk64)) (by decide)).trans ext9) ((hg554 b36 13 0 3 (qS86 _ _ (qb82 _ _ hs_y62)) (by decide)).trans emt9) ((hg554 b33 5 0 3 (qS86 _ _ (qb82 _ _ hk71)) (by decide)).trans exc9) ((hg554 b36 13 0 69 (qS86 _ _ (qb82 _ _ hs_y62)) (by decide)).trans emc9) ((hg554 b35 0 0 2 (qS86 _ _ (qb82 _ _ hk73)) (by decide)).trans exb9) ((hg554 b36 13 0 16 (qS86 _ _ (qb82 _ _ hs_y62)) (by decide)).trans emb9) ((hg554 b1 12 0 16 (qS86 _ _ (qb82 _ _ hk64)) (by decide)).trans exsh9) ((hg554 b36 13 0 89 (qS86 _ _ (qb82 _ _ hs_y62)) (by decide)).trans emsh9) ((hg554 b1 12 0 17 (qS86 _ _ (qb82 _ _ hk64)) (by decide)).trans exsp9) ((hg554 b36 13 0 90 (qS86 _ _ (qb82 _ _ hs_y62)) (by decide)).trans emsp9) ((hg554 b36 13 0 17 (qS86 _ _ (qb82 _ _ hs_y62)) (by decide)).trans emsm9) (xWn.m wn9 (qS86 _ _ (qb82 _ _ hk69)) (qS86 _ _ (qb82 _ _ hk76)) hg554 xLe.rf (by decide)) (by rw [(xv_m hg554 (qS86 _ _ (qb82 _ _ hk67)) (by decide) (by decide)), (xv_m hg554 (qS86 _ _ (qb82 _ _ hk74)) (by decide) (by decide))]; exact wt9) (by rw [(xv_m hg554 (qS86 _ _ (qb82 _ _ hk68)) (by decide) (by decide)), (xv_m hg554 (qS86 _ _ (qb82 _ _ hk75)) (by decide) (by decide))]; exact ld9) (by rw [(xv_m hg554 (qS86 _ _ (qb82 _ _ hk66)) (by decide) (by decide)), (xv_m hg554 (qS86 _ _ (qb82 _ _ hs_b81)) (by decide) (by decide))]; exact sk9) (by rw [(xv_m hg554 (qS86 _ _ (qb82 _ _ hs_b79)) (by decide) (by decide)), (xv_m hg554 (qS86 _ _ (qb82 _ _ hs_b80)) (by decide) (by decide))]; exact xTc.mono tc9 (by omega)) dc9 ds9 (by omega) (by omega) (by omega)
  exact P9 4001 S83 xLe.rf g84 0 0 0 0 0 (-1) (-1) 0 (by omega) (by omega) (by omega) (by omega) (by omega) (by omega) (by omega) (by omega) A85 (xSi.nw (xSi.nw (xSi.nw (xSi.nw (xSi.nw k9 (xNw2.one hSy24) (by decide)) (xNw2.one hSb36) (by decide)) wr44 (by decide)) (xNw2.one hSy62) (by decide)) (xNw2.one hSb82) (by decide)) (xPi_m pi77 (hg84 ▸ xM_new (L := []) xM.rf nb82) qb82 (by decide)) (xMp_m mm78.1 (hg84 ▸ xM_new (L := []) xM.rf nb82) qb82 (by decide)) (xTw_m mm78.2 (hg84 ▸ xM_new (L := []) xM.rf nb82) qb82 (by decide)) ((xs_n hg84 hk64 nb82).trans ((hg45 b1 12 0 0 (qb36 _ _ hs_y24) (by decide)).trans ((xs_n hg38 hs_y24 nb36).trans eb32))) ((xs_n hg84 hk64 nb82).trans ((hg45 b1 12 0 3 (qb36 _ _ hs_y24) (by decide)).trans ((xs_n hg38 hs_y24 nb36).trans eb33))) ((xs_n hg84 hk64 nb82).trans ((hg45 b1 12 0 1 (qb36 _ _ hs_y24) (by decide)).trans ((xs_n hg38 hs_y24 nb36).trans eb34))) ((xs_n hg84 hk72 nb82).trans ((hg45 b34 6 0 1 hk42 (by decide)).trans ((xs_n hg38 (xhs_seal hoy24 (qr5 _ _ hs_b1) hs_b34 (by decide)) nb36).trans eb35))) ((xs_n hg84 hk64 nb82).trans ((hg45 b1 12 0 2 (qb36 _ _ hs_y24) (by decide)).trans ((xs_n hg38 hs_y24 nb36).trans eb18))) ((xs_n hg84 hk65 nb82).trans ((hg45 b18 4 0 0 (qb36 _ _ hk26) (by decide)).trans ((xs_n hg38 hk26 nb36).trans eb19))) ((xs_n hg84 hk65 nb82).trans ((hg45 b18 4 0 2 (qb36 _ _ hk26) (by decide)).trans ((xs_n hg38 hk26 nb36).trans eb20))) ((xs_n hg84 hk65 nb82).trans ((hg45 b18 4 0 3 (qb36 _ _ hk26) (by decide)).trans ((xs_n hg38 hk26 nb36).trans eb21))) ((xs_n hg84 hk65 nb82).trans ((hg45 b18 4 0 4 (qb36 _ _ hk26) (by decide)).trans ((xs_n hg38 hk26 nb36).trans eb22))) ((xs_n hg84 hk70 nb82).trans eb79) ((xs_n hg84 hs_y62 nb82).trans eb80) ((xs_n hg84 hs_y62 nb82).trans eb81) ((xs_n hg84 hs_y62 nb82).trans eb58) ((xs_n hg84 hs_y62 nb82).trans eb59) ((xs_n hg84 hs_y62 nb82).trans eb60) ((xs_n hg84 hk70 nb82).trans ((hg45 b32 10 0 1 hk40 (by decide)).trans ((xs_n hg38 (xhs_seal hoy24 (qr5 _ _ hs_b1) hs_b32 (by decide)) nb36).trans fb32))) ((xs_n hg84 hs_y62 nb82).trans tmm78) ((xs_n hg84 hk64 nb82).trans ((hg45 b1 12 0 12 (qb36 _ _ hs_y24) (by decide)).trans ((xs_n hg38 hs_y24 nb36).trans fb34))) ((xs_n hg84 hs_y62 nb82).trans k48) ((xs_n hg84 hk71 nb82).trans ((hg45 b33 5 0 3 hk41 (by decide)).trans ((xs_n hg38 (xhs_seal hoy24 (qr5 _ _ hs_b1) hs_b33 (by decide)) nb36).trans fb33))) ((xs_n hg84 hs_y62 nb82).trans k50) ((xs_n hg84 hk73 nb82).trans ((hg45 b35 0 0 2 hk43 (by decide)).trans ((xs_n hg38 (xhs_seal hoy24 (qr5 _ _ hs_b1) hs_b35 (by decide)) nb36).trans fb35))) ((xs_n hg84 hs_y62 nb82).trans k49) ((xs_n hg84 hk64 nb82).trans ((hg45 b1 12 0 16 (qb36 _ _ hs_y24) (by decide)).trans ((xs_n hg38 hs_y24 nb36).trans k12))) ((xs_n hg84 hs_y62 nb82).trans k51) ((xs_n hg84 hk64 nb82).trans ((hg45 b1 12 0 17 (qb36 _ _ hs_y24) (by decide)).trans ((xs_n hg38 hs_y24 nb36).trans k13))) ((xs_n hg84 hs_y62 nb82).trans k52) ((xs_n hg84 hs_y62 nb82).trans k53) (xWn.of (by have lt558 := (xLt.seal (qr5 _ _ hs_b1) hSy24 (by decide)); have gr557 := xGr.n zb22 lt558 hk30 (by decide) hg38 nb36; have lt560 := xLt.tr lt558 (xLt.le qb36); have gr559 := xGr.m gr557 lt560 (qb36 _ _ hk30) (by decide) hg45 (by decide) (by decide); have lt562 := xLt.tr lt560 (xLt.le qr44); have lt563 := xLt.tr lt562 (xLt.seal (qr44 _ _ hs_b36) hSy62 (by decide)); have gr561 := xGr.n gr559 lt563 hk69 (by decide) hg84 nb82; exact gr561) (xLt.tr (xLt.tr (xLt.tr (xLt.tr (xLt.seal (qr5 _ _ hs_b1) hSy24 (by decide)) (xLt.le qb36)) (xLt.le qr44)) (xLt.seal (qr44 _ _ hs_b36) hSy62 (by decide))) (xLt.le qb82)) (by rw [(xv_n hg84 hk76 nb82)]; exact zb60)) (xTc.all (by rw [(Eq.trans (Eq.trans (xv_n hg84 hk67 nb82) (xv_m hg45 (qb36 _ _ hk28) (by decide) (by decide))) (xv_n hg38 hk28 nb36))]; exact zb20) (by rw [(xv_n hg84 hk74 nb82)]; exact zb58)) (xTc.all (by rw [(Eq.trans (Eq.trans (xv_n hg84 hk68 nb82) (xv_m hg45 (qb36 _ _ hk29) (by decide) (by decide))) (xv_n hg38 hk29 nb36))]; exact zb21) (by rw [(xv_n hg84 hk75 nb82)]; exact zb59)) (xSm.zero (by rw [(Eq.trans (Eq.trans (xv_n hg84 hk66 nb82) (xv_m hg45 (qb36 _ _ hk27) (by decide) (by decide))) (xv_n hg38 hk27 nb36))]; exact zb19)) xTc.zero (((((0 + 1) + dcr5) + 1) + dcr44) + 1) (((((0 + 18) + dsr5) + 91) + dsr44) + (1 : Int).toNat) (by omega) (by omega) (by omega)
