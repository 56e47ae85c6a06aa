theorem m_10_9 : Cond.fieldLink RX12 177 "PaperBoysModel" "need" "[I" ∈ wsL_law := ch_10 _ (List.mem_of_getElem? (i := 9) rfl)
theorem m_10_10 : Cond.fieldLink RX12 180 "PaperBoysModel" "stop" "[I" ∈ wsL_law := ch_10 _ (List.mem_of_getElem? (i := 10) rfl)
theorem m_10_12 : Cond.fieldLink RX12 186 "PaperBoysModel" "tryWay" "[I" ∈ wsL_law := ch_10 _ (List.mem_of_getElem? (i := 12) rfl)
theorem m_10_13 : Cond.fieldLink RX12 189 "PaperBoysModel" "tryAt" "[I" ∈ wsL_law := ch_10 _ (List.mem_of_getElem? (i := 13) rfl)
theorem m_53_18 : Cond.methodLink RX11 339 yX8_drive ∈ wsL_law := ch_53 _ (List.mem_of_getElem? (i := 18) rfl)
theorem m_53_19 : Cond.instanceMethod yX8_drive ∈ wsL_law := ch_53 _ (List.mem_of_getElem? (i := 19) rfl)
theorem m_53_20 : Cond.selects RX8 yX8_drive yX8_drive ∈ wsL_law := ch_53 _ (List.mem_of_getElem? (i := 20) rfl)
theorem m_53_21 : Cond.code yX8_drive cX8_drive 4 (some .int) ∈ wsL_law := ch_53 _ (List.mem_of_getElem? (i := 21) rfl)
theorem m_55_14 : Cond.constant RX12 465 (65535) ∈ wsL_law := ch_55 _ (List.mem_of_getElem? (i := 14) rfl)
theorem m_55_18 : Cond.methodLink RX12 467 yX12_mayGo ∈ wsL_law := ch_55 _ (List.mem_of_getElem? (i := 18) rfl)
theorem m_55_19 : Cond.instanceMethod yX12_mayGo ∈ wsL_law := ch_55 _ (List.mem_of_getElem? (i := 19) rfl)
theorem m_55_20 : Cond.selects RX12 yX12_mayGo yX12_mayGo ∈ wsL_law := ch_55 _ (List.mem_of_getElem? (i := 20) rfl)
theorem m_55_21 : Cond.code yX12_mayGo cX12_mayGo 6 (some .boolean) ∈ wsL_law := ch_55 _ (List.mem_of_getElem? (i := 21) rfl)
theorem m_55_22 : Cond.methodLink RX12 471 yX12_comesAt ∈ wsL_law := ch_55 _ (List.mem_of_getElem? (i := 22) rfl)
theorem m_55_23 : Cond.instanceMethod yX12_comesAt ∈ wsL_law := ch_55 _ (List.mem_of_getElem? (i := 23) rfl)
theorem m_56_0 : Cond.selects RX12 yX12_comesAt yX12_comesAt ∈ wsL_law := ch_56 _ (List.mem_of_getElem? (i := 0) rfl)
theorem m_56_1 : Cond.code yX12_comesAt cX12_comesAt 3 (some .int) ∈ wsL_law := ch_56 _ (List.mem_of_getElem? (i := 1) rfl)
theorem dX11_truck_0 : decode cX11_truck 0 = .ok (.aload_n 0, 1) := by decide +kernel
theorem dX11_truck_1 : decode cX11_truck 1 = .ok (.getfield 10, 3) := by decide +kernel
theorem dX11_truck_4 : decode cX11_truck 4 = .ok (.getfield 102, 3) := by decide +kernel
theorem dX11_truck_7 : decode cX11_truck 7 = .ok (.bipush 20, 2) := by decide +kernel
theorem dX11_truck_9 : decode cX11_truck 9 = .ok (.if_icmp .ne 21, 3) := by decide +kernel
theorem dX11_truck_12 : decode cX11_truck 12 = .ok (.aload_n 0, 1) := by decide +kernel
theorem dX11_truck_13 : decode cX11_truck 13 = .ok (.getfield 69, 3) := by decide +kernel
theorem dX11_truck_16 : decode cX11_truck 16 = .ok (.aload_n 0, 1) := by decide +kernel
theorem dX11_truck_17 : decode cX11_truck 17 = .ok (.getfield 27, 3) := by decide +kernel
theorem dX11_truck_20 : decode cX11_truck 20 = .ok (.aload_n 0, 1) := by decide +kernel
theorem dX11_truck_21 : decode cX11_truck 21 = .ok (.getfield 10, 3) := by decide +kernel
theorem dX11_truck_24 : decode cX11_truck 24 = .ok (.invokevirtual 339, 3) := by decide +kernel
theorem dX11_truck_27 : decode cX11_truck 27 = .ok (.goto 4, 3) := by decide +kernel
theorem dX11_truck_30 : decode cX11_truck 30 = .ok (.iconst (-1), 1) := by decide +kernel
theorem dX11_truck_31 : decode cX11_truck 31 = .ok (.istore_n 1, 1) := by decide +kernel
theorem dX11_truck_32 : decode cX11_truck 32 = .ok (.aload_n 0, 1) := by decide +kernel
theorem dX11_truck_33 : decode cX11_truck 33 = .ok (.getfield 10, 3) := by decide +kernel
theorem dX11_truck_36 : decode cX11_truck 36 = .ok (.iconst 0, 1) := by decide +kernel
theorem dX11_truck_37 : decode cX11_truck 37 = .ok (.putfield 102, 3) := by decide +kernel
theorem dX11_truck_40 : decode cX11_truck 40 = .ok (.iload_n 1, 1) := by decide +kernel
theorem dX11_truck_41 : decode cX11_truck 41 = .ok (.ireturn, 1) := by decide +kernel
theorem dX12_comesAt_0 : decode cX12_comesAt 0 = .ok (.iload_n 1, 1) := by decide +kernel
theorem dX12_comesAt_1 : decode cX12_comesAt 1 = .ok (.ifCond .ne 7, 3) := by decide +kernel
theorem dX12_comesAt_4 : decode cX12_comesAt 4 = .ok (.iconst 0, 1) := by decide +kernel
theorem dX12_comesAt_5 : decode cX12_comesAt 5 = .ok (.goto 11, 3) := by decide +kernel
theorem dX12_comesAt_8 : decode cX12_comesAt 8 = .ok (.aload_n 0, 1) := by decide +kernel
theorem dX12_comesAt_9 : decode cX12_comesAt 9 = .ok (.getfield 189, 3) := by decide +kernel
theorem dX12_comesAt_12 : decode cX12_comesAt 12 = .ok (.iload_n 1, 1) := by decide +kernel
theorem dX12_comesAt_13 : decode cX12_comesAt 13 = .ok (.iconst 1, 1) := by decide +kernel
theorem dX12_comesAt_14 : decode cX12_comesAt 14 = .ok (.isub, 1) := by decide +kernel
theorem dX12_comesAt_15 : decode cX12_comesAt 15 = .ok (.iaload, 1) := by decide +kernel
theorem dX12_comesAt_16 : decode cX12_comesAt 16 = .ok (.aload_n 0, 1) := by decide +kernel
theorem dX12_comesAt_17 : decode cX12_comesAt 17 = .ok (.getfield 47, 3) := by decide +kernel
theorem dX12_comesAt_20 : decode cX12_comesAt 20 = .ok (.bipush 10, 2) := by decide +kernel
theorem dX12_comesAt_22 : decode cX12_comesAt 22 = .ok (.iload_n 1, 1) := by decide +kernel
theorem dX12_comesAt_23 : decode cX12_comesAt 23 = .ok (.ifCond .ne 7, 3) := by decide +kernel
theorem dX12_comesAt_26 : decode cX12_comesAt 26 = .ok (.iconst 0, 1) := by decide +kernel
theorem dX12_comesAt_27 : decode cX12_comesAt 27 = .ok (.goto 16, 3) := by decide +kernel
theorem dX12_comesAt_30 : decode cX12_comesAt 30 = .ok (.aload_n 0, 1) := by decide +kernel
theorem dX12_comesAt_31 : decode cX12_comesAt 31 = .ok (.getfield 180, 3) := by decide +kernel
theorem dX12_comesAt_34 : decode cX12_comesAt 34 = .ok (.aload_n 0, 1) := by decide +kernel
theorem dX12_comesAt_35 : decode cX12_comesAt 35 = .ok (.getfield 186, 3) := by decide +kernel
theorem dX12_comesAt_38 : decode cX12_comesAt 38 = .ok (.iload_n 1, 1) := by decide +kernel
theorem dX12_comesAt_39 : decode cX12_comesAt 39 = .ok (.iconst 1, 1) := by decide +kernel
theorem dX12_comesAt_40 : decode cX12_comesAt 40 = .ok (.isub, 1) := by decide +kernel
theorem dX12_comesAt_41 : decode cX12_comesAt 41 = .ok (.iaload, 1) := by decide +kernel
theorem dX12_comesAt_42 : decode cX12_comesAt 42 = .ok (.iaload, 1) := by decide +kernel
theorem dX12_comesAt_43 : decode cX12_comesAt 43 = .ok (.imul, 1) := by decide +kernel
theorem dX12_comesAt_44 : decode cX12_comesAt 44 = .ok (.aload_n 0, 1) := by decide +kernel
theorem dX12_comesAt_45 : decode cX12_comesAt 45 = .ok (.getfield 180, 3) := by decide +kernel
theorem dX12_comesAt_48 : decode cX12_comesAt 48 = .ok (.iload_n 2, 1) := by decide +kernel
theorem dX12_comesAt_49 : decode cX12_comesAt 49 = .ok (.iaload, 1) := by decide +kernel
theorem dX12_comesAt_50 : decode cX12_comesAt 50 = .ok (.iadd, 1) := by decide +kernel
theorem dX12_comesAt_51 : decode cX12_comesAt 51 = .ok (.iaload, 1) := by decide +kernel
theorem dX12_comesAt_52 : decode cX12_comesAt 52 = .ok (.iadd, 1) := by decide +kernel
theorem dX12_comesAt_53 : decode cX12_comesAt 53 = .ok (.ireturn, 1) := by decide +kernel
theorem dX12_mayGo_0 : decode cX12_mayGo 0 = .ok (.iload_n 3, 1) := by decide +kernel
theorem dX12_mayGo_1 : decode cX12_mayGo 1 = .ok (.iload_n 2, 1) := by decide +kernel
theorem dX12_mayGo_2 : decode cX12_mayGo 2 = .ok (.ishr, 1) := by decide +kernel
theorem dX12_mayGo_3 : decode cX12_mayGo 3 = .ok (.iconst 1, 1) := by decide +kernel
theorem dX12_mayGo_4 : decode cX12_mayGo 4 = .ok (.iand, 1) := by decide +kernel
theorem dX12_mayGo_5 : decode cX12_mayGo 5 = .ok (.iconst 1, 1) := by decide +kernel
theorem dX12_mayGo_6 : decode cX12_mayGo 6 = .ok (.if_icmp .ne 5, 3) := by decide +kernel
theorem dX12_mayGo_9 : decode cX12_mayGo 9 = .ok (.iconst 0, 1) := by decide +kernel
theorem dX12_mayGo_10 : decode cX12_mayGo 10 = .ok (.ireturn, 1) := by decide +kernel
theorem dX12_mayGo_11 : decode cX12_mayGo 11 = .ok (.aload_n 0, 1) := by decide +kernel
theorem dX12_mayGo_12 : decode cX12_mayGo 12 = .ok (.iload_n 1, 1) := by decide +kernel
theorem dX12_mayGo_13 : decode cX12_mayGo 13 = .ok (.iload_n 2, 1) := by decide +kernel
theorem dX12_mayGo_14 : decode cX12_mayGo 14 = .ok (.invokevirtual 471, 3) := by decide +kernel
theorem dX12_mayGo_17 : decode cX12_mayGo 17 = .ok (.istore 5, 2) := by decide +kernel
theorem dX12_mayGo_19 : decode cX12_mayGo 19 = .ok (.iload 5, 2) := by decide +kernel
theorem dX12_mayGo_21 : decode cX12_mayGo 21 = .ok (.aload_n 0, 1) := by decide +kernel
theorem dX12_mayGo_22 : decode cX12_mayGo 22 = .ok (.getfield 177, 3) := by decide +kernel
theorem dX12_mayGo_25 : decode cX12_mayGo 25 = .ok (.aload_n 0, 1) := by decide +kernel
theorem dX12_mayGo_26 : decode cX12_mayGo 26 = .ok (.getfield 180, 3) := by decide +kernel
theorem dX12_mayGo_29 : decode cX12_mayGo 29 = .ok (.iload_n 2, 1) := by decide +kernel
theorem dX12_mayGo_30 : decode cX12_mayGo 30 = .ok (.iaload, 1) := by decide +kernel
theorem dX12_mayGo_31 : decode cX12_mayGo 31 = .ok (.iaload, 1) := by decide +kernel
theorem dX12_mayGo_32 : decode cX12_mayGo 32 = .ok (.if_icmp .gt 14, 3) := by decide +kernel
theorem dX12_mayGo_35 : decode cX12_mayGo 35 = .ok (.iload 5, 2) := by decide +kernel
theorem dX12_mayGo_37 : decode cX12_mayGo 37 = .ok (.iload 4, 2) := by decide +kernel
theorem dX12_mayGo_39 : decode cX12_mayGo 39 = .ok (.if_icmp .ge 7, 3) := by decide +kernel
theorem dX12_mayGo_42 : decode cX12_mayGo 42 = .ok (.iconst 1, 1) := by decide +kernel
theorem dX12_mayGo_43 : decode cX12_mayGo 43 = .ok (.goto 4, 3) := by decide +kernel
theorem dX12_mayGo_46 : decode cX12_mayGo 46 = .ok (.iconst 0, 1) := by decide +kernel
theorem dX12_mayGo_47 : decode cX12_mayGo 47 = .ok (.ireturn, 1) := by decide +kernel
theorem dX12_truck_0 : decode cX12_truck 0 = .ok (.aload_n 0, 1) := by decide +kernel
theorem dX12_truck_1 : decode cX12_truck 1 = .ok (.iconst 0, 1) := by decide +kernel
theorem dX12_truck_2 : decode cX12_truck 2 = .ok (.putfield 198, 3) := by decide +kernel
theorem dX12_truck_5 : decode cX12_truck 5 = .ok (.aload_n 0, 1) := by decide +kernel
theorem dX12_truck_6 : decode cX12_truck 6 = .ok (.invokevirtual 222, 3) := by decide +kernel
theorem dX12_truck_9 : decode cX12_truck 9 = .ok (.bipush 20, 2) := by decide +kernel
theorem dX12_truck_11 : decode cX12_truck 11 = .ok (.if_icmp .eq 5, 3) := by decide +kernel
theorem dX12_truck_14 : decode cX12_truck 14 = .ok (.iconst (-1), 1) := by decide +kernel
theorem dX12_truck_15 : decode cX12_truck 15 = .ok (.ireturn, 1) := by decide +kernel
theorem dX12_truck_16 : decode cX12_truck 16 = .ok (.aload_n 0, 1) := by decide +kernel
theorem dX12_truck_17 : decode cX12_truck 17 = .ok (.invokevirtual 250, 3) := by decide +kernel
theorem dX12_truck_20 : decode cX12_truck 20 = .ok (.iconst 0, 1) := by decide +kernel
theorem dX12_truck_21 : decode cX12_truck 21 = .ok (.istore_n 1, 1) := by decide +kernel
theorem dX12_truck_22 : decode cX12_truck 22 = .ok (.iconst 1, 1) := by decide +kernel
theorem dX12_truck_23 : decode cX12_truck 23 = .ok (.istore_n 2, 1) := by decide +kernel
theorem dX12_truck_24 : decode cX12_truck 24 = .ok (.iload_n 2, 1) := by decide +kernel
theorem dX12_truck_25 : decode cX12_truck 25 = .ok (.bipush 10, 2) := by decide +kernel
theorem dX12_truck_27 : decode cX12_truck 27 = .ok (.if_icmp .ge 63, 3) := by decide +kernel
theorem dX12_truck_30 : decode cX12_truck 30 = .ok (.aload_n 0, 1) := by decide +kernel
theorem dX12_truck_31 : decode cX12_truck 31 = .ok (.getfield 177, 3) := by decide +kernel
theorem dX12_truck_34 : decode cX12_truck 34 = .ok (.iload_n 2, 1) := by decide +kernel
theorem dX12_truck_35 : decode cX12_truck 35 = .ok (.sipush 256, 3) := by decide +kernel
theorem dX12_truck_38 : decode cX12_truck 38 = .ok (.aload_n 0, 1) := by decide +kernel
theorem dX12_truck_39 : decode cX12_truck 39 = .ok (.getfield 7, 3) := by decide +kernel
theorem dX12_truck_42 : decode cX12_truck 42 = .ok (.iconst 2, 1) := by decide +kernel
theorem dX12_truck_43 : decode cX12_truck 43 = .ok (.iload_n 2, 1) := by decide +kernel
theorem dX12_truck_44 : decode cX12_truck 44 = .ok (.imul, 1) := by decide +kernel
theorem dX12_truck_45 : decode cX12_truck 45 = .ok (.iaload, 1) := by decide +kernel
theorem dX12_truck_46 : decode cX12_truck 46 = .ok (.imul, 1) := by decide +kernel
theorem dX12_truck_47 : decode cX12_truck 47 = .ok (.aload_n 0, 1) := by decide +kernel
theorem dX12_truck_48 : decode cX12_truck 48 = .ok (.getfield 7, 3) := by decide +kernel
theorem dX12_truck_51 : decode cX12_truck 51 = .ok (.iconst 2, 1) := by decide +kernel
theorem dX12_truck_52 : decode cX12_truck 52 = .ok (.iload_n 2, 1) := by decide +kernel
theorem dX12_truck_53 : decode cX12_truck 53 = .ok (.imul, 1) := by decide +kernel
theorem dX12_truck_54 : decode cX12_truck 54 = .ok (.iconst 1, 1) := by decide +kernel
theorem dX12_truck_55 : decode cX12_truck 55 = .ok (.iadd, 1) := by decide +kernel
theorem dX12_truck_56 : decode cX12_truck 56 = .ok (.iaload, 1) := by decide +kernel
theorem dX12_truck_57 : decode cX12_truck 57 = .ok (.iadd, 1) := by decide +kernel
theorem dX12_truck_58 : decode cX12_truck 58 = .ok (.iastore, 1) := by decide +kernel
theorem dX12_truck_59 : decode cX12_truck 59 = .ok (.aload_n 0, 1) := by decide +kernel
theorem dX12_truck_60 : decode cX12_truck 60 = .ok (.getfield 177, 3) := by decide +kernel
theorem dX12_truck_63 : decode cX12_truck 63 = .ok (.iload_n 2, 1) := by decide +kernel
theorem dX12_truck_64 : decode cX12_truck 64 = .ok (.iaload, 1) := by decide +kernel
theorem dX12_truck_65 : decode cX12_truck 65 = .ok (.ldc_w 465, 3) := by decide +kernel
theorem dX12_truck_68 : decode cX12_truck 68 = .ok (.if_icmp .ne 6, 3) := by decide +kernel
theorem dX12_truck_71 : decode cX12_truck 71 = .ok (.goto 13, 3) := by decide +kernel
theorem dX12_truck_74 : decode cX12_truck 74 = .ok (.aload_n 0, 1) := by decide +kernel
theorem dX12_truck_75 : decode cX12_truck 75 = .ok (.getfield 180, 3) := by decide +kernel
theorem dX12_truck_78 : decode cX12_truck 78 = .ok (.iload_n 1, 1) := by decide +kernel
theorem dX12_truck_79 : decode cX12_truck 79 = .ok (.iload_n 2, 1) := by decide +kernel
theorem dX12_truck_80 : decode cX12_truck 80 = .ok (.iastore, 1) := by decide +kernel
theorem dX12_truck_81 : decode cX12_truck 81 = .ok (.iinc 1 1, 3) := by decide +kernel
theorem dX12_truck_84 : decode cX12_truck 84 = .ok (.iinc 2 1, 3) := by decide +kernel
theorem dX12_truck_87 : decode cX12_truck 87 = .ok (.goto (-63), 3) := by decide +kernel
theorem dX12_truck_90 : decode cX12_truck 90 = .ok (.iload_n 1, 1) := by decide +kernel
theorem dX12_truck_91 : decode cX12_truck 91 = .ok (.ifCond .ne 7, 3) := by decide +kernel
theorem dX12_truck_94 : decode cX12_truck 94 = .ok (.iconst 0, 1) := by decide +kernel
theorem dX12_truck_95 : decode cX12_truck 95 = .ok (.goto 6, 3) := by decide +kernel
theorem dX12_truck_98 : decode cX12_truck 98 = .ok (.ldc_w 466, 3) := by decide +kernel
theorem dX12_truck_101 : decode cX12_truck 101 = .ok (.istore_n 2, 1) := by decide +kernel
theorem dX12_truck_102 : decode cX12_truck 102 = .ok (.iconst 0, 1) := by decide +kernel
theorem dX12_truck_103 : decode cX12_truck 103 = .ok (.istore_n 3, 1) := by decide +kernel
theorem dX12_truck_104 : decode cX12_truck 104 = .ok (.iconst 0, 1) := by decide +kernel
theorem dX12_truck_105 : decode cX12_truck 105 = .ok (.istore 4, 2) := by decide +kernel
theorem dX12_truck_107 : decode cX12_truck 107 = .ok (.iload_n 1, 1) := by decide +kernel
theorem dX12_truck_108 : decode cX12_truck 108 = .ok (.ifCond .le 10, 3) := by decide +kernel
theorem dX12_truck_111 : decode cX12_truck 111 = .ok (.aload_n 0, 1) := by decide +kernel
theorem dX12_truck_112 : decode cX12_truck 112 = .ok (.getfield 186, 3) := by decide +kernel
theorem dX12_truck_115 : decode cX12_truck 115 = .ok (.iconst 0, 1) := by decide +kernel
theorem dX12_truck_116 : decode cX12_truck 116 = .ok (.iconst (-1), 1) := by decide +kernel
theorem dX12_truck_117 : decode cX12_truck 117 = .ok (.iastore, 1) := by decide +kernel
theorem dX12_truck_118 : decode cX12_truck 118 = .ok (.iload 4, 2) := by decide +kernel
theorem dX12_truck_120 : decode cX12_truck 120 = .ok (.ifCond .lt 177, 3) := by decide +kernel
theorem dX12_truck_123 : decode cX12_truck 123 = .ok (.iload_n 1, 1) := by decide +kernel
theorem dX12_truck_124 : decode cX12_truck 124 = .ok (.ifCond .le 173, 3) := by decide +kernel
theorem dX12_truck_127 : decode cX12_truck 127 = .ok (.aload_n 0, 1) := by decide +kernel
theorem dX12_truck_128 : decode cX12_truck 128 = .ok (.getfield 186, 3) := by decide +kernel
theorem dX12_truck_131 : decode cX12_truck 131 = .ok (.iload 4, 2) := by decide +kernel
theorem dX12_truck_133 : decode cX12_truck 133 = .ok (.iaload, 1) := by decide +kernel
theorem dX12_truck_134 : decode cX12_truck 134 = .ok (.ifCond .lt 17, 3) := by decide +kernel
theorem dX12_truck_137 : decode cX12_truck 137 = .ok (.iload_n 3, 1) := by decide +kernel
theorem dX12_truck_138 : decode cX12_truck 138 = .ok (.iconst 1, 1) := by decide +kernel
theorem dX12_truck_139 : decode cX12_truck 139 = .ok (.aload_n 0, 1) := by decide +kernel
theorem dX12_truck_140 : decode cX12_truck 140 = .ok (.getfield 186, 3) := by decide +kernel
theorem dX12_truck_143 : decode cX12_truck 143 = .ok (.iload 4, 2) := by decide +kernel
theorem dX12_truck_145 : decode cX12_truck 145 = .ok (.iaload, 1) := by decide +kernel
theorem dX12_truck_146 : decode cX12_truck 146 = .ok (.ishl, 1) := by decide +kernel
theorem dX12_truck_147 : decode cX12_truck 147 = .ok (.iconst (-1), 1) := by decide +kernel
theorem dX12_truck_148 : decode cX12_truck 148 = .ok (.ixor, 1) := by decide +kernel
theorem dX12_truck_149 : decode cX12_truck 149 = .ok (.iand, 1) := by decide +kernel
theorem dX12_truck_150 : decode cX12_truck 150 = .ok (.istore_n 3, 1) := by decide +kernel
theorem dX12_truck_151 : decode cX12_truck 151 = .ok (.aload_n 0, 1) := by decide +kernel
theorem dX12_truck_152 : decode cX12_truck 152 = .ok (.getfield 186, 3) := by decide +kernel
theorem dX12_truck_155 : decode cX12_truck 155 = .ok (.iload 4, 2) := by decide +kernel
theorem dX12_truck_157 : decode cX12_truck 157 = .ok (.iaload, 1) := by decide +kernel
theorem dX12_truck_158 : decode cX12_truck 158 = .ok (.iconst 1, 1) := by decide +kernel
theorem dX12_truck_159 : decode cX12_truck 159 = .ok (.iadd, 1) := by decide +kernel
theorem dX12_truck_160 : decode cX12_truck 160 = .ok (.istore 5, 2) := by decide +kernel
theorem dX12_truck_162 : decode cX12_truck 162 = .ok (.iload 5, 2) := by decide +kernel
theorem dX12_truck_164 : decode cX12_truck 164 = .ok (.iload_n 1, 1) := by decide +kernel
theorem dX12_truck_165 : decode cX12_truck 165 = .ok (.if_icmp .ge 22, 3) := by decide +kernel
theorem dX12_truck_168 : decode cX12_truck 168 = .ok (.aload_n 0, 1) := by decide +kernel
theorem dX12_truck_169 : decode cX12_truck 169 = .ok (.iload 4, 2) := by decide +kernel
theorem dX12_truck_171 : decode cX12_truck 171 = .ok (.iload 5, 2) := by decide +kernel
theorem dX12_truck_173 : decode cX12_truck 173 = .ok (.iload_n 3, 1) := by decide +kernel
theorem dX12_truck_174 : decode cX12_truck 174 = .ok (.iload_n 2, 1) := by decide +kernel
theorem dX12_truck_175 : decode cX12_truck 175 = .ok (.invokevirtual 467, 3) := by decide +kernel
theorem dX12_truck_178 : decode cX12_truck 178 = .ok (.ifCond .ne 9, 3) := by decide +kernel
theorem dX12_truck_181 : decode cX12_truck 181 = .ok (.iinc 5 1, 3) := by decide +kernel
theorem dX12_truck_184 : decode cX12_truck 184 = .ok (.goto (-22), 3) := by decide +kernel
theorem dX12_truck_187 : decode cX12_truck 187 = .ok (.iload 5, 2) := by decide +kernel
theorem dX12_truck_189 : decode cX12_truck 189 = .ok (.iload_n 1, 1) := by decide +kernel
theorem dX12_truck_190 : decode cX12_truck 190 = .ok (.if_icmp .ne 9, 3) := by decide +kernel
theorem dX12_truck_193 : decode cX12_truck 193 = .ok (.iinc 4 (-1), 3) := by decide +kernel
theorem dX12_truck_196 : decode cX12_truck 196 = .ok (.goto (-78), 3) := by decide +kernel
theorem dX12_truck_199 : decode cX12_truck 199 = .ok (.aload_n 0, 1) := by decide +kernel
theorem dX12_truck_200 : decode cX12_truck 200 = .ok (.getfield 186, 3) := by decide +kernel
theorem dX12_truck_203 : decode cX12_truck 203 = .ok (.iload 4, 2) := by decide +kernel
theorem dX12_truck_205 : decode cX12_truck 205 = .ok (.iload 5, 2) := by decide +kernel
theorem dX12_truck_207 : decode cX12_truck 207 = .ok (.iastore, 1) := by decide +kernel
theorem dX12_truck_208 : decode cX12_truck 208 = .ok (.aload_n 0, 1) := by decide +kernel
theorem dX12_truck_209 : decode cX12_truck 209 = .ok (.getfield 189, 3) := by decide +kernel
theorem dX12_truck_212 : decode cX12_truck 212 = .ok (.iload 4, 2) := by decide +kernel
theorem dX12_truck_214 : decode cX12_truck 214 = .ok (.aload_n 0, 1) := by decide +kernel
theorem dX12_truck_215 : decode cX12_truck 215 = .ok (.iload 4, 2) := by decide +kernel
theorem dX12_truck_217 : decode cX12_truck 217 = .ok (.iload 5, 2) := by decide +kernel
theorem dX12_truck_219 : decode cX12_truck 219 = .ok (.invokevirtual 471, 3) := by decide +kernel
theorem dX12_truck_222 : decode cX12_truck 222 = .ok (.iastore, 1) := by decide +kernel
theorem dX12_truck_223 : decode cX12_truck 223 = .ok (.iload_n 3, 1) := by decide +kernel
theorem dX12_truck_224 : decode cX12_truck 224 = .ok (.iconst 1, 1) := by decide +kernel
theorem dX12_truck_225 : decode cX12_truck 225 = .ok (.iload 5, 2) := by decide +kernel
theorem dX12_truck_227 : decode cX12_truck 227 = .ok (.ishl, 1) := by decide +kernel
theorem dX12_truck_228 : decode cX12_truck 228 = .ok (.ior, 1) := by decide +kernel
theorem dX12_truck_229 : decode cX12_truck 229 = .ok (.istore_n 3, 1) := by decide +kernel
theorem dX12_truck_230 : decode cX12_truck 230 = .ok (.iload 4, 2) := by decide +kernel
theorem dX12_truck_232 : decode cX12_truck 232 = .ok (.iload_n 1, 1) := by decide +kernel
theorem dX12_truck_233 : decode cX12_truck 233 = .ok (.iconst 1, 1) := by decide +kernel
theorem dX12_truck_234 : decode cX12_truck 234 = .ok (.isub, 1) := by decide +kernel
theorem dX12_truck_235 : decode cX12_truck 235 = .ok (.if_icmp .ge 17, 3) := by decide +kernel
theorem dX12_truck_238 : decode cX12_truck 238 = .ok (.iinc 4 1, 3) := by decide +kernel
theorem dX12_truck_241 : decode cX12_truck 241 = .ok (.aload_n 0, 1) := by decide +kernel
theorem dX12_truck_242 : decode cX12_truck 242 = .ok (.getfield 186, 3) := by decide +kernel
theorem dX12_truck_245 : decode cX12_truck 245 = .ok (.iload 4, 2) := by decide +kernel
theorem dX12_truck_247 : decode cX12_truck 247 = .ok (.iconst (-1), 1) := by decide +kernel
theorem dX12_truck_248 : decode cX12_truck 248 = .ok (.iastore, 1) := by decide +kernel
theorem dX12_truck_249 : decode cX12_truck 249 = .ok (.goto (-131), 3) := by decide +kernel
theorem dX12_truck_252 : decode cX12_truck 252 = .ok (.aload_n 0, 1) := by decide +kernel
theorem dX12_truck_253 : decode cX12_truck 253 = .ok (.getfield 189, 3) := by decide +kernel
theorem dX12_truck_256 : decode cX12_truck 256 = .ok (.iload 4, 2) := by decide +kernel
theorem dX12_truck_258 : decode cX12_truck 258 = .ok (.iaload, 1) := by decide +kernel
theorem dX12_truck_259 : decode cX12_truck 259 = .ok (.istore_n 2, 1) := by decide +kernel
theorem dX12_truck_260 : decode cX12_truck 260 = .ok (.iconst 0, 1) := by decide +kernel
theorem dX12_truck_261 : decode cX12_truck 261 = .ok (.istore 6, 2) := by decide +kernel
theorem dX12_truck_263 : decode cX12_truck 263 = .ok (.iload 6, 2) := by decide +kernel
theorem dX12_truck_265 : decode cX12_truck 265 = .ok (.iload_n 1, 1) := by decide +kernel
theorem dX12_truck_266 : decode cX12_truck 266 = .ok (.if_icmp .ge 28, 3) := by decide +kernel
theorem dX12_truck_269 : decode cX12_truck 269 = .ok (.aload_n 0, 1) := by decide +kernel
theorem dX12_truck_270 : decode cX12_truck 270 = .ok (.getfield 183, 3) := by decide +kernel
theorem dX12_truck_273 : decode cX12_truck 273 = .ok (.iload 6, 2) := by decide +kernel
theorem dX12_truck_275 : decode cX12_truck 275 = .ok (.aload_n 0, 1) := by decide +kernel
theorem dX12_truck_276 : decode cX12_truck 276 = .ok (.getfield 180, 3) := by decide +kernel
theorem dX12_truck_279 : decode cX12_truck 279 = .ok (.aload_n 0, 1) := by decide +kernel
theorem dX12_truck_280 : decode cX12_truck 280 = .ok (.getfield 186, 3) := by decide +kernel
theorem dX12_truck_283 : decode cX12_truck 283 = .ok (.iload 6, 2) := by decide +kernel
theorem dX12_truck_285 : decode cX12_truck 285 = .ok (.iaload, 1) := by decide +kernel
theorem dX12_truck_286 : decode cX12_truck 286 = .ok (.iaload, 1) := by decide +kernel
theorem dX12_truck_287 : decode cX12_truck 287 = .ok (.iastore, 1) := by decide +kernel
theorem dX12_truck_288 : decode cX12_truck 288 = .ok (.iinc 6 1, 3) := by decide +kernel
theorem dX12_truck_291 : decode cX12_truck 291 = .ok (.goto (-28), 3) := by decide +kernel
theorem dX12_truck_294 : decode cX12_truck 294 = .ok (.goto (-176), 3) := by decide +kernel
theorem dX12_truck_297 : decode cX12_truck 297 = .ok (.iload_n 2, 1) := by decide +kernel
theorem dX12_truck_298 : decode cX12_truck 298 = .ok (.ldc_w 466, 3) := by decide +kernel
theorem dX12_truck_301 : decode cX12_truck 301 = .ok (.if_icmp .ne 5, 3) := by decide +kernel
theorem dX12_truck_304 : decode cX12_truck 304 = .ok (.iconst (-1), 1) := by decide +kernel
theorem dX12_truck_305 : decode cX12_truck 305 = .ok (.ireturn, 1) := by decide +kernel
theorem dX12_truck_306 : decode cX12_truck 306 = .ok (.aload_n 0, 1) := by decide +kernel
theorem dX12_truck_307 : decode cX12_truck 307 = .ok (.iload_n 1, 1) := by decide +kernel
theorem dX12_truck_308 : decode cX12_truck 308 = .ok (.putfield 474, 3) := by decide +kernel
theorem dX12_truck_311 : decode cX12_truck 311 = .ok (.aload_n 0, 1) := by decide +kernel
theorem dX12_truck_312 : decode cX12_truck 312 = .ok (.iconst 1, 1) := by decide +kernel
theorem dX12_truck_313 : decode cX12_truck 313 = .ok (.putfield 477, 3) := by decide +kernel
theorem dX12_truck_316 : decode cX12_truck 316 = .ok (.iload_n 2, 1) := by decide +kernel
theorem dX12_truck_317 : decode cX12_truck 317 = .ok (.ireturn, 1) := by decide +kernel
theorem fl_X12_177_13 : xF RX12 177 13 82 (.array .int) true := ⟨by decide, RX12, TX12, 91, tyX12, "PaperBoysModel", rfl, inlX12, tyX12_ok, nmX12, by decide, rfl, rfl, m_10_9, Or.inl rfl⟩
theorem fl_X12_180_13 : xF RX12 180 13 83 (.array .int) true := ⟨by decide, RX12, TX12, 91, tyX12, "PaperBoysModel", rfl, inlX12, tyX12_ok, nmX12, by decide, rfl, rfl, m_10_10, Or.inl rfl⟩
theorem fl_X12_186_13 : xF RX12 186 13 85 (.array .int) true := ⟨by decide, RX12, TX12, 91, tyX12, "PaperBoysModel", rfl, inlX12, tyX12_ok, nmX12, by decide, rfl, rfl, m_10_12, Or.inl rfl⟩
theorem fl_X12_189_13 : xF RX12 189 13 86 (.array .int) true := ⟨by decide, RX12, TX12, 91, tyX12, "PaperBoysModel", rfl, inlX12, tyX12_ok, nmX12, by decide, rfl, rfl, m_10_13, Or.inl rfl⟩
theorem lk_X11_339 : xLV RX11 339 yX8_drive cX8_drive 4 (some .int) 2 := ⟨m_53_18, m_53_19, m_53_20, m_2_22, m_53_21, by decide +kernel⟩
theorem lk_X12_467 : xLV RX12 467 yX12_mayGo cX12_mayGo 6 (some .boolean) 4 := ⟨m_55_18, m_55_19, m_55_20, m_1_5, m_55_21, by decide +kernel⟩
theorem lk_X12_471 : xLV RX12 471 yX12_comesAt cX12_comesAt 3 (some .int) 2 := ⟨m_55_22, m_55_23, m_56_0, m_1_5, m_56_1, by decide +kernel⟩
theorem xEx.had {n e k i : Int} {F B c y : Int → Int} {W : Int → Int → Int} (h : xEx n F W B (xAx k i y) e c) (hk : 0 ≤ k ∧ k < n) (why : ∃ x, 0 ≤ x ∧ x < k ∧ y x = i) : xEx n F W B (xAx k (i + 1) y) e c := h.skip hk.1 (fun t ht ag et => by
  obtain ⟨x, x1, x2, x3⟩ := why
  exact absurd (show t x = t k by rw [ag x x1 x2, x3, et]) (ht.1.2.2 x k x1 (by omega) hk.1 (by omega) (by omega)))
def xTqd (n : Int) (T tw c : Int → Int) (e : Int) : Prop := e ≠ 100000 → ∀ x, 0 ≤ x → x < n → tw x = T (c x)
def xRi (n : Int) (F : Int → Int) (W : Int → Int → Int) (B T : Int → Int) (k i e : Int) (y ta tw : Int → Int) : Prop := xFz n F W B y k.toNat ∧ (∀ x, 0 ≤ x → x < k → ta x = xar F W y x.toNat) ∧ ∃ c, xEx n F W B (xAx k i y) e c ∧ xTqd n T tw c e
def xRk (n : Int) (F : Int → Int) (W : Int → Int → Int) (B T : Int → Int) (k had e : Int) (y ta tw : Int → Int) : Prop := (0 ≤ k → (-1 ≤ y k ∧ y k < n) ∧ had = ((xmn y k.toNat : Nat) : Int) + (if y k = -1 then 0 else ((2 ^ (y k).toNat : Nat) : Int)) ∧ (y k ≠ -1 → xtc (xmn y k.toNat) (y k).toNat = 0) ∧ xRi n F W B T k (y k + 1) e y ta tw) ∧ (k = -1 → ∃ c, xEx n F W B (fun _ => True) e c ∧ xTqd n T tw c e)
section XRK
variable {n e k i z : Int} {F B T y y' ta ta' tw tw' : Int → Int} {W : Int → Int → Int}
theorem xRk.z (hn : 1 ≤ n) (e0 : y 0 = -1) : xRk n F W B T 0 0 100000 y ta tw := by
  refine ⟨fun _ => ⟨by omega, by rw [if_pos e0]; rfl, fun q => absurd e0 q, ⟨⟨by show ((0 : Nat) : Int) ≤ n; omega, fun k q1 q2 => by have : k < 0 := q2; omega, fun i j q1 q2 => by have : i < 0 := q2; omega⟩, fun k q => absurd q (Nat.not_lt_zero _)⟩, fun x q1 q2 => by omega, fun _ => 0, by rw [e0]; exact xEx.z hn, fun q => absurd rfl q⟩, fun q => by omega⟩
theorem xRk.had {had : Int} (hn : n ≤ 9) (h : xRk n F W B T k had e y ta tw) (hk : 0 ≤ k) (hy : y k ≠ -1) : (0 ≤ had ∧ had < 512) ∧ xtc had.toNat (y k).toNat = 1 ∧ had = ((xmn y k.toNat : Nat) : Int) + ((2 ^ (y k).toNat : Nat) : Int) := by
  obtain ⟨h1, h2, h3, h4⟩ := h.1 hk
  rw [if_neg hy] at h2
  have m := xmn_in hn _ h4.1.1
  obtain ⟨u1, u2, u3, u4⟩ := xn_up ⟨xmn y k.toNat, m.1⟩ ⟨(y k).toNat, by omega⟩ (h3 hy)
  have u1' : xmn y k.toNat + 2 ^ (y k).toNat < 512 := u1
  have u3' : xtc (xmn y k.toNat + 2 ^ (y k).toNat) (y k).toNat = 1 := u3
  have e1 : had.toNat = xmn y k.toNat + 2 ^ (y k).toNat := by omega
  refine ⟨by omega, by rw [e1]; exact u3', h2⟩
theorem xRk.ri {had : Int} (h : xRk n F W B T k had e y ta tw) (hk : 0 ≤ k) : xRi n F W B T k (y k + 1) e y ta tw := (h.1 hk).2.2.2
theorem xRi.mk (hn : n ≤ 9) (h : xRi n F W B T k i e y ta tw) : 0 ≤ ((xmn y k.toNat : Nat) : Int) ∧ ((xmn y k.toNat : Nat) : Int) < 512 := by
  have := (xmn_in hn _ h.1.1).1
  omega
theorem xRi.skip (h : xRi n F W B T k i e y ta tw) (hn : n ≤ 9) (hk : 0 ≤ k ∧ k < n) (hi : 0 ≤ i ∧ i < n) (hW : ∀ i j, 0 ≤ i → i < n → 0 ≤ j → j < n → 0 ≤ W i j) (why : xtc (xmn y k.toNat) i.toNat = 1 ∨ ∃ z, xCo9 F W y k i z ∧ z < 100000 ∧ (B i < z ∨ e ≤ z)) : xRi n F W B T k (i + 1) e y ta tw := by
  obtain ⟨h1, h2, c, h3, h4⟩ := h
  refine ⟨h1, h2, c, ?_, h4⟩
  rcases why with w | ⟨z, w1, w2, w3⟩
  · obtain ⟨x, x1, x2, x3⟩ := ((xmn_in hn _ h1.1).2.2 i.toNat (by omega)).mp w
    exact h3.had hk ⟨x, x1, by omega, by omega⟩
  · exact h3.bad hn hW hk w1 w2 (Or.inr w3)
theorem xRi.ne {x : Int} (h : xRi n F W B T k i e y ta tw) (hx : 0 ≤ x ∧ x < k) : (0 ≤ y x ∧ y x < n) ∧ ta x = xar F W y x.toNat ∧ xar F W y x.toNat ≤ B (y x) := by
  have r := h.1.1.2.1 x hx.1 (by omega)
  have f := h.1.2 x.toNat (by omega)
  rw [show ((x.toNat : Nat) : Int) = x by omega] at f
  exact ⟨r, h.2.1 x hx.1 hx.2, f⟩
theorem xRi.pop (h : xRi n F W B T k n e y ta tw) (hn : n ≤ 9) (hk : 0 ≤ k ∧ k < n) : xRk n F W B T (k + (-1)) ((xmn y k.toNat : Nat) : Int) e y ta tw := by
  obtain ⟨h1, h2, c, h3, h4⟩ := h
  refine ⟨fun hk1 => ?_, fun hk0 => ?_⟩
  · have ek : k + (-1) = k - 1 := by omega
    rw [ek] at hk1 ⊢
    have r := h1.1.2.1 (k - 1) (by omega) (by omega)
    have px := h1.1.lt (c := (k - 1).toNat) (by omega)
    have ekn : k.toNat = (k - 1).toNat + 1 := by omega
    have mk : xmn y k.toNat = xmn y (k - 1).toNat + 2 ^ (y (k - 1)).toNat := by
      rw [ekn]
      show xmn y (k - 1).toNat + 2 ^ (y (((k - 1).toNat : Nat) : Int)).toNat = _
      rw [show (((k - 1).toNat : Nat) : Int) = k - 1 by omega]
    refine ⟨by omega, by rw [if_neg (by omega), mk]; omega, fun _ => (xmn_no hn px r).mpr (fun x q1 q2 => h1.1.2.2 x (k - 1) q1 (by omega) (by omega) (by omega) (by omega)), ⟨h1.lt (by omega), fun x q1 q2 => h2 x q1 (by omega), c, h3.pop (by omega), h4⟩⟩
  · have k0 : k = 0 := by omega
    subst k0
    exact ⟨c, h3.all (by omega), h4⟩
theorem xRi.fz (hn : 0 ≤ n ∧ n ≤ 9) (h : xRi n F W B T k i e y ta tw) (hk : 0 ≤ k ∧ k < n) (hi : 0 ≤ i ∧ i < n) (hb : xtc (xmn y k.toNat) i.toNat = 0) (hz : xCo9 F W y k i z) (hB : z ≤ B i) (e1 : y' k = i) (e2 : ∀ x, 0 ≤ x → x < k → y' x = y x) : xFz n F W B y' (k.toNat + 1) ∧ xar F W y' k.toNat = z ∧ xmn y' k.toNat = xmn y k.toNat := by
  have ck : ((k.toNat : Nat) : Int) = k := by omega
  have ag : ∀ x : Int, 0 ≤ x → x < (k.toNat : Nat) → y' x = y x := fun x q1 q2 => e2 x q1 (by omega)
  have mk : xmn y' k.toNat = xmn y k.toNat := xmn_cg ag
  have f0 : xFz n F W B y' k.toNat := h.1.cg ag
  have ar := hz.at hk.1 e2 e1
  have px : xPfz n y' (k.toNat + 1) := f0.1.ext hn (by rw [ck, e1]; exact hi) (by rw [mk, ck, e1]; exact hb)
  refine ⟨⟨px, fun x hx => ?_⟩, ar, mk⟩
  by_cases q : x = k.toNat
  · rw [q, ar, ck, e1]; exact hB
  · exact f0.2 x (by omega)
theorem xRi.push {had : Int} (hn : 0 ≤ n ∧ n ≤ 9) (h : xRi n F W B T k i e y ta tw) (hk : 0 ≤ k ∧ k + 1 < n) (hi : 0 ≤ i ∧ i < n) (hb : xtc (xmn y k.toNat) i.toNat = 0) (hz : xCo9 F W y k i z) (hB : z ≤ B i) (e1 : y' k = i) (e2 : ∀ x, 0 ≤ x → x ≠ k → x ≠ k + 1 → y' x = y x) (e3 : y' (k + 1) = -1) (t1 : ta' k = z) (t2 : ∀ x, 0 ≤ x → x ≠ k → ta' x = ta x) (w1 : ∀ x, 0 ≤ x → tw' x = tw x) (hh : had = ((xmn y k.toNat : Nat) : Int) + ((2 ^ i.toNat : Nat) : Int)) : xRk n F W B T (k + 1) had e y' ta' tw' := by
  have e2' : ∀ x, 0 ≤ x → x < k → y' x = y x := fun x q1 q2 => e2 x q1 (by omega) (by omega)
  obtain ⟨f1, f2, f3⟩ := xRi.fz hn h ⟨hk.1, by omega⟩ hi hb hz hB e1 e2'
  have ek : (k + 1).toNat = k.toNat + 1 := by omega
  have ck : ((k.toNat : Nat) : Int) = k := by omega
  obtain ⟨h1, h2, c, h3, h4⟩ := h
  refine ⟨fun _ => ⟨by omega, ?_, fun q => absurd e3 q, ?_, ?_, c, ?_, fun q x q1 q2 => by rw [w1 x q1]; exact h4 q x q1 q2⟩, fun q => by omega⟩
  · rw [if_pos e3, ek]
    show had = ((xmn y' k.toNat + 2 ^ (y' ((k.toNat : Nat) : Int)).toNat : Nat) : Int) + 0
    rw [f3, ck, e1, hh]
    omega
  · rw [ek]; exact f1
  · intro x q1 q2
    by_cases q : x = k
    · rw [q, t1, f2]
    · rw [t2 x q1 q, h2 x q1 (by omega)]
      exact xar_cg (fun j w1 w2 => (e2' j w1 (by omega)).symm)
  · rw [e3]
    exact h3.push hk e1 e2'
theorem xRi.leaf {had : Int} (hn : 0 ≤ n ∧ n ≤ 9) (h : xRi n F W B T k i e y ta tw) (hk : 0 ≤ k ∧ k + 1 = n) (hi : 0 ≤ i ∧ i < n) (hb : xtc (xmn y k.toNat) i.toNat = 0) (hz : xCo9 F W y k i z) (hB : z ≤ B i) (hl : z < e) (e1 : y' k = i) (e2 : ∀ x, 0 ≤ x → x ≠ k → y' x = y x) (t1 : ∀ x, 0 ≤ x → x < k → ta' x = ta x) (w1 : ∀ x, 0 ≤ x → x < n → tw' x = T (y' x)) (hh : had = ((xmn y k.toNat : Nat) : Int) + ((2 ^ i.toNat : Nat) : Int)) : xRk n F W B T k had z y' ta' tw' := by
  have e2' : ∀ x, 0 ≤ x → x < k → y' x = y x := fun x q1 q2 => e2 x q1 (by omega)
  obtain ⟨f1, f2, f3⟩ := xRi.fz hn h ⟨hk.1, by omega⟩ hi hb hz hB e1 e2'
  have en : n.toNat = k.toNat + 1 := by omega
  obtain ⟨h1, h2, c, h3, h4⟩ := h
  refine ⟨fun _ => ⟨by omega, ?_, fun _ => by rw [f3, e1]; exact hb, f1.lt (by omega), fun x q1 q2 => ?_, y', ?_, fun _ => w1⟩, fun q => by omega⟩
  · rw [if_neg (by omega), f3, e1]; exact hh
  · rw [t1 x q1 q2, h2 x q1 q2]
    exact xar_cg (fun j w1 w2 => (e2' j w1 (by omega)).symm)
  · rw [e1]
    exact h3.leaf hk e1 e2' (by rw [en]; exact f1) (by rw [en]; exact f2) hl
theorem xRk.fin {had : Int} (hn : 1 ≤ n) (hB : ∀ i, 0 ≤ i → i < n → B i < 100000) (h : xRk n F W B T (-1) had e y ta tw) : (e = 100000 ∧ ∀ t, ¬ xFz n F W B t n.toNat) ∨ (e < 100000 ∧ ∃ c, xBw n F W B e c ∧ ∀ x, 0 ≤ x → x < n → tw x = T (c x)) := by
  obtain ⟨c, h1, h2⟩ := h.2 rfl
  rcases xEx.fin hn hB h1 with q | q
  · exact Or.inl q
  · exact Or.inr ⟨q.1, c, q.2, h2 (by omega)⟩
end XRK
def xQud (Q : Int → Int → Int) (a b n : Int) : Int → Int → Int := fun x y => if (x = a ∧ y = b) ∨ (x = b ∧ y = a) then n else Q x y
def xTK (f : Int → Int) (Q : Int → Int → Int) (k r m m1 : Int) (Y Y1 : Int → Int) : Prop := (k ≠ 20 ∧ r = -1 ∧ m1 = m ∧ ∀ i, 0 ≤ i → i < 9 → Y1 i = Y i) ∨ (k = 20 ∧ xTk f Q r m m1 Y Y1)
theorem xTK.det {f : Int → Int} {Q : Int → Int → Int} {k r r' m m1 m1' : Int} {Y Y1 Y' Y1' : Int → Int} (hm : m ≤ 9) (ha : ∀ k, 0 ≤ k → k < m → Y k = Y' k) (h : xTK f Q k r m m1 Y Y1) (h' : xTK f Q k r' m m1' Y' Y1') : r = r' ∧ m1 = m1' ∧ ∀ k, 0 ≤ k → k < m1 → Y1 k = Y1' k := by
  rcases h with ⟨a0, a1, a2, a3⟩ | ⟨a0, a1⟩
  · rcases h' with ⟨b0, b1, b2, b3⟩ | ⟨b0, b1⟩
    · exact ⟨by omega, by omega, fun i q1 q2 => by rw [a3 i q1 (by omega), b3 i q1 (by omega)]; exact ha i q1 (by omega)⟩
    · exact absurd b0 a0
  · rcases h' with ⟨b0, b1, b2, b3⟩ | ⟨b0, b1⟩
    · exact absurd a0 b0
    · exact xTk.det hm ha a1 b1
theorem xar_nn {n : Int} {F v : Int → Int} {W : Int → Int → Int} (hF : ∀ i, 0 ≤ i → i < n → 0 ≤ F i) (hW : ∀ i j, 0 ≤ i → i < n → 0 ≤ j → j < n → 0 ≤ W i j) {b : Nat} (hv : xPfz n v b) : ∀ k : Nat, k < b → 0 ≤ xar F W v k := by
  intro k
  induction k with
  | zero => intro hk; exact hF _ (hv.2.1 0 (by omega) (by omega)).1 (hv.2.1 0 (by omega) (by omega)).2
  | succ k ih =>
    intro hk
    have i1 := ih (by omega)
    have r1 := hv.2.1 k (by omega) (by omega)
    have r2 := hv.2.1 ((k : Int) + 1) (by omega) (by omega)
    have q := hW _ _ r1.1 r1.2 r2.1 r2.2
    show 0 ≤ xar F W v k + W (v k) (v (k + 1))
    omega
theorem xRi.kp {n e k i : Int} {F B T y y' ta ta' tw : Int → Int} {W : Int → Int → Int} (h : xRi n F W B T k i e y ta tw) (hk : 0 ≤ k) (e2 : ∀ x, 0 ≤ x → x < k → y' x = y x) (t2 : ∀ x, 0 ≤ x → x < k → ta' x = ta x) (hF : ∀ i, 0 ≤ i → i < n → 0 ≤ F i) (hW : ∀ i j, 0 ≤ i → i < n → 0 ≤ j → j < n → 0 ≤ W i j) (hB : ∀ i, 0 ≤ i → i < n → B i ≤ 65535) : k = 0 ∨ ((0 ≤ y' (k - 1) ∧ y' (k - 1) < n) ∧ ta' (k - 1) = xar F W y' (k - 1).toNat ∧ 0 ≤ ta' (k - 1) ∧ ta' (k - 1) ≤ 65535) := by
  by_cases q : k = 0
  · exact Or.inl q
  · obtain ⟨r1, r2, r3⟩ := xRi.ne h (x := k - 1) (by omega)
    have nn := xar_nn hF hW h.1.1 (k - 1).toNat (by omega)
    have bb := hB _ r1.1 r1.2
    have ea : xar F W y' (k - 1).toNat = xar F W y (k - 1).toNat := xar_cg (fun x q1 q2 => e2 x q1 (by omega))
    rw [e2 (k - 1) (by omega) (by omega), t2 (k - 1) (by omega) (by omega), ea, r2]
    exact Or.inr ⟨r1, rfl, nn, by omega⟩
def xRc (S : xT) (g : xG) (a : Nat) (n : Int) (Y : Int → Int) (Q : Int → Int → Int) : Prop := ∃ rt wy ct mg : Nat, S a = some (12, 0) ∧ g a 9 = .ref rt ∧ S rt = some (9, 0) ∧ g rt 2 = .ref wy ∧ S wy = some (13300, 9) ∧ g rt 5 = .int (iI n) ∧ 0 ≤ n ∧ n ≤ 9 ∧ xv g wy = Y ∧ g a 2 = .ref ct ∧ S ct = some (4, 0) ∧ g ct 6 = .ref mg ∧ xQm S g mg Q
def xrc : List (Nat × Nat) := [(12, 9), (12, 2), (9, 2), (9, 5), (13300, 0), (4, 6), (11604, 0), (11500, 0)]
theorem xRc_m {S S1 : xT} {g g1 : xG} {a : Nat} {n : Int} {Y : Int → Int} {Q : Int → Int → Int} {L : List (Nat × Nat)} (h : xRc S g a n Y Q) (hm : xM L S g g1) (hle : xLe S S1) (hd : ∀ x ∈ xrc, x ∉ L) : xRc S1 g1 a n Y Q := by
  obtain ⟨rt, wy, ct, mg, h1, h2, h3, h4, h5, h6, h7, h8, h9, h10, h11, h12, h13⟩ := h
  refine ⟨rt, wy, ct, mg, hle _ _ h1, ?_, hle _ _ h3, ?_, hle _ _ h5, ?_, h7, h8, ?_, ?_, hle _ _ h11, ?_, xQm_m h13 hm hle (fun x q => hd x (by revert x q; decide))⟩
  · rw [hm _ _ _ _ h1 (hd _ (by decide))]; exact h2
  · rw [hm _ _ _ _ h3 (hd _ (by decide))]; exact h4
  · rw [hm _ _ _ _ h3 (hd _ (by decide))]; exact h6
  · rw [xv_m hm h5 (by decide) (hd _ (by decide))]; exact h9
  · rw [hm _ _ _ _ h1 (hd _ (by decide))]; exact h10
  · rw [hm _ _ _ _ h11 (hd _ (by decide))]; exact h12
def xQ0 (Q : Int → Int → Int) : Prop := ∀ x y : Int, 0 ≤ x → x < 10 → 0 ≤ y → y < 10 → Q x y = if x = y then 0 else 10
def xQr (f : Int → Int) (Q : Int → Int → Int) : Prop := ∀ x y : Int, 0 ≤ x → x < 10 → 0 ≤ y → y < 10 → f (10 * x + y) = Q x y
def xRm (S : xT) (g : xG) (a : Nat) (n : Int) (Y : Int → Int) (Q : Int → Int → Int) : Prop := ∃ (ty wr : Nat) (n8 z8 i8 : Int), S a = some (13, 0) ∧ g a 84 = .ref ty ∧ S ty = some (19000, 9) ∧ g a 87 = .int (iI n8) ∧ 0 ≤ n8 ∧ n8 ≤ 9 ∧ g a 88 = .int (iI z8) ∧ ((z8 = 0 ∧ n = 0) ∨ (z8 = 1 ∧ n = n8)) ∧ xv g ty = Y ∧ g a 15 = .ref wr ∧ S wr = some (15200, 100) ∧ g a 18 = .int (iI i8) ∧ ((i8 = 0 ∧ xQ0 Q) ∨ (i8 = 1 ∧ xQr (xv g wr) Q))
def xrm : List (Nat × Nat) := [(13, 84), (13, 87), (13, 88), (13, 15), (13, 18), (19000, 0), (15200, 0)]
theorem xRm_m {S S1 : xT} {g g1 : xG} {a : Nat} {n : Int} {Y : Int → Int} {Q : Int → Int → Int} {L : List (Nat × Nat)} (h : xRm S g a n Y Q) (hm : xM L S g g1) (hle : xLe S S1) (hd : ∀ x ∈ xrm, x ∉ L) : xRm S1 g1 a n Y Q := by
  obtain ⟨ty, wr, n8, z8, i8, h1, h2, h3, h4, h5, h6, h7, h8, h9, h10, h11, h12, h13⟩ := h
  have e := xv_m hm h11 (by decide) (hd _ (by decide))
  refine ⟨ty, wr, n8, z8, i8, hle _ _ h1, ?_, hle _ _ h3, ?_, h5, h6, ?_, h8, ?_, ?_, hle _ _ h11, ?_, by rw [e]; exact h13⟩
  · rw [hm _ _ _ _ h1 (hd _ (by decide))]; exact h2
  · rw [hm _ _ _ _ h1 (hd _ (by decide))]; exact h4
  · rw [hm _ _ _ _ h1 (hd _ (by decide))]; exact h7
  · rw [xv_m hm h3 (by decide) (hd _ (by decide))]; exact h9
  · rw [hm _ _ _ _ h1 (hd _ (by decide))]; exact h10
  · rw [hm _ _ _ _ h1 (hd _ (by decide))]; exact h12
theorem xQs.u {Q : Int → Int → Int} {a b n : Int} (h : xQs Q) (hn : 0 ≤ n ∧ n ≤ 200) : xQs (xQud Q a b n) := fun x y q1 q2 q3 q4 => by
  have w := h x y q1 q2 q3 q4
  have w' := h y x q3 q4 q1 q2
  unfold xQud
  by_cases c : (x = a ∧ y = b) ∨ (x = b ∧ y = a)
  · rw [if_pos c, if_pos (by omega)]; exact ⟨rfl, hn.1, hn.2⟩
  · rw [if_neg c, if_neg (by omega)]; exact w
theorem xQm.up2 {S : xT} {g g1 g2 : xG} {mg wa wb : Nat} {Q : Int → Int → Int} {a b n : Int} (h : xQm S g mg Q) (ha : 0 ≤ a ∧ a < 10) (hb : 0 ≤ b ∧ b < 10) (hn : 0 ≤ n ∧ n ≤ 200) (e : g mg a.toNat = .ref wa) (hfr : xFr 11500 S g g1 wa) (hu : xUp (xv g1 wa) (xv g wa) b n) (hg : ∀ k, g1 mg k = g mg k) (e' : g1 mg b.toNat = .ref wb) (hfr' : xFr 11500 S g1 g2 wb) (hu' : xUp (xv g2 wb) (xv g1 wb) a n) (hg' : ∀ k, g2 mg k = g1 mg k) : xQm S g2 mg (xQud Q a b n) := by
  have h1 := xQ1.up h.1 ha hb e hfr hu hg
  have h2 := xQ1.up h1 hb ha e' hfr' hu' hg'
  refine ⟨h2.cg (fun x y q1 q2 q3 q4 => ?_), h.2.u hn⟩
  unfold xQud
  by_cases c : x = b ∧ y = a
  · rw [if_pos c, if_pos (Or.inr c)]
  · rw [if_neg c]
    by_cases d : x = a ∧ y = b
    · rw [if_pos d, if_pos (Or.inl d)]
    · rw [if_neg d, if_neg (by omega)]
theorem xCo9.cg {F : Int → Int} {W : Int → Int → Int} {y y' : Int → Int} {k i z : Int} (h : xCo9 F W y' k i z) (hk : 0 ≤ k) (e : ∀ x, 0 ≤ x → x < k → y' x = y x) : xCo9 F W y k i z := by
  unfold xCo9 at h ⊢
  by_cases q : k = 0
  · rw [if_pos q] at h ⊢; exact h
  · rw [if_neg q] at h ⊢
    rw [h, e (k - 1) (by omega) (by omega), xar_cg (v := y') (v' := y) (fun x q1 q2 => e x q1 (by omega))]
theorem xCo9.in {F : Int → Int} {W : Int → Int → Int} {y : Int → Int} {k i z z' : Int} (h : xCo9 F W y k i z) (h' : xCo9 F W y k i z') : z = z' := h.trans h'.symm
def xTW (S : xT) (g : xG) (a m : Nat) : Prop := ∃ (n : Int) (Y Y' : Int → Int) (Q : Int → Int → Int), xRc S g a n Y Q ∧ xRm S g m n Y' Q ∧ ∀ k, 0 ≤ k → k < n → Y k = Y' k
theorem xTW_m {S S1 : xT} {g g1 : xG} {a m : Nat} {L : List (Nat × Nat)} (h : xTW S g a m) (hm : xM L S g g1) (hle : xLe S S1) (hd : ∀ x ∈ xrc ++ xrm, x ∉ L) : xTW S1 g1 a m := by
  obtain ⟨n, Y, Y', Q, h1, h2, h3⟩ := h
  exact ⟨n, Y, Y', Q, xRc_m h1 hm hle (fun x q => hd x (List.mem_append.mpr (Or.inl q))), xRm_m h2 hm hle (fun x q => hd x (List.mem_append.mpr (Or.inr q))), h3⟩
theorem xRc.r {S : xT} {g : xG} {a : Nat} {n : Int} {Y : Int → Int} {Q : Int → Int → Int} (h : xRc S g a n Y Q) : 0 ≤ n ∧ n ≤ 9 := by
  obtain ⟨rt, wy, ct, mg, h1, h2, h3, h4, h5, h6, h7, h8, h9⟩ := h
  exact ⟨h7, h8⟩
theorem xat9 {n k r r' : Int} {C C' : Int → Int} (ha : ∀ k, 0 ≤ k → k < n → C k = C' k) (h : r = if 0 ≤ k ∧ k < n then C k else -1) (h' : r' = if 0 ≤ k ∧ k < n then C' k else -1) : r = r' := by
  rw [h, h']
  by_cases q : 0 ≤ k ∧ k < n
  · rw [if_pos q, if_pos q]; exact ha k q.1 q.2
  · rw [if_neg q, if_neg q]
set_option maxHeartbeats 4000000 in
set_option maxRecDepth 100000 in
theorem c3_minutes (l : Launch) (D : va_G) (kA : Nat → ClassId) (b0 : Nat) (t0 : Nat → Nat) (S : xT) (g : xG) (a0 : Nat) (x1 : Int) (x2 : Int) (x3 : Int) (n8 : Int) (Y8 : Int → Int) (Q8 : Int → Int → Int) (hs_a0 : S a0 = some (12, 0)) (hx1 : (-2147483648) ≤ x1 ∧ x1 ≤ 2147483647) (hx2 : (-2147483648) ≤ x2 ∧ x2 ≤ 2147483647) (hx3 : (-2147483648) ≤ x3 ∧ x3 ≤ 2147483647) (hp0 : xRc S g a0 n8 Y8 Q8) : xMt l yX11_minutes cX11_minutes 4 (some .boolean) 2 0 0 42 D kA b0 t0 [(11500, 0)] [.ref a0, .int (iI x1), .int (iI x2), .int (iI x3)] S g (fun (r : Option Value) (S1 : xT) (g1 : xG) => S = S1 ∧ ∃ z : Int, r = some (.int (iI z)) ∧ 0 ≤ z ∧ z ≤ 1 ∧ ((z = 1 ↔ 0 ≤ x1 ∧ x1 ≤ 9 ∧ 0 ≤ x2 ∧ x2 ≤ 9 ∧ x1 ≠ x2 ∧ 1 ≤ x3 ∧ x3 ≤ 200)) ∧ (xRc S g1 a0 n8 Y8 (if z = 1 then xQud Q8 x1 x2 x3 else Q8))) := by
  refine xEnterZ (by decide) (by simp [lg_sl, Value.category]) [(0, .ref a0), (1, .int (iI x1)), (2, .int (iI x2)), (3, .int (iI x3))] rfl ?_
  intro K E hK hret _ _ _
  refine X_iloadn hK (i := 1) 1 dX11_minutes_0 rfl rfl ?_
  obtain ⟨rt8, wy8, ct8, mg8, hrc1, hrc2, hs_rt8, hrc4, hs_wy8, hrc6, hrc7, hrc8, hY8, hrc10, hs_ct8, hrc12, hQ8⟩ := hp0
  refine X_callS hK [.int (iI x1)] [] lk_X11_142 (c_X11_isCorner _ _ _ _ _ S g x1 (by omega)) dX11_minutes_1 rfl rfl (by simp [Value.category]) (by decide) (by decide) (by decide) (by decide) (fun r1 S3 g2 pr1 qr1 hg2 => ?_)
  obtain ⟨rfl, rfl, z4, rfl, lz4, uz4, k5⟩ := pr1
  refine X_st [.int (iI z4)] rfl ?_
  refine X_if_eq hK 30 (by omega) dX11_minutes_4 (by decide) (fun c6 => ?_) (fun c6 => ?_)
  · refine X_iconst hK dX11_minutes_30 ?_
    exact hret _ _ _ _ _ _ _ dX11_minutes_31 (by omega) (by omega) ⟨rfl, 0, rfl, (by omega), (by omega), (by omega), (by rw [if_neg (by omega)]; exact ⟨rt8, wy8, ct8, mg8, hs_a0, hrc2, hs_rt8, hrc4, hs_wy8, hrc6, by omega, by omega, hY8, hrc10, hs_ct8, hrc12, hQ8⟩)⟩ (Nat.le_refl _) (Nat.le_refl _)
  · refine X_iloadn hK (i := 2) 2 dX11_minutes_7 rfl rfl ?_
    refine X_callS hK [.int (iI x2)] [] lk_X11_142 (c_X11_isCorner _ _ _ _ _ S g x2 (by omega)) dX11_minutes_8 rfl rfl (by simp [Value.category]) (by decide) (by decide) (by decide) (by decide) (fun r7 S9 g8 pr7 qr7 hg8 => ?_)
    obtain ⟨rfl, rfl, z10, rfl, lz10, uz10, k11⟩ := pr7
    refine X_st [.int (iI z10)] rfl ?_
    refine X_if_eq hK 30 (by omega) dX11_minutes_11 (by decide) (fun c12 => ?_) (fun c12 => ?_)
    · refine X_iconst hK dX11_minutes_30 ?_
      exact hret _ _ _ _ _ _ _ dX11_minutes_31 (by omega) (by omega) ⟨rfl, 0, rfl, (by omega), (by omega), (by omega), (by rw [if_neg (by omega)]; exact ⟨rt8, wy8, ct8, mg8, hs_a0, hrc2, hs_rt8, hrc4, hs_wy8, hrc6, by omega, by omega, hY8, hrc10, hs_ct8, hrc12, hQ8⟩)⟩ (Nat.le_refl _) (Nat.le_refl _)
    · refine X_iloadn hK (i := 1) 1 dX11_minutes_14 rfl rfl ?_
      refine X_iloadn hK (i := 2) 2 dX11_minutes_15 rfl rfl ?_
      refine X_icmp_eq hK 30 (by omega) (by omega) dX11_minutes_16 (by decide) (fun c13 => ?_) (fun c13 => ?_)
      · refine X_iconst hK dX11_minutes_30 ?_
        exact hret _ _ _ _ _ _ _ dX11_minutes_31 (by omega) (by omega) ⟨rfl, 0, rfl, (by omega), (by omega), (by omega), (by rw [if_neg (by omega)]; exact ⟨rt8, wy8, ct8, mg8, hs_a0, hrc2, hs_rt8, hrc4, hs_wy8, hrc6, by omega, by omega, hY8, hrc10, hs_ct8, hrc12, hQ8⟩)⟩ (Nat.le_refl _) (Nat.le_refl _)
      · refine X_iloadn hK (i := 3) 3 dX11_minutes_19 rfl rfl ?_
        refine X_iconst hK dX11_minutes_20 ?_
        refine X_sipush hK dX11_minutes_21 (by decide) ?_
        refine X_callS hK [.int (iI x3), .int (iI 1), .int (iI 200)] [] lk_X11_115 (c_X11_within _ _ _ _ _ S g x3 1 200 (by omega) (by omega) (by omega)) dX11_minutes_24 rfl rfl (by simp [Value.category]) (by decide) (by decide) (by decide) (by decide) (fun r14 S16 g15 pr14 qr14 hg15 => ?_)
        obtain ⟨rfl, rfl, z17, rfl, lz17, uz17, k18⟩ := pr14
        refine X_st [.int (iI z17)] rfl ?_
        refine X_if_ne hK 32 (by omega) dX11_minutes_27 (by decide) (fun c19 => ?_) (fun c19 => ?_)
        · refine X_aloadn hK (i := 0) 0 dX11_minutes_32 rfl rfl ?_
          refine X_getK hK fl_X11_27_12 hs_a0 hrc10 dX11_minutes_33 ?_
          refine X_getK hK fl_X11_190_4 hs_ct8 hrc12 dX11_minutes_36 ?_
          refine X_iloadn hK (i := 1) 1 dX11_minutes_39 rfl rfl ?_
          refine X_aald hK 11500 10 hQ8.1.1 (by decide) sl_11604 (by omega) (by omega) dX11_minutes_40 (fun b20 eb20 hs_b20 => ?_)
          refine X_iloadn hK (i := 2) 2 dX11_minutes_41 rfl rfl ?_
          refine X_iloadn hK (i := 3) 3 dX11_minutes_42 rfl rfl ?_
          refine X_iast hK hs_b20 (by decide) (by decide) sl_11500 (by omega) (by omega) (by omega) (by omega) dX11_minutes_43 (fun g21 hg21 => ?_)
          refine X_aloadn hK (i := 0) 0 dX11_minutes_44 rfl rfl ?_
          refine X_getK hK fl_X11_27_12 hs_a0 ((xs_a hg21 (xne hs_a0 hs_b20 (by decide))).trans hrc10) dX11_minutes_45 ?_
          refine X_getK hK fl_X11_190_4 hs_ct8 ((xs_a hg21 (xne hs_ct8 hs_b20 (by decide))).trans hrc12) dX11_minutes_48 ?_
          refine X_iloadn hK (i := 2) 2 dX11_minutes_51 rfl rfl ?_
          refine X_aald hK 11500 10 hQ8.1.1 (by decide) sl_11604 (by omega) (by omega) dX11_minutes_52 (fun b22 eb22 hs_b22 => ?_)
          refine X_iloadn hK (i := 1) 1 dX11_minutes_53 rfl rfl ?_
          refine X_iloadn hK (i := 3) 3 dX11_minutes_54 rfl rfl ?_
          refine X_iast hK hs_b22 (by decide) (by decide) sl_11500 (by omega) (by omega) (by omega) (by omega) dX11_minutes_55 (fun g23 hg23 => ?_)
          refine X_iconst hK dX11_minutes_56 ?_
          exact hret _ _ _ _ _ _ _ dX11_minutes_57 (by omega) (by omega) ⟨rfl, 1, rfl, (by omega), (by omega), (by omega), (by rw [if_pos rfl]; exact ⟨rt8, wy8, ct8, mg8, hs_a0, ((xs_a hg23 (xne hs_a0 hs_b22 (by decide))).trans ((xs_a hg21 (xne hs_a0 hs_b20 (by decide))).trans hrc2)), hs_rt8, ((xs_a hg23 (xne hs_rt8 hs_b22 (by decide))).trans ((xs_a hg21 (xne hs_rt8 hs_b20 (by decide))).trans hrc4)), hs_wy8, ((xs_a hg23 (xne hs_rt8 hs_b22 (by decide))).trans ((xs_a hg21 (xne hs_rt8 hs_b20 (by decide))).trans hrc6)), by omega, by omega, ((Eq.trans (xv_a hg23 (xne hs_wy8 hs_b22 (by decide))) (xv_a hg21 (xne hs_wy8 hs_b20 (by decide)))).trans hY8), ((xs_a hg23 (xne hs_a0 hs_b22 (by decide))).trans ((xs_a hg21 (xne hs_a0 hs_b20 (by decide))).trans hrc10)), hs_ct8, ((xs_a hg23 (xne hs_ct8 hs_b22 (by decide))).trans ((xs_a hg21 (xne hs_ct8 hs_b20 (by decide))).trans hrc12)), (xQm.up2 hQ8 (by omega) (by omega) (by omega) eb20 (xFr.w xFr.rf hg21) (xUp.of hg21 (by omega) (by omega)) (fun k9 => xs_a hg21 (xne hQ8.1.1 hs_b20 (by decide))) eb22 (xFr.w xFr.rf hg23) (xUp.of hg23 (by omega) (by omega)) (fun k9 => xs_a hg23 (xne hQ8.1.1 hs_b22 (by decide))))⟩)⟩ (Nat.le_refl _) (Nat.le_refl _)
        · refine X_iconst hK dX11_minutes_30 ?_
          exact hret _ _ _ _ _ _ _ dX11_minutes_31 (by omega) (by omega) ⟨rfl, 0, rfl, (by omega), (by omega), (by omega), (by rw [if_neg (by omega)]; exact ⟨rt8, wy8, ct8, mg8, hs_a0, hrc2, hs_rt8, hrc4, hs_wy8, hrc6, by omega, by omega, hY8, hrc10, hs_ct8, hrc12, hQ8⟩)⟩ (Nat.le_refl _) (Nat.le_refl _)

set_option maxHeartbeats 4000000 in
set_option maxRecDepth 100000 in
theorem c3_truck (l : Launch) (D : va_G) (kA : Nat → ClassId) (b0 : Nat) (t0 : Nat → Nat) (S : xT) (g : xG) (a0 : Nat) (w0 : Nat) (n0 : Int) (y0 : Nat) (n8 : Int) (Y8 : Int → Int) (Q8 : Int → Int → Int) (hs_a0 : S a0 = some (12, 0)) (ew0 : g a0 0 = .ref w0) (hs_w0 : S w0 = some (10, 0)) (hn0 : 0 ≤ n0 ∧ n0 ≤ 420) (en0 : g w0 1 = .int (iI n0)) (ey0 : g w0 0 = .ref y0) (hs_y0 : S y0 = some (13500, 420)) (hp0 : xSi S t0) (hp1 : xRc S g a0 n8 Y8 Q8) : xMu l yX11_truck cX11_truck 2 (some .int) 4 1 4608 86 D kA b0 t0 [(10, 1), (9, 4), (13100, 0), (13200, 0), (9, 3), (13400, 0), (9, 5), (13300, 0)] [.ref a0] S g (fun (r : Option Value) (S1 : xT) (g1 : xG) (dc ds : Nat) => xNw2 S S1 [13400] ∧ ∃ z : Int, r = some (.int (iI z)) ∧ (-2147483648) ≤ z ∧ z ≤ 999999 ∧ (xSi S1 t0) ∧ (dc ≤ 1 ∧ ds ≤ 4608) ∧ (g1 w0 1 = .int (iI (0))) ∧ (∃ (n1 : Int) (Y1 : Int → Int), xRc S1 g1 a0 n1 Y1 Q8 ∧ xTK (xv g y0) Q8 n0 z n8 n1 Y8 Y1)) := by
  refine xEnterUI (by decide) (by simp [lg_sl, Value.category]) [(0, .ref a0)] rfl ?_
  intro K E hK hret hS0 _ hini ht
  subst ht
  refine X_aloadn hK (i := 0) 0 dX11_truck_0 rfl rfl ?_
  obtain ⟨rt8, wy8, ct8, mg8, hrc1, hrc2, hs_rt8, hrc4, hs_wy8, hrc6, hrc7, hrc8, hY8, hrc10, hs_ct8, hrc12, hQ8⟩ := hp1
  refine X_getK hK fl_X11_10_12 hs_a0 ew0 dX11_truck_1 ?_
  refine X_getK hK fl_X11_102_10 hs_w0 en0 dX11_truck_4 ?_
  refine X_bipush hK dX11_truck_7 (by decide) ?_
  refine X_icmp_ne hK 30 (by omega) (by omega) dX11_truck_9 (by decide) (fun c1 => ?_) (fun c1 => ?_)
  · refine X_iconst hK dX11_truck_30 ?_
    refine X_istoren hK (i := 1) [(1, .int (iI (-1))), (0, .ref a0)] dX11_truck_31 rfl (by decide) rfl ?_
    refine X_aloadn hK (i := 0) 1 dX11_truck_32 rfl rfl ?_
    refine X_getK hK fl_X11_10_12 hs_a0 ew0 dX11_truck_33 ?_
    refine X_iconst hK dX11_truck_36 ?_
    refine X_puti hK fl_X11_102_10 hs_w0 (by decide) sl_10_1 (by omega) (by omega) dX11_truck_37 (fun g2 hg2 => ?_)
    refine X_iloadn hK (i := 1) 0 dX11_truck_40 rfl rfl ?_
    exact hret _ _ _ _ _ _ _ dX11_truck_41 ⟨xNw2.rf, (-1), rfl, (by omega), (by omega), hp0, (by omega), ((xs_s hg2).trans (by congr 2 <;> omega)), ⟨n8, xv g2 wy8, ⟨rt8, wy8, ct8, mg8, hs_a0, ((xs_k hg2 (by decide)).trans hrc2), hs_rt8, ((xs_k hg2 (by decide)).trans hrc4), hs_wy8, ((xs_k hg2 (by decide)).trans hrc6), by omega, by omega, rfl, ((xs_k hg2 (by decide)).trans hrc10), hs_ct8, ((xs_k hg2 (by decide)).trans hrc12), (xQm_u hQ8 hg2 hs_w0 (by decide))⟩, (Or.inl ⟨by omega, by omega, rfl, fun i9 _ _ => congrFun ((xv_a hg2 (xne hs_wy8 hs_w0 (by decide))).trans hY8) i9⟩)⟩⟩ (by omega) (by omega)
  · refine X_aloadn hK (i := 0) 0 dX11_truck_12 rfl rfl ?_
    refine X_getK hK fl_X11_69_12 hs_a0 hrc2 dX11_truck_13 ?_
    refine X_aloadn hK (i := 0) 0 dX11_truck_16 rfl rfl ?_
    refine X_getK hK fl_X11_27_12 hs_a0 hrc10 dX11_truck_17 ?_
    refine X_aloadn hK (i := 0) 0 dX11_truck_20 rfl rfl ?_
    refine X_getK hK fl_X11_10_12 hs_a0 ew0 dX11_truck_21 ?_
    refine X_knowr 13100 9 hs_rt8 (by decide) sl_9_0 (fun b3 eb3 hs_b3 => ?_)
    refine X_knowr 13200 9 hs_rt8 (by decide) sl_9_1 (fun b4 eb4 hs_b4 => ?_)
    refine X_callVU hK [.ref ct8, .ref w0] [] lk_X11_339 (c3_drive _ _ _ _ _ S g rt8 ct8 w0 b3 b4 wy8 n8 mg8 n0 y0 Q8 hs_rt8 hs_ct8 hs_w0 eb3 hs_b3 eb4 hs_b4 hrc4 hs_wy8 (by omega) hrc6 hrc12 hQ8.1.1 (by omega) en0 ey0 hs_y0 (hp0).2 hQ8 (by omega)) hs_rt8 ⟨by decide, rfl⟩ dX11_truck_24 rfl rfl (by simp [Value.category]) (by decide) (by omega) (by omega) (by decide) (fun r5 S7 g6 dcr5 dsr5 pr5 qr5 hg6 => ?_)
    obtain ⟨wr5, z8, rfl, lz8, uz8, k9, k10, k11⟩ := pr5
    refine X_st [.int (iI z8)] rfl ?_
    obtain ⟨z12, ez12, lz12, uz12, kz12⟩ := k11
    refine X_goto hK 31 dX11_truck_27 (by decide) ?_
    refine X_istoren hK (i := 1) [(1, .int (iI z8)), (0, .ref a0)] dX11_truck_31 rfl (by decide) rfl ?_
    refine X_aloadn hK (i := 0) 1 dX11_truck_32 rfl rfl ?_
    refine X_getK hK fl_X11_10_12 (qr5 _ _ hs_a0) ((hg6 a0 12 0 0 hs_a0 (by decide)).trans ew0) dX11_truck_33 ?_
    refine X_iconst hK dX11_truck_36 ?_
    refine X_puti hK fl_X11_102_10 (qr5 _ _ hs_w0) (by decide) sl_10_1 (by omega) (by omega) dX11_truck_37 (fun g13 hg13 => ?_)
    refine X_iloadn hK (i := 1) 0 dX11_truck_40 rfl rfl ?_
    exact hret _ _ _ _ _ _ _ dX11_truck_41 ⟨(xNw2.tr xNw2.rf wr5 (by decide)), z8, rfl, (by omega), (by omega), ⟨fun c m hc => (wr5 c _ m hc).elim (hp0.1 c m) (fun q => absurd q (by decide)), k10⟩, (by omega), ((xs_s hg13).trans (by congr 2 <;> omega)), ⟨z12, xv g13 wy8, ⟨rt8, wy8, ct8, mg8, (qr5 _ _ hs_a0), ((xs_k hg13 (by decide)).trans ((hg6 a0 12 0 9 hs_a0 (by decide)).trans hrc2)), (qr5 _ _ hs_rt8), ((xs_k hg13 (by decide)).trans ((hg6 rt8 9 0 2 hs_rt8 (by decide)).trans hrc4)), (qr5 _ _ hs_wy8), ((xs_k hg13 (by decide)).trans ez12), by omega, by omega, rfl, ((xs_k hg13 (by decide)).trans ((hg6 a0 12 0 2 hs_a0 (by decide)).trans hrc10)), (qr5 _ _ hs_ct8), ((xs_k hg13 (by decide)).trans ((hg6 ct8 4 0 6 hs_ct8 (by decide)).trans hrc12)), (xQm_u (xQm_m hQ8 hg6 qr5 (by decide)) hg13 (qr5 _ _ hs_w0) (by decide))⟩, (Or.inr ⟨by omega, (by rw [← hY8, (xv_a hg13 (xne (qr5 _ _ hs_wy8) (qr5 _ _ hs_w0) (by decide)))]; exact kz12)⟩)⟩⟩ (by omega) (by omega)

set_option maxHeartbeats 4000000 in
set_option maxRecDepth 100000 in
theorem c3_truckAt (l : Launch) (D : va_G) (kA : Nat → ClassId) (b0 : Nat) (t0 : Nat → Nat) (S : xT) (g : xG) (a0 : Nat) (x1 : Int) (n8 : Int) (Y8 : Int → Int) (Q8 : Int → Int → Int) (hs_a0 : S a0 = some (12, 0)) (hx1 : (-2147483648) ≤ x1 ∧ x1 ≤ 2147483647) (hp0 : xRc S g a0 n8 Y8 Q8) : xMt l yX11_truckAt cX11_truckAt 2 (some .int) 1 0 0 22 D kA b0 t0 [] [.ref a0, .int (iI x1)] S g (fun (r : Option Value) (S1 : xT) (g1 : xG) => S = S1 ∧ g = g1 ∧ ∃ z : Int, r = some (.int (iI z)) ∧ (-1) ≤ z ∧ z ≤ 9 ∧ (z = if 0 ≤ x1 ∧ x1 < n8 then Y8 x1 else -1)) := by
  refine xEnterI (by decide) (by simp [lg_sl, Value.category]) [(0, .ref a0), (1, .int (iI x1))] rfl ?_
  intro K E hK hret _ _ _
  refine X_iloadn hK (i := 1) 1 dX11_truckAt_0 rfl rfl ?_
  obtain ⟨rt8, wy8, ct8, mg8, hrc1, hrc2, hs_rt8, hrc4, hs_wy8, hrc6, hrc7, hrc8, hY8, hrc10, hs_ct8, hrc12, hQ8⟩ := hp0
  refine X_iconst hK dX11_truckAt_1 ?_
  refine X_aloadn hK (i := 0) 0 dX11_truckAt_2 rfl rfl ?_
  refine X_getK hK fl_X11_69_12 hs_a0 hrc2 dX11_truckAt_3 ?_
  refine X_getK hK fl_X11_343_9 hs_rt8 hrc6 dX11_truckAt_6 ?_
  refine X_iconst hK dX11_truckAt_9 ?_
  refine X_isub hK dX11_truckAt_10 ?_
  refine X_callS hK [.int (iI x1), .int (iI 0), .int (iI (n8 - 1))] [] lk_X11_115 (c_X11_within _ _ _ _ _ S g x1 0 (n8 - 1) (by omega) (by omega) (by omega)) dX11_truckAt_11 rfl rfl (by simp [Value.category]) (by decide) (by decide) (by decide) (by decide) (fun r1 S3 g2 pr1 qr1 hg2 => ?_)
  obtain ⟨rfl, rfl, z4, rfl, lz4, uz4, k5⟩ := pr1
  refine X_st [.int (iI z4)] rfl ?_
  refine X_if_eq hK 29 (by omega) dX11_truckAt_14 (by decide) (fun c6 => ?_) (fun c6 => ?_)
  · refine X_iconst hK dX11_truckAt_29 ?_
    exact hret _ _ _ _ _ _ _ dX11_truckAt_30 ⟨rfl, rfl, (-1), rfl, (by omega), (by omega), (by rw [if_neg (by omega)])⟩ (Nat.le_refl _) (Nat.le_refl _)
  · refine X_aloadn hK (i := 0) 0 dX11_truckAt_17 rfl rfl ?_
    refine X_getK hK fl_X11_69_12 hs_a0 hrc2 dX11_truckAt_18 ?_
    refine X_getK hK fl_X11_346_9 hs_rt8 hrc4 dX11_truckAt_21 ?_
    refine X_iloadn hK (i := 1) 1 dX11_truckAt_24 rfl rfl ?_
    refine X_iald hK hs_wy8 (by decide) sl_13300 (by omega) (by omega) dX11_truckAt_25 (fun z7 ez7 lz7 uz7 => ?_)
    have hr8 : Y8 x1 = z7 := by rw [← hY8]; exact xv_e (j := x1) ez7 (by omega)
    refine X_goto hK 30 dX11_truckAt_26 (by decide) ?_
    exact hret _ _ _ _ _ _ _ dX11_truckAt_30 ⟨rfl, rfl, z7, rfl, (by omega), (by omega), (by rw [if_pos (by omega), hr8])⟩ (Nat.le_refl _) (Nat.le_refl _)

set_option maxHeartbeats 4000000 in
set_option maxRecDepth 100000 in
theorem c3_layWays (l : Launch) (D : va_G) (kA : Nat → ClassId) (b0 : Nat) (t0 : Nat → Nat) (S : xT) (g : xG) (a0 : Nat) (wr : Nat) (i8 : Int) (Q8 : Int → Int → Int) (hs_a0 : S a0 = some (13, 0)) (ewr : g a0 15 = .ref wr) (hs_wr : S wr = some (15200, 100)) (hi8 : 0 ≤ i8 ∧ i8 ≤ 1) (ei8 : g a0 18 = .int (iI i8)) (hp0 : (i8 = 0 ∧ xQ0 Q8) ∨ (i8 = 1 ∧ xQr (xv g wr) Q8)) : xMt l yX12_layWays cX12_layWays 2 none 0 0 0 0 D kA b0 t0 [(13, 18), (15200, 0)] [.ref a0] S g (fun (r : Option Value) (S1 : xT) (g1 : xG) => S = S1 ∧ r = none ∧ (g1 a0 18 = .int (iI (1))) ∧ (xQr (xv g1 wr) Q8)) := by
  refine xEnterV (by decide) (by simp [lg_sl, Value.category]) [(0, .ref a0)] rfl ?_
  intro K E hK hret _ _ _
  refine X_aloadn hK (i := 0) 0 dX12_layWays_0 rfl rfl ?_
  refine X_getK hK fl_X12_246_13 hs_a0 ei8 dX12_layWays_1 ?_
  refine X_if_eq hK 8 (by omega) dX12_layWays_4 (by decide) (fun c1 => ?_) (fun c1 => ?_)
  · refine X_aloadn hK (i := 0) 0 dX12_layWays_8 rfl rfl ?_
    refine X_iconst hK dX12_layWays_9 ?_
    refine X_putz hK fl_X12_246_13 hs_a0 (by decide) sl_13_18 (by omega) (by omega) dX12_layWays_10 (fun g2 hg2 => ?_)
    refine X_iconst hK dX12_layWays_13 ?_
    refine X_istoren hK (i := 1) [(1, .int (iI 0)), (0, .ref a0)] dX12_layWays_14 rfl (by decide) rfl ?_
    have P43 : ∀ (nP43 : Nat) (g37 : xG) (_ : xM [(15200, 0)] S g2 g37) (z36 : Int) (_ : 0 ≤ z36) (_ : z36 ≤ 100) (_ : ∀ j9, 0 ≤ j9 → j9 < z36 → xv g37 wr j9 = if j9 % 11 = 0 then 0 else 10) (_ : 116 - z36 < (nP43 : Int)), X K E 15 [(1, .int (iI z36)), (0, .ref a0)] [] S g37 0 0 := by
      intro nP43
      induction nP43 with
      | zero => intro g37 hg37 z36 lz36 uz36 v44 mP43; exact False.elim (by omega)
      | succ nP43 ihP43 =>
        intro g37 hg37 z36 lz36 uz36 v44 mP43
        refine X_iloadn hK (i := 1) 0 dX12_layWays_15 rfl rfl ?_
        refine X_bipush hK dX12_layWays_16 (by decide) ?_
        refine X_icmp_ge hK 46 (by omega) (by omega) dX12_layWays_18 (by decide) (fun c45 => ?_) (fun c45 => ?_)
        · exact hret _ _ _ _ _ _ dX12_layWays_46 ⟨rfl, rfl, (((hg37 a0 13 0 18 hs_a0 (by decide)).trans (xs_s hg2)).trans (by congr 2 <;> omega)), (fun x9 y9 q1 q2 q3 q4 => by have h9 : xQ0 Q8 := (by rcases hp0 with q9 | q9; exact q9.2; omega); rw [v44 (10 * x9 + y9) (by omega) (by omega), h9 x9 y9 q1 q2 q3 q4]; by_cases c9 : x9 = y9; (rw [if_pos c9, if_pos (by omega)]); (rw [if_neg c9, if_neg (by omega)]))⟩ (Nat.le_refl _) (Nat.le_refl _)
        · refine X_aloadn hK (i := 0) 1 dX12_layWays_21 rfl rfl ?_
          refine X_getK hK fl_X12_47_13 hs_a0 ((hg37 a0 13 0 15 hs_a0 (by decide)).trans ((xs_k hg2 (by decide)).trans ewr)) dX12_layWays_22 ?_
          refine X_iloadn hK (i := 1) 0 dX12_layWays_25 rfl rfl ?_
          refine X_iloadn hK (i := 1) 0 dX12_layWays_26 rfl rfl ?_
          refine X_bipush hK dX12_layWays_27 (by decide) ?_
          refine X_irem hK (by omega) (by omega) dX12_layWays_29 (fun z46 wz46 ez46 fz46 hz46 => ?_)
          have bz46 : 0 ≤ z46 ∧ z46 ≤ 10 := by omega
          refine X_if_ne hK 37 (by omega) dX12_layWays_30 (by decide) (fun c47 => ?_) (fun c47 => ?_)
          · refine X_bipush hK dX12_layWays_37 (by decide) ?_
            refine X_iast hK hs_wr (by decide) (by decide) sl_15200 (by omega) (by omega) (by omega) (by omega) dX12_layWays_39 (fun g48 hg48 => ?_)
            refine X_iinc hK (i := 1) (z := z36) (n := 1) 0 [(1, .int (iI (z36 + 1))), (0, .ref a0)] dX12_layWays_40 rfl (by decide) rfl ?_
            refine X_goto hK 15 dX12_layWays_43 (by decide) ?_
            exact ihP43  g48 (xM_ua (xM.tr xM.rf xLe.rf hg37 (by decide)) hg48 hs_wr (by decide) (by decide)) (z36 + 1) (by omega) (by omega) (fun j9 q1 q2 => by by_cases e9 : j9 = z36; (rw [e9, (show xv g48 wr z36 = 10 from by rw [xv_s hg48 (by omega)])]; first | rw [if_pos (by omega)] | rw [if_neg (by omega)]); (rw [(show xv g48 wr j9 = xv g37 wr j9 from by rw [(xv_k (i := j9) hg48 (by omega) (by omega) (by omega))])]; exact v44 j9 q1 (by omega))) (by omega)
          · refine X_iconst hK dX12_layWays_33 ?_
            refine X_goto hK 39 dX12_layWays_34 (by decide) ?_
            refine X_iast hK hs_wr (by decide) (by decide) sl_15200 (by omega) (by omega) (by omega) (by omega) dX12_layWays_39 (fun g49 hg49 => ?_)
            refine X_iinc hK (i := 1) (z := z36) (n := 1) 0 [(1, .int (iI (z36 + 1))), (0, .ref a0)] dX12_layWays_40 rfl (by decide) rfl ?_
            refine X_goto hK 15 dX12_layWays_43 (by decide) ?_
            exact ihP43  g49 (xM_ua (xM.tr xM.rf xLe.rf hg37 (by decide)) hg49 hs_wr (by decide) (by decide)) (z36 + 1) (by omega) (by omega) (fun j9 q1 q2 => by by_cases e9 : j9 = z36; (rw [e9, (show xv g49 wr z36 = 0 from by rw [xv_s hg49 (by omega)])]; first | rw [if_pos (by omega)] | rw [if_neg (by omega)]); (rw [(show xv g49 wr j9 = xv g37 wr j9 from by rw [(xv_k (i := j9) hg49 (by omega) (by omega) (by omega))])]; exact v44 j9 q1 (by omega))) (by omega)
    exact P43 ((116 - 0 : Int).toNat + 1) g2 xM.rf 0 (by omega) (by omega) (fun j9 q1 q2 => by omega) (by omega)
  · exact hret _ _ _ _ _ _ dX12_layWays_7 ⟨rfl, rfl, (ei8.trans (by congr 2 <;> omega)), (by rcases hp0 with q9 | q9; omega; exact q9.2)⟩ (Nat.le_refl _) (Nat.le_refl _)

set_option maxHeartbeats 4000000 in
set_option maxRecDepth 100000 in
theorem c3_mminutes (l : Launch) (D : va_G) (kA : Nat → ClassId) (b0 : Nat) (t0 : Nat → Nat) (S : xT) (g : xG) (a0 : Nat) (x1 : Int) (x2 : Int) (x3 : Int) (n8 : Int) (Y8 : Int → Int) (Q8 : Int → Int → Int) (hs_a0 : S a0 = some (13, 0)) (hx1 : (-2147483648) ≤ x1 ∧ x1 ≤ 2147483647) (hx2 : (-2147483648) ≤ x2 ∧ x2 ≤ 2147483647) (hx3 : (-2147483648) ≤ x3 ∧ x3 ≤ 2147483647) (hp0 : xRm S g a0 n8 Y8 Q8) : xMt l yX12_minutes cX12_minutes 4 (some .boolean) 1 0 0 22 D kA b0 t0 [(13, 0), (13, 18), (15200, 0)] [.ref a0, .int (iI x1), .int (iI x2), .int (iI x3)] S g (fun (r : Option Value) (S1 : xT) (g1 : xG) => S = S1 ∧ ∃ z : Int, r = some (.int (iI z)) ∧ 0 ≤ z ∧ z ≤ 1 ∧ ((z = 1 ↔ 0 ≤ x1 ∧ x1 ≤ 9 ∧ 0 ≤ x2 ∧ x2 ≤ 9 ∧ x1 ≠ x2 ∧ 1 ≤ x3 ∧ x3 ≤ 200)) ∧ (xRm S g1 a0 n8 Y8 (if z = 1 then xQud Q8 x1 x2 x3 else Q8))) := by
  refine xEnterZ (by decide) (by simp [lg_sl, Value.category]) [(0, .ref a0), (1, .int (iI x1)), (2, .int (iI x2)), (3, .int (iI x3))] rfl ?_
  intro K E hK hret _ _ _
  refine X_aloadn hK (i := 0) 0 dX12_minutes_0 rfl rfl ?_
  obtain ⟨ty8, wr8, m8, z8, i8, hrm1, hrm2, hs_ty8, hrm4, hrm5, hrm6, hrm7, hrm8, hY8, hrm10, hs_wr8, hrm12, hrm13⟩ := hp0
  have hi8 : 0 ≤ i8 ∧ i8 ≤ 1 := by rcases hrm13 with q9 | q9 <;> omega
  have hz8 : 0 ≤ z8 ∧ z8 ≤ 1 := by omega
  refine X_iconst hK dX12_minutes_1 ?_
  refine X_puti hK fl_X12_198_13 hs_a0 (by decide) sl_13_0 (by omega) (by omega) dX12_minutes_2 (fun g1 hg1 => ?_)
  refine X_iloadn hK (i := 1) 1 dX12_minutes_5 rfl rfl ?_
  refine X_callS hK [.int (iI x1)] [] lk_X12_219 (c_X12_isCorner _ _ _ _ _ S g1 x1 (by omega)) dX12_minutes_6 rfl rfl (by simp [Value.category]) (by decide) (by decide) (by decide) (by decide) (fun r2 S4 g3 pr2 qr2 hg3 => ?_)
  obtain ⟨rfl, rfl, z5, rfl, lz5, uz5, k6⟩ := pr2
  refine X_st [.int (iI z5)] rfl ?_
  refine X_if_eq hK 35 (by omega) dX12_minutes_9 (by decide) (fun c7 => ?_) (fun c7 => ?_)
  · refine X_iconst hK dX12_minutes_35 ?_
    exact hret _ _ _ _ _ _ _ dX12_minutes_36 (by omega) (by omega) ⟨rfl, 0, rfl, (by omega), (by omega), (by omega), (by rw [if_neg (by omega)]; exact ⟨ty8, wr8, m8, z8, i8, hs_a0, ((xs_k hg1 (by decide)).trans hrm2), hs_ty8, ((xs_k hg1 (by decide)).trans hrm4), by omega, by omega, ((xs_k hg1 (by decide)).trans hrm7), hrm8, ((xv_a hg1 (xne hs_ty8 hs_a0 (by decide))).trans hY8), ((xs_k hg1 (by decide)).trans hrm10), hs_wr8, ((xs_k hg1 (by decide)).trans hrm12), (by rw [(xv_a hg1 (xne hs_wr8 hs_a0 (by decide)))]; exact hrm13)⟩)⟩ (Nat.le_refl _) (Nat.le_refl _)
  · refine X_iloadn hK (i := 2) 2 dX12_minutes_12 rfl rfl ?_
    refine X_callS hK [.int (iI x2)] [] lk_X12_219 (c_X12_isCorner _ _ _ _ _ S g1 x2 (by omega)) dX12_minutes_13 rfl rfl (by simp [Value.category]) (by decide) (by decide) (by decide) (by decide) (fun r8 S10 g9 pr8 qr8 hg9 => ?_)
    obtain ⟨rfl, rfl, z11, rfl, lz11, uz11, k12⟩ := pr8
    refine X_st [.int (iI z11)] rfl ?_
    refine X_if_eq hK 35 (by omega) dX12_minutes_16 (by decide) (fun c13 => ?_) (fun c13 => ?_)
    · refine X_iconst hK dX12_minutes_35 ?_
      exact hret _ _ _ _ _ _ _ dX12_minutes_36 (by omega) (by omega) ⟨rfl, 0, rfl, (by omega), (by omega), (by omega), (by rw [if_neg (by omega)]; exact ⟨ty8, wr8, m8, z8, i8, hs_a0, ((xs_k hg1 (by decide)).trans hrm2), hs_ty8, ((xs_k hg1 (by decide)).trans hrm4), by omega, by omega, ((xs_k hg1 (by decide)).trans hrm7), hrm8, ((xv_a hg1 (xne hs_ty8 hs_a0 (by decide))).trans hY8), ((xs_k hg1 (by decide)).trans hrm10), hs_wr8, ((xs_k hg1 (by decide)).trans hrm12), (by rw [(xv_a hg1 (xne hs_wr8 hs_a0 (by decide)))]; exact hrm13)⟩)⟩ (Nat.le_refl _) (Nat.le_refl _)
    · refine X_iloadn hK (i := 1) 1 dX12_minutes_19 rfl rfl ?_
      refine X_iloadn hK (i := 2) 2 dX12_minutes_20 rfl rfl ?_
      refine X_icmp_eq hK 35 (by omega) (by omega) dX12_minutes_21 (by decide) (fun c14 => ?_) (fun c14 => ?_)
      · refine X_iconst hK dX12_minutes_35 ?_
        exact hret _ _ _ _ _ _ _ dX12_minutes_36 (by omega) (by omega) ⟨rfl, 0, rfl, (by omega), (by omega), (by omega), (by rw [if_neg (by omega)]; exact ⟨ty8, wr8, m8, z8, i8, hs_a0, ((xs_k hg1 (by decide)).trans hrm2), hs_ty8, ((xs_k hg1 (by decide)).trans hrm4), by omega, by omega, ((xs_k hg1 (by decide)).trans hrm7), hrm8, ((xv_a hg1 (xne hs_ty8 hs_a0 (by decide))).trans hY8), ((xs_k hg1 (by decide)).trans hrm10), hs_wr8, ((xs_k hg1 (by decide)).trans hrm12), (by rw [(xv_a hg1 (xne hs_wr8 hs_a0 (by decide)))]; exact hrm13)⟩)⟩ (Nat.le_refl _) (Nat.le_refl _)
      · refine X_iloadn hK (i := 3) 3 dX12_minutes_24 rfl rfl ?_
        refine X_iconst hK dX12_minutes_25 ?_
        refine X_sipush hK dX12_minutes_26 (by decide) ?_
        refine X_callS hK [.int (iI x3), .int (iI 1), .int (iI 200)] [] lk_X12_211 (c_X12_isIn _ _ _ _ _ S g1 x3 1 200 (by omega) (by omega) (by omega)) dX12_minutes_29 rfl rfl (by simp [Value.category]) (by decide) (by decide) (by decide) (by decide) (fun r15 S17 g16 pr15 qr15 hg16 => ?_)
        obtain ⟨rfl, rfl, z18, rfl, lz18, uz18, k19⟩ := pr15
        refine X_st [.int (iI z18)] rfl ?_
        refine X_if_ne hK 37 (by omega) dX12_minutes_32 (by decide) (fun c20 => ?_) (fun c20 => ?_)
        · refine X_aloadn hK (i := 0) 0 dX12_minutes_37 rfl rfl ?_
          refine X_callV hK [] [] lk_X12_250 (c3_layWays _ _ _ _ _ S g1 a0 wr8 i8 Q8 hs_a0 ((xs_k hg1 (by decide)).trans hrm10) hs_wr8 (by omega) ((xs_k hg1 (by decide)).trans hrm12) (by rw [(xv_a hg1 (xne hs_wr8 hs_a0 (by decide)))]; exact hrm13)) hs_a0 ⟨by decide, rfl⟩ dX12_minutes_38 rfl rfl (by simp [Value.category]) (by decide) (by decide) (by decide) (by decide) (fun r21 S23 g22 pr21 qr21 hg22 => ?_)
          obtain ⟨rfl, rfl, k24, k25⟩ := pr21
          refine X_st [] rfl ?_
          refine X_aloadn hK (i := 0) 0 dX12_minutes_41 rfl rfl ?_
          refine X_getK hK fl_X12_47_13 hs_a0 ((hg22 a0 13 0 15 hs_a0 (by decide)).trans ((xs_k hg1 (by decide)).trans hrm10)) dX12_minutes_42 ?_
          refine X_bipush hK dX12_minutes_45 (by decide) ?_
          refine X_iloadn hK (i := 1) 1 dX12_minutes_47 rfl rfl ?_
          refine X_imul hK dX12_minutes_48 ?_
          refine X_iloadn hK (i := 2) 2 dX12_minutes_49 rfl rfl ?_
          refine X_iadd hK dX12_minutes_50 ?_
          refine X_iloadn hK (i := 3) 3 dX12_minutes_51 rfl rfl ?_
          refine X_iast hK hs_wr8 (by decide) (by decide) sl_15200 (by omega) (by omega) (by omega) (by omega) dX12_minutes_52 (fun g26 hg26 => ?_)
          refine X_aloadn hK (i := 0) 0 dX12_minutes_53 rfl rfl ?_
          refine X_getK hK fl_X12_47_13 hs_a0 ((xs_a hg26 (xne hs_a0 hs_wr8 (by decide))).trans ((hg22 a0 13 0 15 hs_a0 (by decide)).trans ((xs_k hg1 (by decide)).trans hrm10))) dX12_minutes_54 ?_
          refine X_bipush hK dX12_minutes_57 (by decide) ?_
          refine X_iloadn hK (i := 2) 2 dX12_minutes_59 rfl rfl ?_
          refine X_imul hK dX12_minutes_60 ?_
          refine X_iloadn hK (i := 1) 1 dX12_minutes_61 rfl rfl ?_
          refine X_iadd hK dX12_minutes_62 ?_
          refine X_iloadn hK (i := 3) 3 dX12_minutes_63 rfl rfl ?_
          refine X_iast hK hs_wr8 (by decide) (by decide) sl_15200 (by omega) (by omega) (by omega) (by omega) dX12_minutes_64 (fun g27 hg27 => ?_)
          refine X_iconst hK dX12_minutes_65 ?_
          exact hret _ _ _ _ _ _ _ dX12_minutes_66 (by omega) (by omega) ⟨rfl, 1, rfl, (by omega), (by omega), (by omega), (by rw [if_pos rfl]; exact ⟨ty8, wr8, m8, z8, 1, hs_a0, ((xs_a hg27 (xne hs_a0 hs_wr8 (by decide))).trans ((xs_a hg26 (xne hs_a0 hs_wr8 (by decide))).trans ((hg22 a0 13 0 84 hs_a0 (by decide)).trans ((xs_k hg1 (by decide)).trans hrm2)))), hs_ty8, ((xs_a hg27 (xne hs_a0 hs_wr8 (by decide))).trans ((xs_a hg26 (xne hs_a0 hs_wr8 (by decide))).trans ((hg22 a0 13 0 87 hs_a0 (by decide)).trans ((xs_k hg1 (by decide)).trans hrm4)))), by omega, by omega, ((xs_a hg27 (xne hs_a0 hs_wr8 (by decide))).trans ((xs_a hg26 (xne hs_a0 hs_wr8 (by decide))).trans ((hg22 a0 13 0 88 hs_a0 (by decide)).trans ((xs_k hg1 (by decide)).trans hrm7)))), hrm8, ((Eq.trans (Eq.trans (Eq.trans (xv_a hg27 (xne hs_ty8 hs_wr8 (by decide))) (xv_a hg26 (xne hs_ty8 hs_wr8 (by decide)))) (xv_m hg22 hs_ty8 (by decide) (by decide))) (xv_a hg1 (xne hs_ty8 hs_a0 (by decide)))).trans hY8), ((xs_a hg27 (xne hs_a0 hs_wr8 (by decide))).trans ((xs_a hg26 (xne hs_a0 hs_wr8 (by decide))).trans ((hg22 a0 13 0 15 hs_a0 (by decide)).trans ((xs_k hg1 (by decide)).trans hrm10)))), hs_wr8, ((xs_a hg27 (xne hs_a0 hs_wr8 (by decide))).trans ((xs_a hg26 (xne hs_a0 hs_wr8 (by decide))).trans k24)), (Or.inr ⟨rfl, fun x9 y9 q1 q2 q3 q4 => by show _ = if _ then _ else _; by_cases c9 : (x9 = x1 ∧ y9 = x2) ∨ (x9 = x2 ∧ y9 = x1); (rw [if_pos c9]; rcases c9 with c9 | c9; (rw [show 10 * x9 + y9 = ((10 * x1) + x2) by omega]; exact (show xv g27 wr8 ((10 * x1) + x2) = x3 from by rw [(xv_k (i := ((10 * x1) + x2)) hg27 (by omega) (by omega) (by omega)), xv_s hg26 (by omega)])); (rw [show 10 * x9 + y9 = ((10 * x2) + x1) by omega]; exact (show xv g27 wr8 ((10 * x2) + x1) = x3 from by rw [xv_s hg27 (by omega)]))); (rw [if_neg c9, (show xv g27 wr8 (10 * x9 + y9) = xv g22 wr8 (10 * x9 + y9) from by rw [(xv_k (i := (10 * x9 + y9)) hg27 (by omega) (by omega) (by omega)), (xv_k (i := (10 * x9 + y9)) hg26 (by omega) (by omega) (by omega))])]; exact k25 x9 y9 q1 q2 q3 q4)⟩)⟩)⟩ (Nat.le_refl _) (Nat.le_refl _)
        · refine X_iconst hK dX12_minutes_35 ?_
          exact hret _ _ _ _ _ _ _ dX12_minutes_36 (by omega) (by omega) ⟨rfl, 0, rfl, (by omega), (by omega), (by omega), (by rw [if_neg (by omega)]; exact ⟨ty8, wr8, m8, z8, i8, hs_a0, ((xs_k hg1 (by decide)).trans hrm2), hs_ty8, ((xs_k hg1 (by decide)).trans hrm4), by omega, by omega, ((xs_k hg1 (by decide)).trans hrm7), hrm8, ((xv_a hg1 (xne hs_ty8 hs_a0 (by decide))).trans hY8), ((xs_k hg1 (by decide)).trans hrm10), hs_wr8, ((xs_k hg1 (by decide)).trans hrm12), (by rw [(xv_a hg1 (xne hs_wr8 hs_a0 (by decide)))]; exact hrm13)⟩)⟩ (Nat.le_refl _) (Nat.le_refl _)

set_option maxHeartbeats 4000000 in
set_option maxRecDepth 100000 in
theorem c3_mtruckAt (l : Launch) (D : va_G) (kA : Nat → ClassId) (b0 : Nat) (t0 : Nat → Nat) (S : xT) (g : xG) (a0 : Nat) (x1 : Int) (n8 : Int) (Y8 : Int → Int) (Q8 : Int → Int → Int) (hs_a0 : S a0 = some (13, 0)) (hx1 : (-2147483648) ≤ x1 ∧ x1 ≤ 2147483647) (hp0 : xRm S g a0 n8 Y8 Q8) : xMt l yX12_truckAt cX12_truckAt 2 (some .int) 0 0 0 0 D kA b0 t0 [(13, 0)] [.ref a0, .int (iI x1)] S g (fun (r : Option Value) (S1 : xT) (g1 : xG) => S = S1 ∧ ∃ z : Int, r = some (.int (iI z)) ∧ (-1) ≤ z ∧ z ≤ 9 ∧ (z = if 0 ≤ x1 ∧ x1 < n8 then Y8 x1 else -1)) := by
  refine xEnterI (by decide) (by simp [lg_sl, Value.category]) [(0, .ref a0), (1, .int (iI x1))] rfl ?_
  intro K E hK hret _ _ _
  refine X_aloadn hK (i := 0) 0 dX12_truckAt_0 rfl rfl ?_
  obtain ⟨ty8, wr8, m8, z8, i8, hrm1, hrm2, hs_ty8, hrm4, hrm5, hrm6, hrm7, hrm8, hY8, hrm10, hs_wr8, hrm12, hrm13⟩ := hp0
  have hi8 : 0 ≤ i8 ∧ i8 ≤ 1 := by rcases hrm13 with q9 | q9 <;> omega
  have hz8 : 0 ≤ z8 ∧ z8 ≤ 1 := by omega
  refine X_iconst hK dX12_truckAt_1 ?_
  refine X_puti hK fl_X12_198_13 hs_a0 (by decide) sl_13_0 (by omega) (by omega) dX12_truckAt_2 (fun g1 hg1 => ?_)
  refine X_aloadn hK (i := 0) 0 dX12_truckAt_5 rfl rfl ?_
  refine X_getK hK fl_X12_477_13 hs_a0 ((xs_k hg1 (by decide)).trans hrm7) dX12_truckAt_6 ?_
  refine X_if_eq hK 33 (by omega) dX12_truckAt_9 (by decide) (fun c2 => ?_) (fun c2 => ?_)
  · refine X_iconst hK dX12_truckAt_33 ?_
    exact hret _ _ _ _ _ _ _ dX12_truckAt_34 ⟨rfl, (-1), rfl, (by omega), (by omega), (by rw [if_neg (by omega)])⟩ (Nat.le_refl _) (Nat.le_refl _)
  · refine X_iloadn hK (i := 1) 1 dX12_truckAt_12 rfl rfl ?_
    refine X_if_lt hK 33 (by omega) dX12_truckAt_13 (by decide) (fun c3 => ?_) (fun c3 => ?_)
    · refine X_iconst hK dX12_truckAt_33 ?_
      exact hret _ _ _ _ _ _ _ dX12_truckAt_34 ⟨rfl, (-1), rfl, (by omega), (by omega), (by rw [if_neg (by omega)])⟩ (Nat.le_refl _) (Nat.le_refl _)
    · refine X_iloadn hK (i := 1) 1 dX12_truckAt_16 rfl rfl ?_
      refine X_aloadn hK (i := 0) 0 dX12_truckAt_17 rfl rfl ?_
      refine X_getK hK fl_X12_474_13 hs_a0 ((xs_k hg1 (by decide)).trans hrm4) dX12_truckAt_18 ?_
      refine X_icmp_ge hK 33 (by omega) (by omega) dX12_truckAt_21 (by decide) (fun c4 => ?_) (fun c4 => ?_)
      · refine X_iconst hK dX12_truckAt_33 ?_
        exact hret _ _ _ _ _ _ _ dX12_truckAt_34 ⟨rfl, (-1), rfl, (by omega), (by omega), (by rw [if_neg (by omega)])⟩ (Nat.le_refl _) (Nat.le_refl _)
      · refine X_aloadn hK (i := 0) 0 dX12_truckAt_24 rfl rfl ?_
        refine X_getK hK fl_X12_183_13 hs_a0 ((xs_k hg1 (by decide)).trans hrm2) dX12_truckAt_25 ?_
        refine X_iloadn hK (i := 1) 1 dX12_truckAt_28 rfl rfl ?_
        refine X_iald hK hs_ty8 (by decide) sl_19000 (by omega) (by omega) dX12_truckAt_29 (fun z5 ez5 lz5 uz5 => ?_)
        have hr6 : Y8 x1 = z5 := by rw [← hY8, ← (xv_a hg1 (xne hs_ty8 hs_a0 (by decide)))]; exact xv_e (j := x1) ez5 (by omega)
        refine X_goto hK 34 dX12_truckAt_30 (by decide) ?_
        exact hret _ _ _ _ _ _ _ dX12_truckAt_34 ⟨rfl, z5, rfl, (by omega), (by omega), (by rw [if_pos (by omega), hr6])⟩ (Nat.le_refl _) (Nat.le_refl _)

set_option maxHeartbeats 4000000 in
set_option maxRecDepth 100000 in
theorem c3_comesAt (l : Launch) (D : va_G) (kA : Nat → ClassId) (b0 : Nat) (t0 : Nat → Nat) (S : xT) (g : xG) (a0 : Nat) (x1 : Int) (x2 : Int) (w85 : Nat) (w86 : Nat) (w83 : Nat) (wr : Nat) (n9 : Int) (Q9 : Int → Int → Int) (T9 : Int → Int) (hs_a0 : S a0 = some (13, 0)) (hx1 : 0 ≤ x1 ∧ x1 ≤ 8) (hx2 : 0 ≤ x2 ∧ x2 ≤ 8) (ew85 : g a0 85 = .ref w85) (hs_w85 : S w85 = some (19100, 10)) (ew86 : g a0 86 = .ref w86) (hs_w86 : S w86 = some (19200, 10)) (ew83 : g a0 83 = .ref w83) (hs_w83 : S w83 = some (18900, 10)) (ewr : g a0 15 = .ref wr) (hs_wr : S wr = some (15200, 100)) (hp0 : n9 ≤ 9) (hp1 : x1 < n9 ∧ x2 < n9) (hp2 : ∀ k, 0 ≤ k → k < n9 → xv g w83 k = T9 k ∧ 0 ≤ T9 k ∧ T9 k ≤ 9) (hp3 : xQr (xv g wr) Q9) (hp4 : x1 = 0 ∨ ((0 ≤ xv g w85 (x1 - 1) ∧ xv g w85 (x1 - 1) < n9) ∧ xv g w86 (x1 - 1) = xar (xF9 Q9 T9) (xW9 Q9 T9) (xv g w85) (x1 - 1).toNat ∧ 0 ≤ xv g w86 (x1 - 1) ∧ xv g w86 (x1 - 1) ≤ 65535)) : xMt l yX12_comesAt cX12_comesAt 3 (some .int) 0 0 0 0 D kA b0 t0 [] [.ref a0, .int (iI x1), .int (iI x2)] S g (fun (r : Option Value) (S1 : xT) (g1 : xG) => S = S1 ∧ g = g1 ∧ ∃ z : Int, r = some (.int (iI z)) ∧ 0 ≤ z ∧ z ≤ 65735 ∧ (xCo9 (xF9 Q9 T9) (xW9 Q9 T9) (xv g w85) x1 x2 z)) := by
  refine xEnterI (by decide) (by simp [lg_sl, Value.category]) [(0, .ref a0), (1, .int (iI x1)), (2, .int (iI x2))] rfl ?_
  intro K E hK hret _ _ _
  refine X_iloadn hK (i := 1) 1 dX12_comesAt_0 rfl rfl ?_
  refine X_if_ne hK 8 (by omega) dX12_comesAt_1 (by decide) (fun c1 => ?_) (fun c1 => ?_)
  · refine X_aloadn hK (i := 0) 0 dX12_comesAt_8 rfl rfl ?_
    refine X_getK hK fl_X12_189_13 hs_a0 ew86 dX12_comesAt_9 ?_
    refine X_iloadn hK (i := 1) 1 dX12_comesAt_12 rfl rfl ?_
    refine X_iconst hK dX12_comesAt_13 ?_
    refine X_isub hK dX12_comesAt_14 ?_
    refine X_iald hK hs_w86 (by decide) sl_19200 (by omega) (by omega) dX12_comesAt_15 (fun z2 ez2 lz2 uz2 => ?_)
    have hw3 : xv g w86 (x1 - 1) = z2 := (xv_e (j := (x1 - 1)) ez2 (by omega))
    have rhw3 := hp4.resolve_left (by omega); rw [hw3] at rhw3
    refine X_aloadn hK (i := 0) 0 dX12_comesAt_16 rfl rfl ?_
    refine X_getK hK fl_X12_47_13 hs_a0 ewr dX12_comesAt_17 ?_
    refine X_bipush hK dX12_comesAt_20 (by decide) ?_
    refine X_iloadn hK (i := 1) 1 dX12_comesAt_22 rfl rfl ?_
    refine X_if_ne hK 30 (by omega) dX12_comesAt_23 (by decide) (fun c4 => ?_) (fun c4 => False.elim (by omega))
    refine X_aloadn hK (i := 0) 0 dX12_comesAt_30 rfl rfl ?_
    refine X_getK hK fl_X12_180_13 hs_a0 ew83 dX12_comesAt_31 ?_
    refine X_aloadn hK (i := 0) 0 dX12_comesAt_34 rfl rfl ?_
    refine X_getK hK fl_X12_186_13 hs_a0 ew85 dX12_comesAt_35 ?_
    refine X_iloadn hK (i := 1) 1 dX12_comesAt_38 rfl rfl ?_
    refine X_iconst hK dX12_comesAt_39 ?_
    refine X_isub hK dX12_comesAt_40 ?_
    refine X_iald hK hs_w85 (by decide) sl_19100 (by omega) (by omega) dX12_comesAt_41 (fun z5 ez5 lz5 uz5 => ?_)
    have hw6 : xv g w85 (x1 - 1) = z5 := (xv_e (j := (x1 - 1)) ez5 (by omega))
    have rhw6 := (hp4.resolve_left (by omega)).1; rw [hw6] at rhw6
    refine X_iald hK hs_w83 (by decide) sl_18900 (by omega) (by omega) dX12_comesAt_42 (fun z7 ez7 lz7 uz7 => ?_)
    have ht8 : T9 z5 = z7 := (hp2 z5 (by omega) (by omega)).1.symm.trans (xv_e (j := z5) ez7 (by omega))
    refine X_imul hK dX12_comesAt_43 ?_
    refine X_aloadn hK (i := 0) 0 dX12_comesAt_44 rfl rfl ?_
    refine X_getK hK fl_X12_180_13 hs_a0 ew83 dX12_comesAt_45 ?_
    refine X_iloadn hK (i := 2) 2 dX12_comesAt_48 rfl rfl ?_
    refine X_iald hK hs_w83 (by decide) sl_18900 (by omega) (by omega) dX12_comesAt_49 (fun z9 ez9 lz9 uz9 => ?_)
    have ht10 : T9 x2 = z9 := (hp2 x2 (by omega) (by omega)).1.symm.trans (xv_e (j := x2) ez9 (by omega))
    refine X_iadd hK dX12_comesAt_50 ?_
    refine X_iald hK hs_wr (by decide) sl_15200 (by omega) (by omega) dX12_comesAt_51 (fun z11 ez11 lz11 uz11 => ?_)
    have hw12 : xv g wr ((10 * z7) + z9) = z11 := (xv_e (j := ((10 * z7) + z9)) ez11 (by omega))
    refine X_iadd hK dX12_comesAt_52 ?_
    exact hret _ _ _ _ _ _ _ dX12_comesAt_53 ⟨rfl, rfl, (z2 + z11), rfl, (by omega), (by omega), (by unfold xCo9; rw [if_neg (by omega), ← (hp4.resolve_left (by omega)).2.1, hw3, hw6]; show _ = _ + Q9 (T9 z5) (T9 x2); rw [ht8, ht10, ← hp3 z7 z9 (by omega) (by omega) (by omega) (by omega), show xv g wr (10 * z7 + z9) = _ from (by rw [show 10 * z7 + z9 = ((10 * z7) + z9) by omega]; exact hw12)])⟩ (Nat.le_refl _) (Nat.le_refl _)
  · refine X_iconst hK dX12_comesAt_4 ?_
    refine X_goto hK 16 dX12_comesAt_5 (by decide) ?_
    refine X_aloadn hK (i := 0) 0 dX12_comesAt_16 rfl rfl ?_
    refine X_getK hK fl_X12_47_13 hs_a0 ewr dX12_comesAt_17 ?_
    refine X_bipush hK dX12_comesAt_20 (by decide) ?_
    refine X_iloadn hK (i := 1) 1 dX12_comesAt_22 rfl rfl ?_
    refine X_if_ne hK 30 (by omega) dX12_comesAt_23 (by decide) (fun c13 => False.elim (by omega)) (fun c13 => ?_)
    refine X_iconst hK dX12_comesAt_26 ?_
    refine X_goto hK 43 dX12_comesAt_27 (by decide) ?_
    refine X_imul hK dX12_comesAt_43 ?_
    refine X_aloadn hK (i := 0) 0 dX12_comesAt_44 rfl rfl ?_
    refine X_getK hK fl_X12_180_13 hs_a0 ew83 dX12_comesAt_45 ?_
    refine X_iloadn hK (i := 2) 2 dX12_comesAt_48 rfl rfl ?_
    refine X_iald hK hs_w83 (by decide) sl_18900 (by omega) (by omega) dX12_comesAt_49 (fun z14 ez14 lz14 uz14 => ?_)
    have ht15 : T9 x2 = z14 := (hp2 x2 (by omega) (by omega)).1.symm.trans (xv_e (j := x2) ez14 (by omega))
    refine X_iadd hK dX12_comesAt_50 ?_
    refine X_iald hK hs_wr (by decide) sl_15200 (by omega) (by omega) dX12_comesAt_51 (fun z16 ez16 lz16 uz16 => ?_)
    have hw17 : xv g wr ((10 * 0) + z14) = z16 := (xv_e (j := ((10 * 0) + z14)) ez16 (by omega))
    refine X_iadd hK dX12_comesAt_52 ?_
    exact hret _ _ _ _ _ _ _ dX12_comesAt_53 ⟨rfl, rfl, (0 + z16), rfl, (by omega), (by omega), (by unfold xCo9; rw [if_pos (by omega)]; show _ = Q9 0 (T9 x2); rw [ht15, ← hp3 0 z14 (by omega) (by omega) (by omega) (by omega), show xv g wr (10 * 0 + z14) = _ from (by rw [show 10 * 0 + z14 = ((10 * 0) + z14) by omega]; exact hw17)]; omega)⟩ (Nat.le_refl _) (Nat.le_refl _)

set_option maxHeartbeats 4000000 in
set_option maxRecDepth 100000 in
theorem c3_mayGo (l : Launch) (D : va_G) (kA : Nat → ClassId) (b0 : Nat) (t0 : Nat → Nat) (S : xT) (g : xG) (a0 : Nat) (x1 : Int) (x2 : Int) (x3 : Int) (x4 : Int) (w85 : Nat) (w86 : Nat) (w83 : Nat) (wr : Nat) (w82 : Nat) (n9 : Int) (Q9 : Int → Int → Int) (T9 : Int → Int) (Y9 : Int → Int) (hs_a0 : S a0 = some (13, 0)) (hx1 : 0 ≤ x1 ∧ x1 ≤ 8) (hx2 : 0 ≤ x2 ∧ x2 ≤ 8) (hx3 : 0 ≤ x3 ∧ x3 ≤ 511) (hx4 : 0 ≤ x4 ∧ x4 ≤ 100000) (ew85 : g a0 85 = .ref w85) (hs_w85 : S w85 = some (19100, 10)) (ew86 : g a0 86 = .ref w86) (hs_w86 : S w86 = some (19200, 10)) (ew83 : g a0 83 = .ref w83) (hs_w83 : S w83 = some (18900, 10)) (ewr : g a0 15 = .ref wr) (hs_wr : S wr = some (15200, 100)) (ew82 : g a0 82 = .ref w82) (hs_w82 : S w82 = some (18800, 10)) (hp0 : n9 ≤ 9) (hp1 : x1 < n9 ∧ x2 < n9) (hp2 : ∀ k, 0 ≤ k → k < n9 → xv g w83 k = T9 k ∧ 0 ≤ T9 k ∧ T9 k ≤ 9) (hp3 : xQr (xv g wr) Q9) (hp4 : x1 = 0 ∨ ((0 ≤ xv g w85 (x1 - 1) ∧ xv g w85 (x1 - 1) < n9) ∧ xv g w86 (x1 - 1) = xar (xF9 Q9 T9) (xW9 Q9 T9) (xv g w85) (x1 - 1).toNat ∧ 0 ≤ xv g w86 (x1 - 1) ∧ xv g w86 (x1 - 1) ≤ 65535)) (hp5 : ∀ k, 0 ≤ k → k < n9 → xv g w82 (T9 k) = Y9 k) : xMt l yX12_mayGo cX12_mayGo 6 (some .boolean) 1 0 0 22 D kA b0 t0 [] [.ref a0, .int (iI x1), .int (iI x2), .int (iI x3), .int (iI x4)] S g (fun (r : Option Value) (S1 : xT) (g1 : xG) => S = S1 ∧ g = g1 ∧ ∃ z : Int, r = some (.int (iI z)) ∧ 0 ≤ z ∧ z ≤ 1 ∧ ((z = 1 ∧ xtc x3.toNat x2.toNat = 0 ∧ ∃ z, xCo9 (xF9 Q9 T9) (xW9 Q9 T9) (xv g w85) x1 x2 z ∧ z ≤ Y9 x2 ∧ z < x4) ∨ (z = 0 ∧ (xtc x3.toNat x2.toNat = 1 ∨ ∃ z, xCo9 (xF9 Q9 T9) (xW9 Q9 T9) (xv g w85) x1 x2 z ∧ z < 100000 ∧ (Y9 x2 < z ∨ x4 ≤ z))))) := by
  refine xEnterZ (by decide) (by simp [lg_sl, Value.category]) [(0, .ref a0), (1, .int (iI x1)), (2, .int (iI x2)), (3, .int (iI x3)), (4, .int (iI x4))] rfl ?_
  intro K E hK hret _ _ _
  refine X_iloadn hK (i := 3) 3 dX12_mayGo_0 rfl rfl ?_
  refine X_iloadn hK (i := 2) 2 dX12_mayGo_1 rfl rfl ?_
  refine X_ishr hK dX12_mayGo_2 (fun z1 ez1 lz1 uz1 => ?_)
  refine X_iconst hK dX12_mayGo_3 ?_
  refine X_iand hK dX12_mayGo_4 (fun z2 ez2 lz2 uz2 => ?_)
  have bz2 := xandB ez2 ⟨lz2, uz2⟩ (by omega)
  have htz2 := xtc_of (m := x3) (c := x2) (by omega) (by omega) ez1 ez2 (by omega)
  refine X_iconst hK dX12_mayGo_5 ?_
  refine X_icmp_ne hK 11 (by omega) (by omega) dX12_mayGo_6 (by decide) (fun c3 => ?_) (fun c3 => ?_)
  · refine X_aloadn hK (i := 0) 0 dX12_mayGo_11 rfl rfl ?_
    refine X_iloadn hK (i := 1) 1 dX12_mayGo_12 rfl rfl ?_
    refine X_iloadn hK (i := 2) 2 dX12_mayGo_13 rfl rfl ?_
    refine X_callV hK [.int (iI x1), .int (iI x2)] [] lk_X12_471 (c3_comesAt _ _ _ _ _ S g a0 x1 x2 w85 w86 w83 wr n9 Q9 T9 hs_a0 (by omega) (by omega) ew85 hs_w85 ew86 hs_w86 ew83 hs_w83 ewr hs_wr (by omega) (by omega) hp2 hp3 hp4) hs_a0 ⟨by decide, rfl⟩ dX12_mayGo_14 rfl rfl (by simp [Value.category]) (by decide) (by decide) (by decide) (by decide) (fun r4 S6 g5 pr4 qr4 hg5 => ?_)
    obtain ⟨rfl, rfl, z7, rfl, lz7, uz7, k8⟩ := pr4
    refine X_st [.int (iI z7)] rfl ?_
    refine X_istore hK (i := 5) [(5, .int (iI z7)), (0, .ref a0), (1, .int (iI x1)), (2, .int (iI x2)), (3, .int (iI x3)), (4, .int (iI x4))] dX12_mayGo_17 (by decide) rfl ?_
    refine X_iload hK (i := 5) 0 dX12_mayGo_19 rfl ?_
    refine X_aloadn hK (i := 0) 1 dX12_mayGo_21 rfl rfl ?_
    refine X_getK hK fl_X12_177_13 hs_a0 ew82 dX12_mayGo_22 ?_
    refine X_aloadn hK (i := 0) 1 dX12_mayGo_25 rfl rfl ?_
    refine X_getK hK fl_X12_180_13 hs_a0 ew83 dX12_mayGo_26 ?_
    refine X_iloadn hK (i := 2) 3 dX12_mayGo_29 rfl rfl ?_
    refine X_iald hK hs_w83 (by decide) sl_18900 (by omega) (by omega) dX12_mayGo_30 (fun z9 ez9 lz9 uz9 => ?_)
    have ht10 : T9 x2 = z9 := (hp2 x2 (by omega) (by omega)).1.symm.trans (xv_e (j := x2) ez9 (by omega))
    refine X_iald hK hs_w82 (by decide) sl_18800 (by omega) (by omega) dX12_mayGo_31 (fun z11 ez11 lz11 uz11 => ?_)
    have hn12 : Y9 x2 = z11 := (by have h9 := hp5 x2 (by omega) (by omega); rw [ht10, (xv_e (j := z9) ez11 (by omega))] at h9; exact h9.symm)
    refine X_icmp_gt hK 46 (by omega) (by omega) dX12_mayGo_32 (by decide) (fun c13 => ?_) (fun c13 => ?_)
    · refine X_iconst hK dX12_mayGo_46 ?_
      exact hret _ _ _ _ _ _ _ dX12_mayGo_47 (by omega) (by omega) ⟨rfl, rfl, 0, rfl, (by omega), (by omega), (Or.inr ⟨rfl, Or.inr ⟨z7, k8, by omega, (by rw [hn12]; omega)⟩⟩)⟩ (Nat.le_refl _) (Nat.le_refl _)
    · refine X_iload hK (i := 5) 0 dX12_mayGo_35 rfl ?_
      refine X_iload hK (i := 4) 5 dX12_mayGo_37 rfl ?_
      refine X_icmp_ge hK 46 (by omega) (by omega) dX12_mayGo_39 (by decide) (fun c14 => ?_) (fun c14 => ?_)
      · refine X_iconst hK dX12_mayGo_46 ?_
        exact hret _ _ _ _ _ _ _ dX12_mayGo_47 (by omega) (by omega) ⟨rfl, rfl, 0, rfl, (by omega), (by omega), (Or.inr ⟨rfl, Or.inr ⟨z7, k8, by omega, (by rw [hn12]; omega)⟩⟩)⟩ (Nat.le_refl _) (Nat.le_refl _)
      · refine X_iconst hK dX12_mayGo_42 ?_
        refine X_goto hK 47 dX12_mayGo_43 (by decide) ?_
        exact hret _ _ _ _ _ _ _ dX12_mayGo_47 (by omega) (by omega) ⟨rfl, rfl, 1, rfl, (by omega), (by omega), (Or.inl ⟨rfl, (by have h9 := htz2; have h8 := xtc01 x3.toNat x2.toNat; omega), z7, k8, by rw [hn12]; omega, by omega⟩)⟩ (Nat.le_refl _) (Nat.le_refl _)
  · refine X_iconst hK dX12_mayGo_9 ?_
    exact hret _ _ _ _ _ _ _ dX12_mayGo_10 (by omega) (by omega) ⟨rfl, rfl, 0, rfl, (by omega), (by omega), (Or.inr ⟨rfl, Or.inl (by have h9 := htz2; omega)⟩)⟩ (Nat.le_refl _) (Nat.le_refl _)

set_option maxHeartbeats 4000000 in
set_option maxRecDepth 100000 in
theorem c3_mtruck (l : Launch) (D : va_G) (kA : Nat → ClassId) (b0 : Nat) (t0 : Nat → Nat) (S : xT) (g : xG) (a0 : Nat) (n0 : Int) (y0 : Nat) (w85 : Nat) (w86 : Nat) (w83 : Nat) (w82 : Nat) (n8 : Int) (Y8 : Int → Int) (Q8 : Int → Int → Int) (f8 : Int → Int) (hs_a0 : S a0 = some (13, 0)) (hn0 : 0 ≤ n0 ∧ n0 ≤ 420) (en0 : g a0 2 = .int (iI n0)) (ey0 : g a0 1 = .ref y0) (hs_y0 : S y0 = some (14100, 420)) (ew85 : g a0 85 = .ref w85) (hs_w85 : S w85 = some (19100, 10)) (ew86 : g a0 86 = .ref w86) (hs_w86 : S w86 = some (19200, 10)) (ew83 : g a0 83 = .ref w83) (hs_w83 : S w83 = some (18900, 10)) (ew82 : g a0 82 = .ref w82) (hs_w82 : S w82 = some (18800, 10)) (hp0 : xRm S g a0 n8 Y8 Q8) (hp1 : n0 = 20 → ∀ i, 0 ≤ i → i < 20 → xv g y0 i = f8 i) : xMt l yX12_truck cX12_truck 7 (some .int) 2 0 0 47 D kA b0 t0 [(13, 0), (13, 2), (13, 18), (15200, 0), (19100, 0), (13, 87), (13, 88), (19200, 0), (19000, 0), (18800, 0), (18900, 0)] [.ref a0] S g (fun (r : Option Value) (S1 : xT) (g1 : xG) => S = S1 ∧ ∃ z : Int, r = some (.int (iI z)) ∧ (-1) ≤ z ∧ z ≤ 99999 ∧ (g1 a0 2 = .int (iI (0))) ∧ (∃ (n1 : Int) (Y1 : Int → Int), xRm S g1 a0 n1 Y1 Q8 ∧ xTK f8 Q8 n0 z n8 n1 Y8 Y1)) := by
  refine xEnterI (by decide) (by simp [lg_sl, Value.category]) [(0, .ref a0)] rfl ?_
  intro K E hK hret _ _ _
  refine X_aloadn hK (i := 0) 0 dX12_truck_0 rfl rfl ?_
  obtain ⟨ty8, wr8, m8, z8, i8, hrm1, hrm2, hs_ty8, hrm4, hrm5, hrm6, hrm7, hrm8, hY8, hrm10, hs_wr8, hrm12, hrm13⟩ := hp0
  have hi8 : 0 ≤ i8 ∧ i8 ≤ 1 := by rcases hrm13 with q9 | q9 <;> omega
  have hz8 : 0 ≤ z8 ∧ z8 ≤ 1 := by omega
  refine X_iconst hK dX12_truck_1 ?_
  refine X_puti hK fl_X12_198_13 hs_a0 (by decide) sl_13_0 (by omega) (by omega) dX12_truck_2 (fun g1 hg1 => ?_)
  refine X_aloadn hK (i := 0) 0 dX12_truck_5 rfl rfl ?_
  refine X_callV hK [] [] lk_X12_222 (c_X12_take _ _ _ _ _ S g1 a0 n0 hs_a0 (by omega) ((xs_k hg1 (by decide)).trans en0)) hs_a0 ⟨by decide, rfl⟩ dX12_truck_6 rfl rfl (by simp [Value.category]) (by decide) (by decide) (by decide) (by decide) (fun r2 S4 g3 pr2 qr2 hg3 => ?_)
  obtain ⟨rfl, z5, rfl, lz5, uz5, k6, k7⟩ := pr2
  refine X_st [.int (iI z5)] rfl ?_
  refine X_bipush hK dX12_truck_9 (by decide) ?_
  refine X_icmp_eq hK 16 (by omega) (by omega) dX12_truck_11 (by decide) (fun c8 => ?_) (fun c8 => ?_)
  · refine X_aloadn hK (i := 0) 0 dX12_truck_16 rfl rfl ?_
    refine X_callV hK [] [] lk_X12_250 (c3_layWays _ _ _ _ _ S g3 a0 wr8 i8 Q8 hs_a0 ((hg3 a0 13 0 15 hs_a0 (by decide)).trans ((xs_k hg1 (by decide)).trans hrm10)) hs_wr8 (by omega) ((hg3 a0 13 0 18 hs_a0 (by decide)).trans ((xs_k hg1 (by decide)).trans hrm12)) (by rw [(Eq.trans (xv_m hg3 hs_wr8 (by decide) (by decide)) (xv_a hg1 (xne hs_wr8 hs_a0 (by decide))))]; exact hrm13)) hs_a0 ⟨by decide, rfl⟩ dX12_truck_17 rfl rfl (by simp [Value.category]) (by decide) (by decide) (by decide) (by decide) (fun r9 S11 g10 pr9 qr9 hg10 => ?_)
    obtain ⟨rfl, rfl, k12, k13⟩ := pr9
    refine X_st [] rfl ?_
    refine X_iconst hK dX12_truck_20 ?_
    refine X_istoren hK (i := 1) [(1, .int (iI 0)), (0, .ref a0)] dX12_truck_21 rfl (by decide) rfl ?_
    refine X_iconst hK dX12_truck_22 ?_
    refine X_istoren hK (i := 2) [(2, .int (iI 1)), (1, .int (iI 0)), (0, .ref a0)] dX12_truck_23 rfl (by decide) rfl ?_
    have P35843 : ∀ (nP35843 : Nat) (g28679 : xG) (_ : xM [(18900, 0), (18800, 0)] S g10 g28679) (z28677 : Int) (_ : 1 ≤ z28677) (_ : z28677 ≤ 10) (z28678 : Int) (_ : 0 ≤ z28678) (_ : z28678 ≤ 9) (_ : z28678 ≤ z28677 - 1) (_ : xSq f8 (z28677 - 1) z28678 (xv g28679 w83)) (_ : ∀ k, 0 ≤ k → k < z28678 → 1 ≤ xv g28679 w83 k ∧ xv g28679 w83 k ≤ 9) (_ : ∀ c, 1 ≤ c → c < z28677 → xv g28679 w82 c = xpr f8 c) (_ : 26 - z28677 < (nP35843 : Int)), X K E 24 [(2, .int (iI z28677)), (1, .int (iI z28678)), (0, .ref a0)] [] S g28679 0 0 := by
      intro nP35843
      induction nP35843 with
      | zero => intro g28679 hg28679 z28677 lz28677 uz28677 z28678 lz28678 uz28678 v35844 v35845 v35846 v35847 mP35843; exact False.elim (by omega)
      | succ nP35843 ihP35843 =>
        intro g28679 hg28679 z28677 lz28677 uz28677 z28678 lz28678 uz28678 v35844 v35845 v35846 v35847 mP35843
        refine X_iloadn hK (i := 2) 0 dX12_truck_24 rfl rfl ?_
        refine X_bipush hK dX12_truck_25 (by decide) ?_
        refine X_icmp_ge hK 90 (by omega) (by omega) dX12_truck_27 (by decide) (fun c35848 => ?_) (fun c35848 => ?_)
        · refine X_iloadn hK (i := 1) 1 dX12_truck_90 rfl rfl ?_
          have hsq : xSq f8 9 z28678 (xv g28679 w83) := by have h9 := v35845; rw [show z28677 - 1 = 9 by omega] at h9; exact h9
          have hnn : z28678 = xTn f8 := hsq.1
          have hT9 : ∀ k, 0 ≤ k → k < z28678 → xv g28679 w83 k = xTs f8 k ∧ 0 ≤ xTs f8 k ∧ xTs f8 k ≤ 9 := fun k q1 q2 => by have h9 := v35846 k q1 q2; have h8 : xv g28679 w83 k = xTs f8 k := hsq.2 k q1 q2; rw [← h8]; exact ⟨rfl, by omega, by omega⟩
          have hN9 : ∀ k, 0 ≤ k → k < z28678 → xv g28679 w82 (xTs f8 k) = xTb9 f8 k := fun k q1 q2 => by have h9 := v35846 k q1 q2; have h8 : xv g28679 w83 k = xTs f8 k := hsq.2 k q1 q2; exact v35847 (xTs f8 k) (by omega) (by omega)
          have hqr9 : xQr (xv g28679 wr8) Q8 := (by rw [(xv_m hg28679 hs_wr8 (by decide) (by decide))]; exact k13)
          refine X_wt (fun hWt9 => ?_)
          have hQ9 : ∀ x y : Int, 0 ≤ x → x < 10 → 0 ≤ y → y < 10 → 0 ≤ Q8 x y ∧ Q8 x y ≤ 200 := fun x y q1 q2 q3 q4 => by rw [← hqr9 x y q1 q2 q3 q4]; exact xv_r hWt9 hs_wr8 (by decide) sl_15200 (by decide) (10 * x + y) (by omega) (by omega)
          have hF9 : ∀ i, 0 ≤ i → i < z28678 → 0 ≤ (xF9 Q8 (xTs f8)) i := fun i q1 q2 => by have h9 := hT9 i q1 q2; exact (hQ9 0 (xTs f8 i) (by omega) (by omega) (by omega) (by omega)).1
          have hW9 : ∀ i j, 0 ≤ i → i < z28678 → 0 ≤ j → j < z28678 → 0 ≤ (xW9 Q8 (xTs f8)) i j := fun i j q1 q2 q3 q4 => by have h9 := hT9 i q1 q2; have h8 := hT9 j q3 q4; exact (hQ9 (xTs f8 i) (xTs f8 j) (by omega) (by omega) (by omega) (by omega)).1
          have hB9 : ∀ i, 0 ≤ i → i < z28678 → (xTb9 f8) i ≤ 65535 := fun i q1 q2 => by have h9 := hT9 i q1 q2; rw [← hN9 i q1 q2]; exact (xv_r hWt9 hs_w82 (by decide) sl_18800 (by decide) (xTs f8 i) (by omega) (by omega)).2
          refine X_if_ne hK 98 (by omega) dX12_truck_91 (by decide) (fun c35849 => ?_) (fun c35849 => ?_)
          · refine X_ldcw hK (n := 100000) dX12_truck_98 m_55_15 (by decide) ?_
            refine X_istoren hK (i := 2) [(2, .int (iI 100000)), (1, .int (iI z28678)), (0, .ref a0)] dX12_truck_101 rfl (by decide) rfl ?_
            refine X_iconst hK dX12_truck_102 ?_
            refine X_istoren hK (i := 3) [(3, .int (iI 0)), (2, .int (iI 100000)), (1, .int (iI z28678)), (0, .ref a0)] dX12_truck_103 rfl (by decide) rfl ?_
            refine X_iconst hK dX12_truck_104 ?_
            refine X_istore hK (i := 4) [(4, .int (iI 0)), (3, .int (iI 0)), (2, .int (iI 100000)), (1, .int (iI z28678)), (0, .ref a0)] dX12_truck_105 (by decide) rfl ?_
            refine X_iloadn hK (i := 1) 3 dX12_truck_107 rfl rfl ?_
            refine X_if_le hK 118 (by omega) dX12_truck_108 (by decide) (fun c35850 => False.elim (by omega)) (fun c35850 => ?_)
            refine X_aloadn hK (i := 0) 4 dX12_truck_111 rfl rfl ?_
            refine X_getK hK fl_X12_186_13 hs_a0 ((hg28679 a0 13 0 85 hs_a0 (by decide)).trans ((hg10 a0 13 0 85 hs_a0 (by decide)).trans ((hg3 a0 13 0 85 hs_a0 (by decide)).trans ((xs_k hg1 (by decide)).trans ew85)))) dX12_truck_112 ?_
            refine X_iconst hK dX12_truck_115 ?_
            refine X_iconst hK dX12_truck_116 ?_
            refine X_iast hK hs_w85 (by decide) (by decide) sl_19100 (by omega) (by omega) (by omega) (by omega) dX12_truck_117 (fun g35851 hg35851 => ?_)
            have P41761 : ∀ (nP41761 : Nat) (g40582 : xG) (_ : xM [(19000, 0), (19200, 0), (19100, 0)] S g35851 g40582) (z40579 : Int) (_ : (-1) ≤ z40579) (_ : z40579 ≤ 8) (z40580 : Int) (_ : 0 ≤ z40580) (_ : z40580 ≤ 511) (z40581 : Int) (_ : 0 ≤ z40581) (_ : z40581 ≤ 100000) (_ : z40579 < z28678 ∨ z28678 = 0) (_ : ∀ x, 0 ≤ x → x < z40579 → 0 ≤ xv g40582 w85 x) (_ : 0 < z28678 → ∀ x, 0 ≤ x → x ≤ z40579 → xv g40582 w85 x < z28678) (_ : 0 < z28678 → xRk z28678 (xF9 Q8 (xTs f8)) (xW9 Q8 (xTs f8)) (xTb9 f8) (xTs f8) z40579 z40580 z40581 (xv g40582 w85) (xv g40582 w86) (xv g40582 ty8)) (_ : z40581 = 100000 → ∀ x9, 0 ≤ x9 → x9 < 9 → xv g40582 ty8 x9 = xv g ty8 x9) (_ : z28678 = 0 → z40581 = 0) (_ : ((xdm (xv g40582 w85) z40579 : Nat) : Int) < (nP41761 : Int)), X K E 118 [(4, .int (iI z40579)), (3, .int (iI z40580)), (2, .int (iI z40581)), (1, .int (iI z28678)), (0, .ref a0)] [] S g40582 0 0 := by
              intro nP41761
              induction nP41761 with
              | zero => intro g40582 hg40582 z40579 lz40579 uz40579 z40580 lz40580 uz40580 z40581 lz40581 uz40581 v41762 v41763 v41764 v41765 v41766 v41767 mP41761; exact False.elim (by omega)
              | succ nP41761 ihP41761 =>
                intro g40582 hg40582 z40579 lz40579 uz40579 z40580 lz40580 uz40580 z40581 lz40581 uz40581 v41762 v41763 v41764 v41765 v41766 v41767 mP41761
                refine X_iload hK (i := 4) 0 dX12_truck_118 rfl ?_
                refine X_if_lt hK 297 (by omega) dX12_truck_120 (by decide) (fun c41768 => ?_) (fun c41768 => ?_)
                · refine X_iloadn hK (i := 2) 2 dX12_truck_297 rfl rfl ?_
                  refine X_ldcw hK (n := 100000) dX12_truck_298 m_55_15 (by decide) ?_
                  refine X_icmp_ne hK 306 (by omega) (by omega) dX12_truck_301 (by decide) (fun c41769 => ?_) (fun c41769 => ?_)
                  · refine X_aloadn hK (i := 0) 4 dX12_truck_306 rfl rfl ?_
                    refine X_iloadn hK (i := 1) 3 dX12_truck_307 rfl rfl ?_
                    refine X_puti hK fl_X12_474_13 hs_a0 (by decide) sl_13_87 (by omega) (by omega) dX12_truck_308 (fun g41770 hg41770 => ?_)
                    refine X_aloadn hK (i := 0) 4 dX12_truck_311 rfl rfl ?_
                    refine X_iconst hK dX12_truck_312 ?_
                    refine X_putz hK fl_X12_477_13 hs_a0 (by decide) sl_13_88 (by omega) (by omega) dX12_truck_313 (fun g41771 hg41771 => ?_)
                    refine X_iloadn hK (i := 2) 2 dX12_truck_316 rfl rfl ?_
                    exact hret _ _ _ _ _ _ _ dX12_truck_317 ⟨rfl, z40581, rfl, (by omega), (by omega), (((xs_k hg41771 (by decide)).trans ((xs_k hg41770 (by decide)).trans ((hg40582 a0 13 0 2 hs_a0 (by decide)).trans ((xs_a hg35851 (xne hs_a0 hs_w85 (by decide))).trans ((hg28679 a0 13 0 2 hs_a0 (by decide)).trans ((hg10 a0 13 0 2 hs_a0 (by decide)).trans k7)))))).trans (by congr 2 <;> omega)), ⟨z28678, xv g41771 ty8, ⟨ty8, wr8, z28678, 1, 1, hs_a0, ((xs_k hg41771 (by decide)).trans ((xs_k hg41770 (by decide)).trans ((hg40582 a0 13 0 84 hs_a0 (by decide)).trans ((xs_a hg35851 (xne hs_a0 hs_w85 (by decide))).trans ((hg28679 a0 13 0 84 hs_a0 (by decide)).trans ((hg10 a0 13 0 84 hs_a0 (by decide)).trans ((hg3 a0 13 0 84 hs_a0 (by decide)).trans ((xs_k hg1 (by decide)).trans hrm2)))))))), hs_ty8, ((xs_k hg41771 (by decide)).trans (xs_s hg41770)), by omega, by omega, (xs_s hg41771), (Or.inr ⟨rfl, rfl⟩), rfl, ((xs_k hg41771 (by decide)).trans ((xs_k hg41770 (by decide)).trans ((hg40582 a0 13 0 15 hs_a0 (by decide)).trans ((xs_a hg35851 (xne hs_a0 hs_w85 (by decide))).trans ((hg28679 a0 13 0 15 hs_a0 (by decide)).trans ((hg10 a0 13 0 15 hs_a0 (by decide)).trans ((hg3 a0 13 0 15 hs_a0 (by decide)).trans ((xs_k hg1 (by decide)).trans hrm10)))))))), hs_wr8, ((xs_k hg41771 (by decide)).trans ((xs_k hg41770 (by decide)).trans ((hg40582 a0 13 0 18 hs_a0 (by decide)).trans ((xs_a hg35851 (xne hs_a0 hs_w85 (by decide))).trans ((hg28679 a0 13 0 18 hs_a0 (by decide)).trans k12))))), (Or.inr ⟨rfl, (by rw [(Eq.trans (Eq.trans (Eq.trans (xv_a hg41771 (xne hs_wr8 hs_a0 (by decide))) (xv_a hg41770 (xne hs_wr8 hs_a0 (by decide)))) (xv_m hg40582 hs_wr8 (by decide) (by decide))) (xv_a hg35851 (xne hs_wr8 hs_w85 (by decide))))]; exact hqr9)⟩)⟩, (Or.inr ⟨by omega, by rcases (show z28678 = 0 ∨ 0 < z28678 by omega) with c9 | c9; (have h9 := v41767 c9; exact Or.inl ⟨by omega, by omega, by omega⟩); (rcases (xRk.fin (by omega) (fun i9 q1 q2 => by have h9 := hB9 i9 q1 q2; omega) (by have h9 := v41765 c9; rw [show z40579 = -1 by omega] at h9; exact h9)) with ⟨h8, _⟩ | ⟨_, c8, h8, h7⟩; omega; exact Or.inr (Or.inr ⟨by omega, hnn, c8, (by rw [← hnn]; exact h8), (by rw [← hnn]; rw [(Eq.trans (xv_a hg41771 (xne hs_ty8 hs_a0 (by decide))) (xv_a hg41770 (xne hs_ty8 hs_a0 (by decide))))]; exact h7)⟩))⟩)⟩⟩ (Nat.le_refl _) (Nat.le_refl _)
                  · refine X_iconst hK dX12_truck_304 ?_
                    exact hret _ _ _ _ _ _ _ dX12_truck_305 ⟨rfl, (-1), rfl, (by omega), (by omega), (((hg40582 a0 13 0 2 hs_a0 (by decide)).trans ((xs_a hg35851 (xne hs_a0 hs_w85 (by decide))).trans ((hg28679 a0 13 0 2 hs_a0 (by decide)).trans ((hg10 a0 13 0 2 hs_a0 (by decide)).trans k7)))).trans (by congr 2 <;> omega)), ⟨n8, xv g40582 ty8, ⟨ty8, wr8, m8, z8, 1, hs_a0, ((hg40582 a0 13 0 84 hs_a0 (by decide)).trans ((xs_a hg35851 (xne hs_a0 hs_w85 (by decide))).trans ((hg28679 a0 13 0 84 hs_a0 (by decide)).trans ((hg10 a0 13 0 84 hs_a0 (by decide)).trans ((hg3 a0 13 0 84 hs_a0 (by decide)).trans ((xs_k hg1 (by decide)).trans hrm2)))))), hs_ty8, ((hg40582 a0 13 0 87 hs_a0 (by decide)).trans ((xs_a hg35851 (xne hs_a0 hs_w85 (by decide))).trans ((hg28679 a0 13 0 87 hs_a0 (by decide)).trans ((hg10 a0 13 0 87 hs_a0 (by decide)).trans ((hg3 a0 13 0 87 hs_a0 (by decide)).trans ((xs_k hg1 (by decide)).trans hrm4)))))), by omega, by omega, ((hg40582 a0 13 0 88 hs_a0 (by decide)).trans ((xs_a hg35851 (xne hs_a0 hs_w85 (by decide))).trans ((hg28679 a0 13 0 88 hs_a0 (by decide)).trans ((hg10 a0 13 0 88 hs_a0 (by decide)).trans ((hg3 a0 13 0 88 hs_a0 (by decide)).trans ((xs_k hg1 (by decide)).trans hrm7)))))), hrm8, rfl, ((hg40582 a0 13 0 15 hs_a0 (by decide)).trans ((xs_a hg35851 (xne hs_a0 hs_w85 (by decide))).trans ((hg28679 a0 13 0 15 hs_a0 (by decide)).trans ((hg10 a0 13 0 15 hs_a0 (by decide)).trans ((hg3 a0 13 0 15 hs_a0 (by decide)).trans ((xs_k hg1 (by decide)).trans hrm10)))))), hs_wr8, ((hg40582 a0 13 0 18 hs_a0 (by decide)).trans ((xs_a hg35851 (xne hs_a0 hs_w85 (by decide))).trans ((hg28679 a0 13 0 18 hs_a0 (by decide)).trans k12))), (Or.inr ⟨rfl, (by rw [(Eq.trans (xv_m hg40582 hs_wr8 (by decide) (by decide)) (xv_a hg35851 (xne hs_wr8 hs_w85 (by decide))))]; exact hqr9)⟩)⟩, (Or.inr ⟨by omega, by rcases (show z28678 = 0 ∨ 0 < z28678 by omega) with c9 | c9; (have h9 := v41767 c9; omega); (rcases (xRk.fin (by omega) (fun i9 q1 q2 => by have h9 := hB9 i9 q1 q2; omega) (by have h9 := v41765 c9; rw [show z40579 = -1 by omega] at h9; exact h9)) with ⟨_, h8⟩ | ⟨h8, _⟩; (exact Or.inr (Or.inl ⟨by omega, rfl, rfl, (fun x9 q1 q2 => by rw [v41766 (by omega) x9 q1 q2, hY8]), by rw [← hnn]; exact h8⟩)); omega)⟩)⟩⟩ (Nat.le_refl _) (Nat.le_refl _)
                · refine X_iloadn hK (i := 1) 3 dX12_truck_123 rfl rfl ?_
                  refine X_if_le hK 297 (by omega) dX12_truck_124 (by decide) (fun c41772 => False.elim (by omega)) (fun c41772 => ?_)
                  refine X_aloadn hK (i := 0) 4 dX12_truck_127 rfl rfl ?_
                  refine X_getK hK fl_X12_186_13 hs_a0 ((hg40582 a0 13 0 85 hs_a0 (by decide)).trans ((xs_a hg35851 (xne hs_a0 hs_w85 (by decide))).trans ((hg28679 a0 13 0 85 hs_a0 (by decide)).trans ((hg10 a0 13 0 85 hs_a0 (by decide)).trans ((hg3 a0 13 0 85 hs_a0 (by decide)).trans ((xs_k hg1 (by decide)).trans ew85)))))) dX12_truck_128 ?_
                  refine X_iload hK (i := 4) 0 dX12_truck_131 rfl ?_
                  refine X_iald hK hs_w85 (by decide) sl_19100 (by omega) (by omega) dX12_truck_133 (fun z41773 ez41773 lz41773 uz41773 => ?_)
                  have hw41774 : xv g40582 w85 z40579 = z41773 := (xv_e (j := z40579) ez41773 (by omega))
                  refine X_if_lt hK 151 (by omega) dX12_truck_134 (by decide) (fun c41775 => ?_) (fun c41775 => ?_)
                  · refine X_aloadn hK (i := 0) 4 dX12_truck_151 rfl rfl ?_
                    refine X_getK hK fl_X12_186_13 hs_a0 ((hg40582 a0 13 0 85 hs_a0 (by decide)).trans ((xs_a hg35851 (xne hs_a0 hs_w85 (by decide))).trans ((hg28679 a0 13 0 85 hs_a0 (by decide)).trans ((hg10 a0 13 0 85 hs_a0 (by decide)).trans ((hg3 a0 13 0 85 hs_a0 (by decide)).trans ((xs_k hg1 (by decide)).trans ew85)))))) dX12_truck_152 ?_
                    refine X_iload hK (i := 4) 0 dX12_truck_155 rfl ?_
                    refine X_ialdK hK hs_w85 (by decide) (by omega) (by omega) ez41773 dX12_truck_157 ?_
                    refine X_iconst hK dX12_truck_158 ?_
                    refine X_iadd hK dX12_truck_159 ?_
                    refine X_istore hK (i := 5) [(5, .int (iI (z41773 + 1))), (4, .int (iI z40579)), (3, .int (iI z40580)), (2, .int (iI z40581)), (1, .int (iI z28678)), (0, .ref a0)] dX12_truck_160 (by decide) rfl ?_
                    have hlh41776 := v41764 (by omega) z40579 (by omega) (by omega)
                    have P42241 : ∀ (nP42241 : Nat) (z42125 : Int) (_ : 0 ≤ z42125) (_ : z42125 ≤ 9) (_ : z42125 ≤ z28678) (_ : xv g40582 w85 z40579 < z42125) (_ : xRi z28678 (xF9 Q8 (xTs f8)) (xW9 Q8 (xTs f8)) (xTb9 f8) (xTs f8) z40579 z42125 z40581 (xv g40582 w85) (xv g40582 w86) (xv g40582 ty8)) (_ : z40580 = ((xmn (xv g40582 w85) z40579.toNat : Nat) : Int)) (_ : 25 - z42125 < (nP42241 : Int)), X K E 162 [(5, .int (iI z42125)), (4, .int (iI z40579)), (3, .int (iI z40580)), (2, .int (iI z40581)), (1, .int (iI z28678)), (0, .ref a0)] [] S g40582 0 0 := by
                      intro nP42241
                      induction nP42241 with
                      | zero => intro z42125 lz42125 uz42125 v42242 v42243 v42244 v42245 mP42241; exact False.elim (by omega)
                      | succ nP42241 ihP42241 =>
                        intro z42125 lz42125 uz42125 v42242 v42243 v42244 v42245 mP42241
                        refine X_iload hK (i := 5) 0 dX12_truck_162 rfl ?_
                        refine X_iloadn hK (i := 1) 4 dX12_truck_164 rfl rfl ?_
                        refine X_icmp_ge hK 187 (by omega) (by omega) dX12_truck_165 (by decide) (fun c42246 => ?_) (fun c42246 => ?_)
                        · refine X_iload hK (i := 5) 0 dX12_truck_187 rfl ?_
                          refine X_iloadn hK (i := 1) 4 dX12_truck_189 rfl rfl ?_
                          refine X_icmp_ne hK 199 (by omega) (by omega) dX12_truck_190 (by decide) (fun c42247 => ?_) (fun c42247 => ?_)
                          · refine X_aloadn hK (i := 0) 5 dX12_truck_199 rfl rfl ?_
                            refine X_getK hK fl_X12_186_13 hs_a0 ((hg40582 a0 13 0 85 hs_a0 (by decide)).trans ((xs_a hg35851 (xne hs_a0 hs_w85 (by decide))).trans ((hg28679 a0 13 0 85 hs_a0 (by decide)).trans ((hg10 a0 13 0 85 hs_a0 (by decide)).trans ((hg3 a0 13 0 85 hs_a0 (by decide)).trans ((xs_k hg1 (by decide)).trans ew85)))))) dX12_truck_200 ?_
                            refine X_iload hK (i := 4) 1 dX12_truck_203 rfl ?_
                            refine X_iload hK (i := 5) 0 dX12_truck_205 rfl ?_
                            refine X_iast hK hs_w85 (by decide) (by decide) sl_19100 (by omega) (by omega) (by omega) (by omega) dX12_truck_207 (fun g42248 hg42248 => ?_)
                            refine X_aloadn hK (i := 0) 5 dX12_truck_208 rfl rfl ?_
                            refine X_getK hK fl_X12_189_13 hs_a0 ((xs_a hg42248 (xne hs_a0 hs_w85 (by decide))).trans ((hg40582 a0 13 0 86 hs_a0 (by decide)).trans ((xs_a hg35851 (xne hs_a0 hs_w85 (by decide))).trans ((hg28679 a0 13 0 86 hs_a0 (by decide)).trans ((hg10 a0 13 0 86 hs_a0 (by decide)).trans ((hg3 a0 13 0 86 hs_a0 (by decide)).trans ((xs_k hg1 (by decide)).trans ew86))))))) dX12_truck_209 ?_
                            refine X_iload hK (i := 4) 1 dX12_truck_212 rfl ?_
                            refine X_aloadn hK (i := 0) 5 dX12_truck_214 rfl rfl ?_
                            refine X_iload hK (i := 4) 1 dX12_truck_215 rfl ?_
                            refine X_iload hK (i := 5) 0 dX12_truck_217 rfl ?_
                            refine X_callV hK [.int (iI z40579), .int (iI z42125)] [.int (iI z40579), .ref w86] lk_X12_471 (c3_comesAt _ _ _ _ _ S g42248 a0 z40579 z42125 w85 w86 w83 wr8 z28678 Q8 (xTs f8) hs_a0 (by omega) (by omega) ((xs_a hg42248 (xne hs_a0 hs_w85 (by decide))).trans ((hg40582 a0 13 0 85 hs_a0 (by decide)).trans ((xs_a hg35851 (xne hs_a0 hs_w85 (by decide))).trans ((hg28679 a0 13 0 85 hs_a0 (by decide)).trans ((hg10 a0 13 0 85 hs_a0 (by decide)).trans ((hg3 a0 13 0 85 hs_a0 (by decide)).trans ((xs_k hg1 (by decide)).trans ew85))))))) hs_w85 ((xs_a hg42248 (xne hs_a0 hs_w85 (by decide))).trans ((hg40582 a0 13 0 86 hs_a0 (by decide)).trans ((xs_a hg35851 (xne hs_a0 hs_w85 (by decide))).trans ((hg28679 a0 13 0 86 hs_a0 (by decide)).trans ((hg10 a0 13 0 86 hs_a0 (by decide)).trans ((hg3 a0 13 0 86 hs_a0 (by decide)).trans ((xs_k hg1 (by decide)).trans ew86))))))) hs_w86 ((xs_a hg42248 (xne hs_a0 hs_w85 (by decide))).trans ((hg40582 a0 13 0 83 hs_a0 (by decide)).trans ((xs_a hg35851 (xne hs_a0 hs_w85 (by decide))).trans ((hg28679 a0 13 0 83 hs_a0 (by decide)).trans ((hg10 a0 13 0 83 hs_a0 (by decide)).trans ((hg3 a0 13 0 83 hs_a0 (by decide)).trans ((xs_k hg1 (by decide)).trans ew83))))))) hs_w83 ((xs_a hg42248 (xne hs_a0 hs_w85 (by decide))).trans ((hg40582 a0 13 0 15 hs_a0 (by decide)).trans ((xs_a hg35851 (xne hs_a0 hs_w85 (by decide))).trans ((hg28679 a0 13 0 15 hs_a0 (by decide)).trans ((hg10 a0 13 0 15 hs_a0 (by decide)).trans ((hg3 a0 13 0 15 hs_a0 (by decide)).trans ((xs_k hg1 (by decide)).trans hrm10))))))) hs_wr8 (by omega) (by omega) (fun k9 q1 q2 => by rw [(Eq.trans (Eq.trans (xv_a hg42248 (xne hs_w83 hs_w85 (by decide))) (xv_m hg40582 hs_w83 (by decide) (by decide))) (xv_a hg35851 (xne hs_w83 hs_w85 (by decide))))]; exact hT9 k9 q1 q2) (by rw [(Eq.trans (Eq.trans (xv_a hg42248 (xne hs_wr8 hs_w85 (by decide))) (xv_m hg40582 hs_wr8 (by decide) (by decide))) (xv_a hg35851 (xne hs_wr8 hs_w85 (by decide))))]; exact hqr9) (xRi.kp v42244 (by omega) (fun x9 q1 q2 => (show xv g42248 w85 x9 = xv g40582 w85 x9 from by rw [(xv_k (i := x9) hg42248 (by omega) (by omega) (by omega))])) (fun x9 q1 q2 => (show xv g42248 w86 x9 = xv g40582 w86 x9 from by rw [(xv_a hg42248 (xne hs_w86 hs_w85 (by decide)))])) hF9 hW9 hB9)) hs_a0 ⟨by decide, rfl⟩ dX12_truck_219 rfl rfl (by simp [Value.category]) (by decide) (by decide) (by decide) (by decide) (fun r42249 S42251 g42250 pr42249 qr42249 hg42250 => ?_)
                            obtain ⟨rfl, rfl, z42252, rfl, lz42252, uz42252, k42253⟩ := pr42249
                            refine X_st [.int (iI z42252), .int (iI z40579), .ref w86] rfl ?_
                            refine X_iast hK hs_w86 (by decide) (by decide) sl_19200 (by omega) (by omega) (by omega) (by omega) dX12_truck_222 (fun g42254 hg42254 => ?_)
                            refine X_iloadn hK (i := 3) 2 dX12_truck_223 rfl rfl ?_
                            refine X_iconst hK dX12_truck_224 ?_
                            refine X_iload hK (i := 5) 0 dX12_truck_225 rfl ?_
                            refine X_ishl hK dX12_truck_227 (fun z42255 ez42255 lz42255 uz42255 => ?_)
                            have bz42255 := xshlB 9 ez42255 ⟨lz42255, uz42255⟩ (by omega) (by decide)
                            refine X_ior hK dX12_truck_228 (fun z42256 ez42256 lz42256 uz42256 => ?_)
                            have bz42256 := xiorB 10 ez42256 ⟨lz42256, uz42256⟩ (by omega) (by omega) (by decide)
                            have ho42257 := xorn (m := z40580) (c := z42125) (by omega) (by omega) (by omega) ez42255 ez42256 (by omega)
                            refine X_istoren hK (i := 3) [(3, .int (iI z42256)), (5, .int (iI z42125)), (4, .int (iI z40579)), (2, .int (iI z40581)), (1, .int (iI z28678)), (0, .ref a0)] dX12_truck_229 rfl (by decide) rfl ?_
                            refine X_iload hK (i := 4) 2 dX12_truck_230 rfl ?_
                            refine X_iloadn hK (i := 1) 4 dX12_truck_232 rfl rfl ?_
                            refine X_iconst hK dX12_truck_233 ?_
                            refine X_isub hK dX12_truck_234 ?_
                            refine X_icmp_ge hK 252 (by omega) (by omega) dX12_truck_235 (by decide) (fun c42258 => ?_) (fun c42258 => ?_)
                            · refine X_aloadn hK (i := 0) 5 dX12_truck_252 rfl rfl ?_
                              refine X_getK hK fl_X12_189_13 hs_a0 ((xs_a hg42254 (xne hs_a0 hs_w86 (by decide))).trans ((xs_a hg42248 (xne hs_a0 hs_w85 (by decide))).trans ((hg40582 a0 13 0 86 hs_a0 (by decide)).trans ((xs_a hg35851 (xne hs_a0 hs_w85 (by decide))).trans ((hg28679 a0 13 0 86 hs_a0 (by decide)).trans ((hg10 a0 13 0 86 hs_a0 (by decide)).trans ((hg3 a0 13 0 86 hs_a0 (by decide)).trans ((xs_k hg1 (by decide)).trans ew86)))))))) dX12_truck_253 ?_
                              refine X_iload hK (i := 4) 2 dX12_truck_256 rfl ?_
                              refine X_ialdK hK hs_w86 (by decide) (by omega) (by omega) (xs_s hg42254) dX12_truck_258 ?_
                              refine X_istoren hK (i := 2) [(2, .int (iI z42252)), (3, .int (iI z42256)), (5, .int (iI z42125)), (4, .int (iI z40579)), (1, .int (iI z28678)), (0, .ref a0)] dX12_truck_259 rfl (by decide) rfl ?_
                              refine X_iconst hK dX12_truck_260 ?_
                              refine X_istore hK (i := 6) [(6, .int (iI 0)), (2, .int (iI z42252)), (3, .int (iI z42256)), (5, .int (iI z42125)), (4, .int (iI z40579)), (1, .int (iI z28678)), (0, .ref a0)] dX12_truck_261 (by decide) rfl ?_
                              have P42294 : ∀ (nP42294 : Nat) (g42289 : xG) (_ : xM [(19000, 0)] S g42254 g42289) (z42288 : Int) (_ : 0 ≤ z42288) (_ : z42288 ≤ 9) (_ : ∀ x9, 0 ≤ x9 → x9 < z42288 → xv g42289 ty8 x9 = xTs f8 (xv g42289 w85 x9)) (_ : z42288 ≤ z28678) (_ : 25 - z42288 < (nP42294 : Int)), X K E 263 [(6, .int (iI z42288)), (2, .int (iI z42252)), (3, .int (iI z42256)), (5, .int (iI z42125)), (4, .int (iI z40579)), (1, .int (iI z28678)), (0, .ref a0)] [] S g42289 0 0 := by
                                intro nP42294
                                induction nP42294 with
                                | zero => intro g42289 hg42289 z42288 lz42288 uz42288 v42295 v42296 mP42294; exact False.elim (by omega)
                                | succ nP42294 ihP42294 =>
                                  intro g42289 hg42289 z42288 lz42288 uz42288 v42295 v42296 mP42294
                                  refine X_iload hK (i := 6) 0 dX12_truck_263 rfl ?_
                                  refine X_iloadn hK (i := 1) 5 dX12_truck_265 rfl rfl ?_
                                  refine X_icmp_ge hK 294 (by omega) (by omega) dX12_truck_266 (by decide) (fun c42297 => ?_) (fun c42297 => ?_)
                                  · refine X_goto hK 118 dX12_truck_294 (by decide) ?_
                                    refine X_lv [(4, .int (iI z40579)), (3, .int (iI z42256)), (2, .int (iI z42252)), (1, .int (iI z28678)), (0, .ref a0)] [4, 2, 1, 5, 6] rfl ?_
                                    exact ihP41761  g42289 (xM.tr (xM_ua (xM_ua (xM.tr xM.rf xLe.rf hg40582 (by decide)) hg42248 hs_w85 (by decide) (by decide)) hg42254 hs_w86 (by decide) (by decide)) xLe.rf hg42289 (by decide)) z40579 (by omega) (by omega) z42256 (by omega) (by omega) z42252 (by omega) (by omega) (by omega) (fun x q1 q2 => by rw [(show xv g42289 w85 x = xv g40582 w85 x from by rw [(xv_m hg42289 hs_w85 (by decide) (by decide)), (xv_a hg42254 (xne hs_w85 hs_w86 (by decide))), (xv_k (i := x) hg42248 (by omega) (by omega) (by omega))])]; exact v41763 x q1 q2) (fun h9 x q1 q2 => by rcases (show x < z40579 ∨ x = z40579 by omega) with c9 | c9 <;> first | (rw [c9]; have h8 := (show xv g42289 w85 z40579 = z42125 from by rw [(xv_m hg42289 hs_w85 (by decide) (by decide)), (xv_a hg42254 (xne hs_w85 hs_w86 (by decide))), xv_s hg42248 (by omega)]); omega) | (rw [(show xv g42289 w85 x = xv g40582 w85 x from by rw [(xv_m hg42289 hs_w85 (by decide) (by decide)), (xv_a hg42254 (xne hs_w85 hs_w86 (by decide))), (xv_k (i := x) hg42248 (by omega) (by omega) (by omega))])]; exact v41764 h9 x q1 (by omega))) (fun h9 => False.elim (by omega)) (fun h9 => by omega) (by omega) (by have h9 := xdm_adv (f := xv g40582 w85) (f' := xv g42289 w85) (k := z40579) (i := z42125) (by omega) (by omega) (by omega) (show xv g42289 w85 z40579 = z42125 from by rw [(xv_m hg42289 hs_w85 (by decide) (by decide)), (xv_a hg42254 (xne hs_w85 hs_w86 (by decide))), xv_s hg42248 (by omega)]) (fun x q1 q2 => (show xv g42289 w85 x = xv g40582 w85 x from by rw [(xv_m hg42289 hs_w85 (by decide) (by decide)), (xv_a hg42254 (xne hs_w85 hs_w86 (by decide))), (xv_k (i := x) hg42248 (by omega) (by omega) (by omega))])); omega)
                                  · refine X_aloadn hK (i := 0) 6 dX12_truck_269 rfl rfl ?_
                                    refine X_getK hK fl_X12_183_13 hs_a0 ((hg42289 a0 13 0 84 hs_a0 (by decide)).trans ((xs_a hg42254 (xne hs_a0 hs_w86 (by decide))).trans ((xs_a hg42248 (xne hs_a0 hs_w85 (by decide))).trans ((hg40582 a0 13 0 84 hs_a0 (by decide)).trans ((xs_a hg35851 (xne hs_a0 hs_w85 (by decide))).trans ((hg28679 a0 13 0 84 hs_a0 (by decide)).trans ((hg10 a0 13 0 84 hs_a0 (by decide)).trans ((hg3 a0 13 0 84 hs_a0 (by decide)).trans ((xs_k hg1 (by decide)).trans hrm2))))))))) dX12_truck_270 ?_
                                    refine X_iload hK (i := 6) 0 dX12_truck_273 rfl ?_
                                    refine X_aloadn hK (i := 0) 6 dX12_truck_275 rfl rfl ?_
                                    refine X_getK hK fl_X12_180_13 hs_a0 ((hg42289 a0 13 0 83 hs_a0 (by decide)).trans ((xs_a hg42254 (xne hs_a0 hs_w86 (by decide))).trans ((xs_a hg42248 (xne hs_a0 hs_w85 (by decide))).trans ((hg40582 a0 13 0 83 hs_a0 (by decide)).trans ((xs_a hg35851 (xne hs_a0 hs_w85 (by decide))).trans ((hg28679 a0 13 0 83 hs_a0 (by decide)).trans ((hg10 a0 13 0 83 hs_a0 (by decide)).trans ((hg3 a0 13 0 83 hs_a0 (by decide)).trans ((xs_k hg1 (by decide)).trans ew83))))))))) dX12_truck_276 ?_
                                    refine X_aloadn hK (i := 0) 6 dX12_truck_279 rfl rfl ?_
                                    refine X_getK hK fl_X12_186_13 hs_a0 ((hg42289 a0 13 0 85 hs_a0 (by decide)).trans ((xs_a hg42254 (xne hs_a0 hs_w86 (by decide))).trans ((xs_a hg42248 (xne hs_a0 hs_w85 (by decide))).trans ((hg40582 a0 13 0 85 hs_a0 (by decide)).trans ((xs_a hg35851 (xne hs_a0 hs_w85 (by decide))).trans ((hg28679 a0 13 0 85 hs_a0 (by decide)).trans ((hg10 a0 13 0 85 hs_a0 (by decide)).trans ((hg3 a0 13 0 85 hs_a0 (by decide)).trans ((xs_k hg1 (by decide)).trans ew85))))))))) dX12_truck_280 ?_
                                    refine X_iload hK (i := 6) 0 dX12_truck_283 rfl ?_
                                    refine X_iald hK hs_w85 (by decide) sl_19100 (by omega) (by omega) dX12_truck_285 (fun z42298 ez42298 lz42298 uz42298 => ?_)
                                    have ehz42299 : xv g42289 w85 z42288 = z42298 := xv_e (j := z42288) ez42298 (by omega)
                                    have hz42299 : 0 ≤ z42298 ∧ z42298 < z28678 := by have h7 := ehz42299; rcases (show z42288 < z40579 ∨ z42288 = z40579 by omega) with c9 | c9 <;> first | (have h8 := (show xv g42289 w85 z42288 = xv g40582 w85 z42288 from by rw [(xv_m hg42289 hs_w85 (by decide) (by decide)), (xv_a hg42254 (xne hs_w85 hs_w86 (by decide))), (xv_k (i := z42288) hg42248 (by omega) (by omega) (by omega))]); have h6 := v41763 z42288 (by omega) c9; have h5 := v41764 (by omega) z42288 (by omega) (by omega); omega) | (rw [c9] at h7; have h8 := (show xv g42289 w85 z40579 = z42125 from by rw [(xv_m hg42289 hs_w85 (by decide) (by decide)), (xv_a hg42254 (xne hs_w85 hs_w86 (by decide))), xv_s hg42248 (by omega)]); omega)
                                    refine X_iald hK hs_w83 (by decide) sl_18900 (by omega) (by omega) dX12_truck_286 (fun z42300 ez42300 lz42300 uz42300 => ?_)
                                    have ht42301 : xTs f8 z42298 = z42300 := ((fun k9 q1 q2 => by rw [(Eq.trans (Eq.trans (Eq.trans (Eq.trans (xv_m hg42289 hs_w83 (by decide) (by decide)) (xv_a hg42254 (xne hs_w83 hs_w86 (by decide)))) (xv_a hg42248 (xne hs_w83 hs_w85 (by decide)))) (xv_m hg40582 hs_w83 (by decide) (by decide))) (xv_a hg35851 (xne hs_w83 hs_w85 (by decide))))]; exact hT9 k9 q1 q2) z42298 (by omega) (by omega)).1.symm.trans (xv_e (j := z42298) ez42300 (by omega))
                                    refine X_iast hK hs_ty8 (by decide) (by decide) sl_19000 (by omega) (by omega) (by omega) (by omega) dX12_truck_287 (fun g42302 hg42302 => ?_)
                                    refine X_iinc hK (i := 6) (z := z42288) (n := 1) 0 [(6, .int (iI (z42288 + 1))), (2, .int (iI z42252)), (3, .int (iI z42256)), (5, .int (iI z42125)), (4, .int (iI z40579)), (1, .int (iI z28678)), (0, .ref a0)] dX12_truck_288 rfl (by decide) rfl ?_
                                    refine X_goto hK 263 dX12_truck_291 (by decide) ?_
                                    exact ihP42294  g42302 (xM_ua (xM.tr xM.rf xLe.rf hg42289 (by decide)) hg42302 hs_ty8 (by decide) (by decide)) (z42288 + 1) (by omega) (by omega) (fun x9 q1 q2 => by rw [(xv_a hg42302 (xne hs_w85 hs_ty8 (by decide)))]; by_cases e9 : x9 = z42288; (rw [e9, (show xv g42302 ty8 z42288 = z42300 from by rw [xv_s hg42302 (by omega)]), (show xv g42289 w85 z42288 = _ from ehz42299), ht42301]); (rw [(show xv g42302 ty8 x9 = xv g42289 ty8 x9 from by rw [(xv_k (i := x9) hg42302 (by omega) (by omega) (by omega))])]; exact v42295 x9 q1 (by omega))) (by omega) (by omega)
                              exact P42294 ((25 - 0 : Int).toNat + 1) g42254 xM.rf 0 (by omega) (by omega) (fun x9 q1 q2 => by omega) (by omega) (by omega)
                            · refine X_iinc hK (i := 4) (z := z40579) (n := 1) 2 [(4, .int (iI (z40579 + 1))), (3, .int (iI z42256)), (5, .int (iI z42125)), (2, .int (iI z40581)), (1, .int (iI z28678)), (0, .ref a0)] dX12_truck_238 rfl (by decide) rfl ?_
                              refine X_aloadn hK (i := 0) 5 dX12_truck_241 rfl rfl ?_
                              refine X_getK hK fl_X12_186_13 hs_a0 ((xs_a hg42254 (xne hs_a0 hs_w86 (by decide))).trans ((xs_a hg42248 (xne hs_a0 hs_w85 (by decide))).trans ((hg40582 a0 13 0 85 hs_a0 (by decide)).trans ((xs_a hg35851 (xne hs_a0 hs_w85 (by decide))).trans ((hg28679 a0 13 0 85 hs_a0 (by decide)).trans ((hg10 a0 13 0 85 hs_a0 (by decide)).trans ((hg3 a0 13 0 85 hs_a0 (by decide)).trans ((xs_k hg1 (by decide)).trans ew85)))))))) dX12_truck_242 ?_
                              refine X_iload hK (i := 4) 0 dX12_truck_245 rfl ?_
                              refine X_iconst hK dX12_truck_247 ?_
                              refine X_iast hK hs_w85 (by decide) (by decide) sl_19100 (by omega) (by omega) (by omega) (by omega) dX12_truck_248 (fun g42303 hg42303 => ?_)
                              refine X_goto hK 118 dX12_truck_249 (by decide) ?_
                              refine X_lv [(4, .int (iI (z40579 + 1))), (3, .int (iI z42256)), (2, .int (iI z40581)), (1, .int (iI z28678)), (0, .ref a0)] [0, 1, 3, 4, 5] rfl ?_
                              exact ihP41761  g42303 (xM_ua (xM_ua (xM_ua (xM.tr xM.rf xLe.rf hg40582 (by decide)) hg42248 hs_w85 (by decide) (by decide)) hg42254 hs_w86 (by decide) (by decide)) hg42303 hs_w85 (by decide) (by decide)) (z40579 + 1) (by omega) (by omega) z42256 (by omega) (by omega) z40581 (by omega) (by omega) (by omega) (fun x q1 q2 => by rcases (show x < z40579 ∨ x = z40579 by omega) with c9 | c9 <;> first | (rw [c9]; have h8 := (show xv g42303 w85 z40579 = z42125 from by rw [(xv_k (i := z40579) hg42303 (by omega) (by omega) (by omega)), (xv_a hg42254 (xne hs_w85 hs_w86 (by decide))), xv_s hg42248 (by omega)]); omega) | (rw [(show xv g42303 w85 x = xv g40582 w85 x from by rw [(xv_k (i := x) hg42303 (by omega) (by omega) (by omega)), (xv_a hg42254 (xne hs_w85 hs_w86 (by decide))), (xv_k (i := x) hg42248 (by omega) (by omega) (by omega))])]; exact v41763 x q1 c9)) (fun h9 x q1 q2 => by rcases (show x < z40579 ∨ x = z40579 ∨ x = (z40579 + 1) by omega) with c9 | c9 | c9 <;> first | (rw [c9]; have h8 := (show xv g42303 w85 z40579 = z42125 from by rw [(xv_k (i := z40579) hg42303 (by omega) (by omega) (by omega)), (xv_a hg42254 (xne hs_w85 hs_w86 (by decide))), xv_s hg42248 (by omega)]); omega) | (rw [c9]; have h8 := (show xv g42303 w85 (z40579 + 1) = (-1) from by rw [xv_s hg42303 (by omega)]); omega) | (rw [(show xv g42303 w85 x = xv g40582 w85 x from by rw [(xv_k (i := x) hg42303 (by omega) (by omega) (by omega)), (xv_a hg42254 (xne hs_w85 hs_w86 (by decide))), (xv_k (i := x) hg42248 (by omega) (by omega) (by omega))])]; exact v41764 h9 x q1 (by omega))) (fun h9 => False.elim (by omega)) (fun h9 x9 q1 q2 => by rw [(Eq.trans (Eq.trans (xv_a hg42303 (xne hs_ty8 hs_w85 (by decide))) (xv_a hg42254 (xne hs_ty8 hs_w86 (by decide)))) (xv_a hg42248 (xne hs_ty8 hs_w85 (by decide))))]; exact v41766 h9 x9 q1 q2) (by omega) (by have h9 := xdm_push (f := xv g40582 w85) (f' := xv g42303 w85) (k := z40579) (i := z42125) (by omega) (by omega) (by omega) (show xv g42303 w85 z40579 = z42125 from by rw [(xv_k (i := z40579) hg42303 (by omega) (by omega) (by omega)), (xv_a hg42254 (xne hs_w85 hs_w86 (by decide))), xv_s hg42248 (by omega)]) (show xv g42303 w85 (z40579 + 1) = (-1) from by rw [xv_s hg42303 (by omega)]) (fun x q1 q2 => (show xv g42303 w85 x = xv g40582 w85 x from by rw [(xv_k (i := x) hg42303 (by omega) (by omega) (by omega)), (xv_a hg42254 (xne hs_w85 hs_w86 (by decide))), (xv_k (i := x) hg42248 (by omega) (by omega) (by omega))])); omega)
                          · refine X_iinc hK (i := 4) (z := z40579) (n := (-1)) 1 [(4, .int (iI (z40579 + (-1)))), (5, .int (iI z42125)), (3, .int (iI z40580)), (2, .int (iI z40581)), (1, .int (iI z28678)), (0, .ref a0)] dX12_truck_193 rfl (by decide) rfl ?_
                            refine X_goto hK 118 dX12_truck_196 (by decide) ?_
                            refine X_lv [(4, .int (iI (z40579 + (-1)))), (3, .int (iI z40580)), (2, .int (iI z40581)), (1, .int (iI z28678)), (0, .ref a0)] [0, 2, 3, 4, 5] rfl ?_
                            exact ihP41761  g40582 (xM.tr xM.rf xLe.rf hg40582 (by decide)) (z40579 + (-1)) (by omega) (by omega) z40580 (by omega) (by omega) z40581 (by omega) (by omega) (by omega) (fun x q1 q2 => v41763 x q1 (by omega)) (fun h9 x q1 q2 => v41764 h9 x q1 (by omega)) (fun h9 => by have h8 := v42244; rw [show z42125 = z28678 by omega] at h8; have h7 := xRi.pop h8 (by omega) (by omega); rw [← v42245] at h7; exact h7) v41766 (by omega) (by have h9 := xdm_pop (f := xv g40582 w85) (k := z40579) (by omega); omega)
                        · refine X_aloadn hK (i := 0) 5 dX12_truck_168 rfl rfl ?_
                          refine X_iload hK (i := 4) 1 dX12_truck_169 rfl ?_
                          refine X_iload hK (i := 5) 0 dX12_truck_171 rfl ?_
                          refine X_iloadn hK (i := 3) 2 dX12_truck_173 rfl rfl ?_
                          refine X_iloadn hK (i := 2) 3 dX12_truck_174 rfl rfl ?_
                          refine X_callV hK [.int (iI z40579), .int (iI z42125), .int (iI z40580), .int (iI z40581)] [] lk_X12_467 (c3_mayGo _ _ _ _ _ S g40582 a0 z40579 z42125 z40580 z40581 w85 w86 w83 wr8 w82 z28678 Q8 (xTs f8) (xTb9 f8) hs_a0 (by omega) (by omega) (by omega) (by omega) ((hg40582 a0 13 0 85 hs_a0 (by decide)).trans ((xs_a hg35851 (xne hs_a0 hs_w85 (by decide))).trans ((hg28679 a0 13 0 85 hs_a0 (by decide)).trans ((hg10 a0 13 0 85 hs_a0 (by decide)).trans ((hg3 a0 13 0 85 hs_a0 (by decide)).trans ((xs_k hg1 (by decide)).trans ew85)))))) hs_w85 ((hg40582 a0 13 0 86 hs_a0 (by decide)).trans ((xs_a hg35851 (xne hs_a0 hs_w85 (by decide))).trans ((hg28679 a0 13 0 86 hs_a0 (by decide)).trans ((hg10 a0 13 0 86 hs_a0 (by decide)).trans ((hg3 a0 13 0 86 hs_a0 (by decide)).trans ((xs_k hg1 (by decide)).trans ew86)))))) hs_w86 ((hg40582 a0 13 0 83 hs_a0 (by decide)).trans ((xs_a hg35851 (xne hs_a0 hs_w85 (by decide))).trans ((hg28679 a0 13 0 83 hs_a0 (by decide)).trans ((hg10 a0 13 0 83 hs_a0 (by decide)).trans ((hg3 a0 13 0 83 hs_a0 (by decide)).trans ((xs_k hg1 (by decide)).trans ew83)))))) hs_w83 ((hg40582 a0 13 0 15 hs_a0 (by decide)).trans ((xs_a hg35851 (xne hs_a0 hs_w85 (by decide))).trans ((hg28679 a0 13 0 15 hs_a0 (by decide)).trans ((hg10 a0 13 0 15 hs_a0 (by decide)).trans ((hg3 a0 13 0 15 hs_a0 (by decide)).trans ((xs_k hg1 (by decide)).trans hrm10)))))) hs_wr8 ((hg40582 a0 13 0 82 hs_a0 (by decide)).trans ((xs_a hg35851 (xne hs_a0 hs_w85 (by decide))).trans ((hg28679 a0 13 0 82 hs_a0 (by decide)).trans ((hg10 a0 13 0 82 hs_a0 (by decide)).trans ((hg3 a0 13 0 82 hs_a0 (by decide)).trans ((xs_k hg1 (by decide)).trans ew82)))))) hs_w82 (by omega) (by omega) (fun k9 q1 q2 => by rw [(Eq.trans (xv_m hg40582 hs_w83 (by decide) (by decide)) (xv_a hg35851 (xne hs_w83 hs_w85 (by decide))))]; exact hT9 k9 q1 q2) (by rw [(Eq.trans (xv_m hg40582 hs_wr8 (by decide) (by decide)) (xv_a hg35851 (xne hs_wr8 hs_w85 (by decide))))]; exact hqr9) (xRi.kp v42244 (by omega) (fun x9 q1 q2 => (show xv g40582 w85 x9 = xv g40582 w85 x9 from rfl)) (fun x9 q1 q2 => (show xv g40582 w86 x9 = xv g40582 w86 x9 from rfl)) hF9 hW9 hB9) (fun k9 q1 q2 => by rw [(Eq.trans (xv_m hg40582 hs_w82 (by decide) (by decide)) (xv_a hg35851 (xne hs_w82 hs_w85 (by decide))))]; exact hN9 k9 q1 q2)) hs_a0 ⟨by decide, rfl⟩ dX12_truck_175 rfl rfl (by simp [Value.category]) (by decide) (by decide) (by decide) (by decide) (fun r42304 S42306 g42305 pr42304 qr42304 hg42305 => ?_)
                          obtain ⟨rfl, rfl, z42307, rfl, lz42307, uz42307, k42308⟩ := pr42304
                          refine X_st [.int (iI z42307)] rfl ?_
                          refine X_if_ne hK 187 (by omega) dX12_truck_178 (by decide) (fun c42309 => ?_) (fun c42309 => ?_)
                          · refine X_iload hK (i := 5) 0 dX12_truck_187 rfl ?_
                            refine X_iloadn hK (i := 1) 4 dX12_truck_189 rfl rfl ?_
                            refine X_icmp_ne hK 199 (by omega) (by omega) dX12_truck_190 (by decide) (fun c42310 => ?_) (fun c42310 => ?_)
                            · refine X_aloadn hK (i := 0) 5 dX12_truck_199 rfl rfl ?_
                              refine X_getK hK fl_X12_186_13 hs_a0 ((hg40582 a0 13 0 85 hs_a0 (by decide)).trans ((xs_a hg35851 (xne hs_a0 hs_w85 (by decide))).trans ((hg28679 a0 13 0 85 hs_a0 (by decide)).trans ((hg10 a0 13 0 85 hs_a0 (by decide)).trans ((hg3 a0 13 0 85 hs_a0 (by decide)).trans ((xs_k hg1 (by decide)).trans ew85)))))) dX12_truck_200 ?_
                              refine X_iload hK (i := 4) 1 dX12_truck_203 rfl ?_
                              refine X_iload hK (i := 5) 0 dX12_truck_205 rfl ?_
                              refine X_iast hK hs_w85 (by decide) (by decide) sl_19100 (by omega) (by omega) (by omega) (by omega) dX12_truck_207 (fun g42311 hg42311 => ?_)
                              refine X_aloadn hK (i := 0) 5 dX12_truck_208 rfl rfl ?_
                              refine X_getK hK fl_X12_189_13 hs_a0 ((xs_a hg42311 (xne hs_a0 hs_w85 (by decide))).trans ((hg40582 a0 13 0 86 hs_a0 (by decide)).trans ((xs_a hg35851 (xne hs_a0 hs_w85 (by decide))).trans ((hg28679 a0 13 0 86 hs_a0 (by decide)).trans ((hg10 a0 13 0 86 hs_a0 (by decide)).trans ((hg3 a0 13 0 86 hs_a0 (by decide)).trans ((xs_k hg1 (by decide)).trans ew86))))))) dX12_truck_209 ?_
                              refine X_iload hK (i := 4) 1 dX12_truck_212 rfl ?_
                              refine X_aloadn hK (i := 0) 5 dX12_truck_214 rfl rfl ?_
                              refine X_iload hK (i := 4) 1 dX12_truck_215 rfl ?_
                              refine X_iload hK (i := 5) 0 dX12_truck_217 rfl ?_
                              refine X_callV hK [.int (iI z40579), .int (iI z42125)] [.int (iI z40579), .ref w86] lk_X12_471 (c3_comesAt _ _ _ _ _ S g42311 a0 z40579 z42125 w85 w86 w83 wr8 z28678 Q8 (xTs f8) hs_a0 (by omega) (by omega) ((xs_a hg42311 (xne hs_a0 hs_w85 (by decide))).trans ((hg40582 a0 13 0 85 hs_a0 (by decide)).trans ((xs_a hg35851 (xne hs_a0 hs_w85 (by decide))).trans ((hg28679 a0 13 0 85 hs_a0 (by decide)).trans ((hg10 a0 13 0 85 hs_a0 (by decide)).trans ((hg3 a0 13 0 85 hs_a0 (by decide)).trans ((xs_k hg1 (by decide)).trans ew85))))))) hs_w85 ((xs_a hg42311 (xne hs_a0 hs_w85 (by decide))).trans ((hg40582 a0 13 0 86 hs_a0 (by decide)).trans ((xs_a hg35851 (xne hs_a0 hs_w85 (by decide))).trans ((hg28679 a0 13 0 86 hs_a0 (by decide)).trans ((hg10 a0 13 0 86 hs_a0 (by decide)).trans ((hg3 a0 13 0 86 hs_a0 (by decide)).trans ((xs_k hg1 (by decide)).trans ew86))))))) hs_w86 ((xs_a hg42311 (xne hs_a0 hs_w85 (by decide))).trans ((hg40582 a0 13 0 83 hs_a0 (by decide)).trans ((xs_a hg35851 (xne hs_a0 hs_w85 (by decide))).trans ((hg28679 a0 13 0 83 hs_a0 (by decide)).trans ((hg10 a0 13 0 83 hs_a0 (by decide)).trans ((hg3 a0 13 0 83 hs_a0 (by decide)).trans ((xs_k hg1 (by decide)).trans ew83))))))) hs_w83 ((xs_a hg42311 (xne hs_a0 hs_w85 (by decide))).trans ((hg40582 a0 13 0 15 hs_a0 (by decide)).trans ((xs_a hg35851 (xne hs_a0 hs_w85 (by decide))).trans ((hg28679 a0 13 0 15 hs_a0 (by decide)).trans ((hg10 a0 13 0 15 hs_a0 (by decide)).trans ((hg3 a0 13 0 15 hs_a0 (by decide)).trans ((xs_k hg1 (by decide)).trans hrm10))))))) hs_wr8 (by omega) (by omega) (fun k9 q1 q2 => by rw [(Eq.trans (Eq.trans (xv_a hg42311 (xne hs_w83 hs_w85 (by decide))) (xv_m hg40582 hs_w83 (by decide) (by decide))) (xv_a hg35851 (xne hs_w83 hs_w85 (by decide))))]; exact hT9 k9 q1 q2) (by rw [(Eq.trans (Eq.trans (xv_a hg42311 (xne hs_wr8 hs_w85 (by decide))) (xv_m hg40582 hs_wr8 (by decide) (by decide))) (xv_a hg35851 (xne hs_wr8 hs_w85 (by decide))))]; exact hqr9) (xRi.kp v42244 (by omega) (fun x9 q1 q2 => (show xv g42311 w85 x9 = xv g40582 w85 x9 from by rw [(xv_k (i := x9) hg42311 (by omega) (by omega) (by omega))])) (fun x9 q1 q2 => (show xv g42311 w86 x9 = xv g40582 w86 x9 from by rw [(xv_a hg42311 (xne hs_w86 hs_w85 (by decide)))])) hF9 hW9 hB9)) hs_a0 ⟨by decide, rfl⟩ dX12_truck_219 rfl rfl (by simp [Value.category]) (by decide) (by decide) (by decide) (by decide) (fun r42312 S42314 g42313 pr42312 qr42312 hg42313 => ?_)
                              obtain ⟨rfl, rfl, z42315, rfl, lz42315, uz42315, k42316⟩ := pr42312
                              refine X_st [.int (iI z42315), .int (iI z40579), .ref w86] rfl ?_
                              refine X_iast hK hs_w86 (by decide) (by decide) sl_19200 (by omega) (by omega) (by omega) (by omega) dX12_truck_222 (fun g42317 hg42317 => ?_)
                              refine X_iloadn hK (i := 3) 2 dX12_truck_223 rfl rfl ?_
                              refine X_iconst hK dX12_truck_224 ?_
                              refine X_iload hK (i := 5) 0 dX12_truck_225 rfl ?_
                              refine X_ishl hK dX12_truck_227 (fun z42318 ez42318 lz42318 uz42318 => ?_)
                              have bz42318 := xshlB 8 ez42318 ⟨lz42318, uz42318⟩ (by omega) (by decide)
                              refine X_ior hK dX12_truck_228 (fun z42319 ez42319 lz42319 uz42319 => ?_)
                              have bz42319 := xiorB 9 ez42319 ⟨lz42319, uz42319⟩ (by omega) (by omega) (by decide)
                              have ho42320 := xorn (m := z40580) (c := z42125) (by omega) (by omega) (by rcases k42308 with q9 | q9; exact q9.2.1; omega) ez42318 ez42319 (by omega)
                              refine X_istoren hK (i := 3) [(3, .int (iI z42319)), (5, .int (iI z42125)), (4, .int (iI z40579)), (2, .int (iI z40581)), (1, .int (iI z28678)), (0, .ref a0)] dX12_truck_229 rfl (by decide) rfl ?_
                              refine X_iload hK (i := 4) 2 dX12_truck_230 rfl ?_
                              refine X_iloadn hK (i := 1) 4 dX12_truck_232 rfl rfl ?_
                              refine X_iconst hK dX12_truck_233 ?_
                              refine X_isub hK dX12_truck_234 ?_
                              refine X_icmp_ge hK 252 (by omega) (by omega) dX12_truck_235 (by decide) (fun c42321 => ?_) (fun c42321 => ?_)
                              · refine X_aloadn hK (i := 0) 5 dX12_truck_252 rfl rfl ?_
                                refine X_getK hK fl_X12_189_13 hs_a0 ((xs_a hg42317 (xne hs_a0 hs_w86 (by decide))).trans ((xs_a hg42311 (xne hs_a0 hs_w85 (by decide))).trans ((hg40582 a0 13 0 86 hs_a0 (by decide)).trans ((xs_a hg35851 (xne hs_a0 hs_w85 (by decide))).trans ((hg28679 a0 13 0 86 hs_a0 (by decide)).trans ((hg10 a0 13 0 86 hs_a0 (by decide)).trans ((hg3 a0 13 0 86 hs_a0 (by decide)).trans ((xs_k hg1 (by decide)).trans ew86)))))))) dX12_truck_253 ?_
                                refine X_iload hK (i := 4) 2 dX12_truck_256 rfl ?_
                                refine X_ialdK hK hs_w86 (by decide) (by omega) (by omega) (xs_s hg42317) dX12_truck_258 ?_
                                refine X_istoren hK (i := 2) [(2, .int (iI z42315)), (3, .int (iI z42319)), (5, .int (iI z42125)), (4, .int (iI z40579)), (1, .int (iI z28678)), (0, .ref a0)] dX12_truck_259 rfl (by decide) rfl ?_
                                refine X_iconst hK dX12_truck_260 ?_
                                refine X_istore hK (i := 6) [(6, .int (iI 0)), (2, .int (iI z42315)), (3, .int (iI z42319)), (5, .int (iI z42125)), (4, .int (iI z40579)), (1, .int (iI z28678)), (0, .ref a0)] dX12_truck_261 (by decide) rfl ?_
                                have P42357 : ∀ (nP42357 : Nat) (g42352 : xG) (_ : xM [(19000, 0)] S g42317 g42352) (z42351 : Int) (_ : 0 ≤ z42351) (_ : z42351 ≤ 9) (_ : ∀ x9, 0 ≤ x9 → x9 < z42351 → xv g42352 ty8 x9 = xTs f8 (xv g42352 w85 x9)) (_ : z42351 ≤ z28678) (_ : 25 - z42351 < (nP42357 : Int)), X K E 263 [(6, .int (iI z42351)), (2, .int (iI z42315)), (3, .int (iI z42319)), (5, .int (iI z42125)), (4, .int (iI z40579)), (1, .int (iI z28678)), (0, .ref a0)] [] S g42352 0 0 := by
                                  intro nP42357
                                  induction nP42357 with
                                  | zero => intro g42352 hg42352 z42351 lz42351 uz42351 v42358 v42359 mP42357; exact False.elim (by omega)
                                  | succ nP42357 ihP42357 =>
                                    intro g42352 hg42352 z42351 lz42351 uz42351 v42358 v42359 mP42357
                                    refine X_iload hK (i := 6) 0 dX12_truck_263 rfl ?_
                                    refine X_iloadn hK (i := 1) 5 dX12_truck_265 rfl rfl ?_
                                    refine X_icmp_ge hK 294 (by omega) (by omega) dX12_truck_266 (by decide) (fun c42360 => ?_) (fun c42360 => ?_)
                                    · refine X_goto hK 118 dX12_truck_294 (by decide) ?_
                                      refine X_lv [(4, .int (iI z40579)), (3, .int (iI z42319)), (2, .int (iI z42315)), (1, .int (iI z28678)), (0, .ref a0)] [4, 2, 1, 5, 6] rfl ?_
                                      exact ihP41761  g42352 (xM.tr (xM_ua (xM_ua (xM.tr xM.rf xLe.rf hg40582 (by decide)) hg42311 hs_w85 (by decide) (by decide)) hg42317 hs_w86 (by decide) (by decide)) xLe.rf hg42352 (by decide)) z40579 (by omega) (by omega) z42319 (by omega) (by omega) z42315 (by omega) (by omega) (by omega) (fun x q1 q2 => by rw [(show xv g42352 w85 x = xv g40582 w85 x from by rw [(xv_m hg42352 hs_w85 (by decide) (by decide)), (xv_a hg42317 (xne hs_w85 hs_w86 (by decide))), (xv_k (i := x) hg42311 (by omega) (by omega) (by omega))])]; exact v41763 x q1 q2) (fun h9 x q1 q2 => by rcases (show x < z40579 ∨ x = z40579 by omega) with c9 | c9 <;> first | (rw [c9]; have h8 := (show xv g42352 w85 z40579 = z42125 from by rw [(xv_m hg42352 hs_w85 (by decide) (by decide)), (xv_a hg42317 (xne hs_w85 hs_w86 (by decide))), xv_s hg42311 (by omega)]); omega) | (rw [(show xv g42352 w85 x = xv g40582 w85 x from by rw [(xv_m hg42352 hs_w85 (by decide) (by decide)), (xv_a hg42317 (xne hs_w85 hs_w86 (by decide))), (xv_k (i := x) hg42311 (by omega) (by omega) (by omega))])]; exact v41764 h9 x q1 (by omega))) (fun h9 => xRi.leaf (z := z42315) (by omega) v42244 (by omega) (by omega) (by rw [show xmn (xv g40582 w85) z40579.toNat = z40580.toNat by omega]; rcases k42308 with q9 | q9; exact q9.2.1; omega) (xCo9.cg k42316 (by omega) (fun x9 q1 q2 => (show xv g42311 w85 x9 = xv g40582 w85 x9 from by rw [(xv_k (i := x9) hg42311 (by omega) (by omega) (by omega))]))) (by rcases k42308 with ⟨_, _, z9, c1, c2, c3⟩ | q9; (have h8 := xCo9.in c1 (xCo9.cg k42316 (by omega) (fun x9 q1 q2 => (show xv g42311 w85 x9 = xv g40582 w85 x9 from by rw [(xv_k (i := x9) hg42311 (by omega) (by omega) (by omega))]))); omega); omega) (by rcases k42308 with ⟨_, _, z9, c1, c2, c3⟩ | q9; (have h8 := xCo9.in c1 (xCo9.cg k42316 (by omega) (fun x9 q1 q2 => (show xv g42311 w85 x9 = xv g40582 w85 x9 from by rw [(xv_k (i := x9) hg42311 (by omega) (by omega) (by omega))]))); omega); omega) (show xv g42352 w85 z40579 = z42125 from by rw [(xv_m hg42352 hs_w85 (by decide) (by decide)), (xv_a hg42317 (xne hs_w85 hs_w86 (by decide))), xv_s hg42311 (by omega)]) (fun i9 hi9 h09 => (show xv g42352 w85 i9 = xv g40582 w85 i9 from by rw [(xv_m hg42352 hs_w85 (by decide) (by decide)), (xv_a hg42317 (xne hs_w85 hs_w86 (by decide))), (xv_k (i := i9) hg42311 (by omega) (by omega) (by omega))])) (fun x9 q1 q2 => (show xv g42352 w86 x9 = xv g40582 w86 x9 from by rw [(xv_m hg42352 hs_w86 (by decide) (by decide)), (xv_k (i := x9) hg42317 (by omega) (by omega) (by omega)), (xv_a hg42311 (xne hs_w86 hs_w85 (by decide)))])) (fun x9 q1 q2 => v42358 x9 q1 (by omega)) (by omega)) (fun h9 => by omega) (by omega) (by have h9 := xdm_adv (f := xv g40582 w85) (f' := xv g42352 w85) (k := z40579) (i := z42125) (by omega) (by omega) (by omega) (show xv g42352 w85 z40579 = z42125 from by rw [(xv_m hg42352 hs_w85 (by decide) (by decide)), (xv_a hg42317 (xne hs_w85 hs_w86 (by decide))), xv_s hg42311 (by omega)]) (fun x q1 q2 => (show xv g42352 w85 x = xv g40582 w85 x from by rw [(xv_m hg42352 hs_w85 (by decide) (by decide)), (xv_a hg42317 (xne hs_w85 hs_w86 (by decide))), (xv_k (i := x) hg42311 (by omega) (by omega) (by omega))])); omega)
                                    · refine X_aloadn hK (i := 0) 6 dX12_truck_269 rfl rfl ?_
                                      refine X_getK hK fl_X12_183_13 hs_a0 ((hg42352 a0 13 0 84 hs_a0 (by decide)).trans ((xs_a hg42317 (xne hs_a0 hs_w86 (by decide))).trans ((xs_a hg42311 (xne hs_a0 hs_w85 (by decide))).trans ((hg40582 a0 13 0 84 hs_a0 (by decide)).trans ((xs_a hg35851 (xne hs_a0 hs_w85 (by decide))).trans ((hg28679 a0 13 0 84 hs_a0 (by decide)).trans ((hg10 a0 13 0 84 hs_a0 (by decide)).trans ((hg3 a0 13 0 84 hs_a0 (by decide)).trans ((xs_k hg1 (by decide)).trans hrm2))))))))) dX12_truck_270 ?_
                                      refine X_iload hK (i := 6) 0 dX12_truck_273 rfl ?_
                                      refine X_aloadn hK (i := 0) 6 dX12_truck_275 rfl rfl ?_
                                      refine X_getK hK fl_X12_180_13 hs_a0 ((hg42352 a0 13 0 83 hs_a0 (by decide)).trans ((xs_a hg42317 (xne hs_a0 hs_w86 (by decide))).trans ((xs_a hg42311 (xne hs_a0 hs_w85 (by decide))).trans ((hg40582 a0 13 0 83 hs_a0 (by decide)).trans ((xs_a hg35851 (xne hs_a0 hs_w85 (by decide))).trans ((hg28679 a0 13 0 83 hs_a0 (by decide)).trans ((hg10 a0 13 0 83 hs_a0 (by decide)).trans ((hg3 a0 13 0 83 hs_a0 (by decide)).trans ((xs_k hg1 (by decide)).trans ew83))))))))) dX12_truck_276 ?_
                                      refine X_aloadn hK (i := 0) 6 dX12_truck_279 rfl rfl ?_
                                      refine X_getK hK fl_X12_186_13 hs_a0 ((hg42352 a0 13 0 85 hs_a0 (by decide)).trans ((xs_a hg42317 (xne hs_a0 hs_w86 (by decide))).trans ((xs_a hg42311 (xne hs_a0 hs_w85 (by decide))).trans ((hg40582 a0 13 0 85 hs_a0 (by decide)).trans ((xs_a hg35851 (xne hs_a0 hs_w85 (by decide))).trans ((hg28679 a0 13 0 85 hs_a0 (by decide)).trans ((hg10 a0 13 0 85 hs_a0 (by decide)).trans ((hg3 a0 13 0 85 hs_a0 (by decide)).trans ((xs_k hg1 (by decide)).trans ew85))))))))) dX12_truck_280 ?_
                                      refine X_iload hK (i := 6) 0 dX12_truck_283 rfl ?_
                                      refine X_iald hK hs_w85 (by decide) sl_19100 (by omega) (by omega) dX12_truck_285 (fun z42361 ez42361 lz42361 uz42361 => ?_)
                                      have ehz42362 : xv g42352 w85 z42351 = z42361 := xv_e (j := z42351) ez42361 (by omega)
                                      have hz42362 : 0 ≤ z42361 ∧ z42361 < z28678 := by have h7 := ehz42362; rcases (show z42351 < z40579 ∨ z42351 = z40579 by omega) with c9 | c9 <;> first | (have h8 := (show xv g42352 w85 z42351 = xv g40582 w85 z42351 from by rw [(xv_m hg42352 hs_w85 (by decide) (by decide)), (xv_a hg42317 (xne hs_w85 hs_w86 (by decide))), (xv_k (i := z42351) hg42311 (by omega) (by omega) (by omega))]); have h6 := v41763 z42351 (by omega) c9; have h5 := v41764 (by omega) z42351 (by omega) (by omega); omega) | (rw [c9] at h7; have h8 := (show xv g42352 w85 z40579 = z42125 from by rw [(xv_m hg42352 hs_w85 (by decide) (by decide)), (xv_a hg42317 (xne hs_w85 hs_w86 (by decide))), xv_s hg42311 (by omega)]); omega)
                                      refine X_iald hK hs_w83 (by decide) sl_18900 (by omega) (by omega) dX12_truck_286 (fun z42363 ez42363 lz42363 uz42363 => ?_)
                                      have ht42364 : xTs f8 z42361 = z42363 := ((fun k9 q1 q2 => by rw [(Eq.trans (Eq.trans (Eq.trans (Eq.trans (xv_m hg42352 hs_w83 (by decide) (by decide)) (xv_a hg42317 (xne hs_w83 hs_w86 (by decide)))) (xv_a hg42311 (xne hs_w83 hs_w85 (by decide)))) (xv_m hg40582 hs_w83 (by decide) (by decide))) (xv_a hg35851 (xne hs_w83 hs_w85 (by decide))))]; exact hT9 k9 q1 q2) z42361 (by omega) (by omega)).1.symm.trans (xv_e (j := z42361) ez42363 (by omega))
                                      refine X_iast hK hs_ty8 (by decide) (by decide) sl_19000 (by omega) (by omega) (by omega) (by omega) dX12_truck_287 (fun g42365 hg42365 => ?_)
                                      refine X_iinc hK (i := 6) (z := z42351) (n := 1) 0 [(6, .int (iI (z42351 + 1))), (2, .int (iI z42315)), (3, .int (iI z42319)), (5, .int (iI z42125)), (4, .int (iI z40579)), (1, .int (iI z28678)), (0, .ref a0)] dX12_truck_288 rfl (by decide) rfl ?_
                                      refine X_goto hK 263 dX12_truck_291 (by decide) ?_
                                      exact ihP42357  g42365 (xM_ua (xM.tr xM.rf xLe.rf hg42352 (by decide)) hg42365 hs_ty8 (by decide) (by decide)) (z42351 + 1) (by omega) (by omega) (fun x9 q1 q2 => by rw [(xv_a hg42365 (xne hs_w85 hs_ty8 (by decide)))]; by_cases e9 : x9 = z42351; (rw [e9, (show xv g42365 ty8 z42351 = z42363 from by rw [xv_s hg42365 (by omega)]), (show xv g42352 w85 z42351 = _ from ehz42362), ht42364]); (rw [(show xv g42365 ty8 x9 = xv g42352 ty8 x9 from by rw [(xv_k (i := x9) hg42365 (by omega) (by omega) (by omega))])]; exact v42358 x9 q1 (by omega))) (by omega) (by omega)
                                exact P42357 ((25 - 0 : Int).toNat + 1) g42317 xM.rf 0 (by omega) (by omega) (fun x9 q1 q2 => by omega) (by omega) (by omega)
                              · refine X_iinc hK (i := 4) (z := z40579) (n := 1) 2 [(4, .int (iI (z40579 + 1))), (3, .int (iI z42319)), (5, .int (iI z42125)), (2, .int (iI z40581)), (1, .int (iI z28678)), (0, .ref a0)] dX12_truck_238 rfl (by decide) rfl ?_
                                refine X_aloadn hK (i := 0) 5 dX12_truck_241 rfl rfl ?_
                                refine X_getK hK fl_X12_186_13 hs_a0 ((xs_a hg42317 (xne hs_a0 hs_w86 (by decide))).trans ((xs_a hg42311 (xne hs_a0 hs_w85 (by decide))).trans ((hg40582 a0 13 0 85 hs_a0 (by decide)).trans ((xs_a hg35851 (xne hs_a0 hs_w85 (by decide))).trans ((hg28679 a0 13 0 85 hs_a0 (by decide)).trans ((hg10 a0 13 0 85 hs_a0 (by decide)).trans ((hg3 a0 13 0 85 hs_a0 (by decide)).trans ((xs_k hg1 (by decide)).trans ew85)))))))) dX12_truck_242 ?_
                                refine X_iload hK (i := 4) 0 dX12_truck_245 rfl ?_
                                refine X_iconst hK dX12_truck_247 ?_
                                refine X_iast hK hs_w85 (by decide) (by decide) sl_19100 (by omega) (by omega) (by omega) (by omega) dX12_truck_248 (fun g42366 hg42366 => ?_)
                                refine X_goto hK 118 dX12_truck_249 (by decide) ?_
                                refine X_lv [(4, .int (iI (z40579 + 1))), (3, .int (iI z42319)), (2, .int (iI z40581)), (1, .int (iI z28678)), (0, .ref a0)] [0, 1, 3, 4, 5] rfl ?_
                                exact ihP41761  g42366 (xM_ua (xM_ua (xM_ua (xM.tr xM.rf xLe.rf hg40582 (by decide)) hg42311 hs_w85 (by decide) (by decide)) hg42317 hs_w86 (by decide) (by decide)) hg42366 hs_w85 (by decide) (by decide)) (z40579 + 1) (by omega) (by omega) z42319 (by omega) (by omega) z40581 (by omega) (by omega) (by omega) (fun x q1 q2 => by rcases (show x < z40579 ∨ x = z40579 by omega) with c9 | c9 <;> first | (rw [c9]; have h8 := (show xv g42366 w85 z40579 = z42125 from by rw [(xv_k (i := z40579) hg42366 (by omega) (by omega) (by omega)), (xv_a hg42317 (xne hs_w85 hs_w86 (by decide))), xv_s hg42311 (by omega)]); omega) | (rw [(show xv g42366 w85 x = xv g40582 w85 x from by rw [(xv_k (i := x) hg42366 (by omega) (by omega) (by omega)), (xv_a hg42317 (xne hs_w85 hs_w86 (by decide))), (xv_k (i := x) hg42311 (by omega) (by omega) (by omega))])]; exact v41763 x q1 c9)) (fun h9 x q1 q2 => by rcases (show x < z40579 ∨ x = z40579 ∨ x = (z40579 + 1) by omega) with c9 | c9 | c9 <;> first | (rw [c9]; have h8 := (show xv g42366 w85 z40579 = z42125 from by rw [(xv_k (i := z40579) hg42366 (by omega) (by omega) (by omega)), (xv_a hg42317 (xne hs_w85 hs_w86 (by decide))), xv_s hg42311 (by omega)]); omega) | (rw [c9]; have h8 := (show xv g42366 w85 (z40579 + 1) = (-1) from by rw [xv_s hg42366 (by omega)]); omega) | (rw [(show xv g42366 w85 x = xv g40582 w85 x from by rw [(xv_k (i := x) hg42366 (by omega) (by omega) (by omega)), (xv_a hg42317 (xne hs_w85 hs_w86 (by decide))), (xv_k (i := x) hg42311 (by omega) (by omega) (by omega))])]; exact v41764 h9 x q1 (by omega))) (fun h9 => xRi.push (z := z42315) (by omega) v42244 (by omega) (by omega) (by rw [show xmn (xv g40582 w85) z40579.toNat = z40580.toNat by omega]; rcases k42308 with q9 | q9; exact q9.2.1; omega) (xCo9.cg k42316 (by omega) (fun x9 q1 q2 => (show xv g42311 w85 x9 = xv g40582 w85 x9 from by rw [(xv_k (i := x9) hg42311 (by omega) (by omega) (by omega))]))) (by rcases k42308 with ⟨_, _, z9, c1, c2, c3⟩ | q9; (have h8 := xCo9.in c1 (xCo9.cg k42316 (by omega) (fun x9 q1 q2 => (show xv g42311 w85 x9 = xv g40582 w85 x9 from by rw [(xv_k (i := x9) hg42311 (by omega) (by omega) (by omega))]))); omega); omega) (show xv g42366 w85 z40579 = z42125 from by rw [(xv_k (i := z40579) hg42366 (by omega) (by omega) (by omega)), (xv_a hg42317 (xne hs_w85 hs_w86 (by decide))), xv_s hg42311 (by omega)]) (fun i9 hi9 h09 h19 => (show xv g42366 w85 i9 = xv g40582 w85 i9 from by rw [(xv_k (i := i9) hg42366 (by omega) (by omega) (by omega)), (xv_a hg42317 (xne hs_w85 hs_w86 (by decide))), (xv_k (i := i9) hg42311 (by omega) (by omega) (by omega))])) (show xv g42366 w85 (z40579 + 1) = (-1) from by rw [xv_s hg42366 (by omega)]) (show xv g42366 w86 z40579 = z42315 from by rw [(xv_a hg42366 (xne hs_w86 hs_w85 (by decide))), xv_s hg42317 (by omega)]) (fun i9 hi9 h09 => (show xv g42366 w86 i9 = xv g40582 w86 i9 from by rw [(xv_a hg42366 (xne hs_w86 hs_w85 (by decide))), (xv_k (i := i9) hg42317 (by omega) (by omega) (by omega)), (xv_a hg42311 (xne hs_w86 hs_w85 (by decide)))])) (fun x9 _ => by rw [(Eq.trans (Eq.trans (xv_a hg42366 (xne hs_ty8 hs_w85 (by decide))) (xv_a hg42317 (xne hs_ty8 hs_w86 (by decide)))) (xv_a hg42311 (xne hs_ty8 hs_w85 (by decide))))]) (by omega)) (fun h9 x9 q1 q2 => by rw [(Eq.trans (Eq.trans (xv_a hg42366 (xne hs_ty8 hs_w85 (by decide))) (xv_a hg42317 (xne hs_ty8 hs_w86 (by decide)))) (xv_a hg42311 (xne hs_ty8 hs_w85 (by decide))))]; exact v41766 h9 x9 q1 q2) (by omega) (by have h9 := xdm_push (f := xv g40582 w85) (f' := xv g42366 w85) (k := z40579) (i := z42125) (by omega) (by omega) (by omega) (show xv g42366 w85 z40579 = z42125 from by rw [(xv_k (i := z40579) hg42366 (by omega) (by omega) (by omega)), (xv_a hg42317 (xne hs_w85 hs_w86 (by decide))), xv_s hg42311 (by omega)]) (show xv g42366 w85 (z40579 + 1) = (-1) from by rw [xv_s hg42366 (by omega)]) (fun x q1 q2 => (show xv g42366 w85 x = xv g40582 w85 x from by rw [(xv_k (i := x) hg42366 (by omega) (by omega) (by omega)), (xv_a hg42317 (xne hs_w85 hs_w86 (by decide))), (xv_k (i := x) hg42311 (by omega) (by omega) (by omega))])); omega)
                            · refine X_iinc hK (i := 4) (z := z40579) (n := (-1)) 1 [(4, .int (iI (z40579 + (-1)))), (5, .int (iI z42125)), (3, .int (iI z40580)), (2, .int (iI z40581)), (1, .int (iI z28678)), (0, .ref a0)] dX12_truck_193 rfl (by decide) rfl ?_
                              refine X_goto hK 118 dX12_truck_196 (by decide) ?_
                              refine X_lv [(4, .int (iI (z40579 + (-1)))), (3, .int (iI z40580)), (2, .int (iI z40581)), (1, .int (iI z28678)), (0, .ref a0)] [0, 2, 3, 4, 5] rfl ?_
                              exact ihP41761  g40582 (xM.tr xM.rf xLe.rf hg40582 (by decide)) (z40579 + (-1)) (by omega) (by omega) z40580 (by omega) (by omega) z40581 (by omega) (by omega) (by omega) (fun x q1 q2 => v41763 x q1 (by omega)) (fun h9 x q1 q2 => v41764 h9 x q1 (by omega)) (fun h9 => by have h8 := v42244; rw [show z42125 = z28678 by omega] at h8; have h7 := xRi.pop h8 (by omega) (by omega); rw [← v42245] at h7; exact h7) v41766 (by omega) (by have h9 := xdm_pop (f := xv g40582 w85) (k := z40579) (by omega); omega)
                          · refine X_iinc hK (i := 5) (z := z42125) (n := 1) 0 [(5, .int (iI (z42125 + 1))), (4, .int (iI z40579)), (3, .int (iI z40580)), (2, .int (iI z40581)), (1, .int (iI z28678)), (0, .ref a0)] dX12_truck_181 rfl (by decide) rfl ?_
                            refine X_goto hK 162 dX12_truck_184 (by decide) ?_
                            exact ihP42241  (z42125 + 1) (by omega) (by omega) (by omega) (by omega) (xRi.skip v42244 (by omega) (by omega) (by omega) hW9 (by rcases k42308 with q9 | q9; omega; exact q9.2.imp (fun w9 => by rw [show xmn (xv g40582 w85) z40579.toNat = z40580.toNat by omega]; exact w9) (fun w9 => w9))) (by omega) (by omega)
                    exact P42241 ((25 - (z41773 + 1) : Int).toNat + 1) (z41773 + 1) (by omega) (by omega) (by omega) (by omega) (by have h9 := xRk.ri (v41765 (by omega)) (by omega); rw [hw41774] at h9; exact h9) (by have h9 := ((v41765 (by omega)).1 (by omega)).2.1; rw [hw41774, if_pos (by omega)] at h9; omega) (by omega)
                  · refine X_iloadn hK (i := 3) 1 dX12_truck_137 rfl rfl ?_
                    refine X_iconst hK dX12_truck_138 ?_
                    refine X_aloadn hK (i := 0) 4 dX12_truck_139 rfl rfl ?_
                    refine X_getK hK fl_X12_186_13 hs_a0 ((hg40582 a0 13 0 85 hs_a0 (by decide)).trans ((xs_a hg35851 (xne hs_a0 hs_w85 (by decide))).trans ((hg28679 a0 13 0 85 hs_a0 (by decide)).trans ((hg10 a0 13 0 85 hs_a0 (by decide)).trans ((hg3 a0 13 0 85 hs_a0 (by decide)).trans ((xs_k hg1 (by decide)).trans ew85)))))) dX12_truck_140 ?_
                    refine X_iload hK (i := 4) 0 dX12_truck_143 rfl ?_
                    refine X_ialdK hK hs_w85 (by decide) (by omega) (by omega) ez41773 dX12_truck_145 ?_
                    refine X_ishl hK dX12_truck_146 (fun z42367 ez42367 lz42367 uz42367 => ?_)
                    have bz42367 := xshlB 8 ez42367 ⟨lz42367, uz42367⟩ (by omega) (by decide)
                    refine X_iconst hK dX12_truck_147 ?_
                    refine X_ixor hK dX12_truck_148 (fun z42368 ez42368 lz42368 uz42368 => ?_)
                    refine X_iand hK dX12_truck_149 (fun z42369 ez42369 lz42369 uz42369 => ?_)
                    have hh42370 := xRk.had (by omega) (v41765 (by omega)) (k := z40579) (by omega) (by rw [hw41774]; omega)
                    rw [hw41774] at hh42370
                    have nhh42370 := xandn (m := z40580) (c := z41773) hh42370.1 (by omega) hh42370.2.1 ez42367 ez42368 ez42369 (by omega)
                    refine X_istoren hK (i := 3) [(3, .int (iI z42369)), (4, .int (iI z40579)), (2, .int (iI z40581)), (1, .int (iI z28678)), (0, .ref a0)] dX12_truck_150 rfl (by decide) rfl ?_
                    refine X_aloadn hK (i := 0) 4 dX12_truck_151 rfl rfl ?_
                    refine X_getK hK fl_X12_186_13 hs_a0 ((hg40582 a0 13 0 85 hs_a0 (by decide)).trans ((xs_a hg35851 (xne hs_a0 hs_w85 (by decide))).trans ((hg28679 a0 13 0 85 hs_a0 (by decide)).trans ((hg10 a0 13 0 85 hs_a0 (by decide)).trans ((hg3 a0 13 0 85 hs_a0 (by decide)).trans ((xs_k hg1 (by decide)).trans ew85)))))) dX12_truck_152 ?_
                    refine X_iload hK (i := 4) 1 dX12_truck_155 rfl ?_
                    refine X_ialdK hK hs_w85 (by decide) (by omega) (by omega) ez41773 dX12_truck_157 ?_
                    refine X_iconst hK dX12_truck_158 ?_
                    refine X_iadd hK dX12_truck_159 ?_
                    refine X_istore hK (i := 5) [(5, .int (iI (z41773 + 1))), (3, .int (iI z42369)), (4, .int (iI z40579)), (2, .int (iI z40581)), (1, .int (iI z28678)), (0, .ref a0)] dX12_truck_160 (by decide) rfl ?_
                    have hlh42371 := v41764 (by omega) z40579 (by omega) (by omega)
                    have P42836 : ∀ (nP42836 : Nat) (z42720 : Int) (_ : 0 ≤ z42720) (_ : z42720 ≤ 9) (_ : z42720 ≤ z28678) (_ : xv g40582 w85 z40579 < z42720) (_ : xRi z28678 (xF9 Q8 (xTs f8)) (xW9 Q8 (xTs f8)) (xTb9 f8) (xTs f8) z40579 z42720 z40581 (xv g40582 w85) (xv g40582 w86) (xv g40582 ty8)) (_ : z42369 = ((xmn (xv g40582 w85) z40579.toNat : Nat) : Int)) (_ : 25 - z42720 < (nP42836 : Int)), X K E 162 [(5, .int (iI z42720)), (3, .int (iI z42369)), (4, .int (iI z40579)), (2, .int (iI z40581)), (1, .int (iI z28678)), (0, .ref a0)] [] S g40582 0 0 := by
                      intro nP42836
                      induction nP42836 with
                      | zero => intro z42720 lz42720 uz42720 v42837 v42838 v42839 v42840 mP42836; exact False.elim (by omega)
                      | succ nP42836 ihP42836 =>
                        intro z42720 lz42720 uz42720 v42837 v42838 v42839 v42840 mP42836
                        refine X_iload hK (i := 5) 0 dX12_truck_162 rfl ?_
                        refine X_iloadn hK (i := 1) 4 dX12_truck_164 rfl rfl ?_
                        refine X_icmp_ge hK 187 (by omega) (by omega) dX12_truck_165 (by decide) (fun c42841 => ?_) (fun c42841 => ?_)
                        · refine X_iload hK (i := 5) 0 dX12_truck_187 rfl ?_
                          refine X_iloadn hK (i := 1) 4 dX12_truck_189 rfl rfl ?_
                          refine X_icmp_ne hK 199 (by omega) (by omega) dX12_truck_190 (by decide) (fun c42842 => ?_) (fun c42842 => ?_)
                          · refine X_aloadn hK (i := 0) 5 dX12_truck_199 rfl rfl ?_
                            refine X_getK hK fl_X12_186_13 hs_a0 ((hg40582 a0 13 0 85 hs_a0 (by decide)).trans ((xs_a hg35851 (xne hs_a0 hs_w85 (by decide))).trans ((hg28679 a0 13 0 85 hs_a0 (by decide)).trans ((hg10 a0 13 0 85 hs_a0 (by decide)).trans ((hg3 a0 13 0 85 hs_a0 (by decide)).trans ((xs_k hg1 (by decide)).trans ew85)))))) dX12_truck_200 ?_
                            refine X_iload hK (i := 4) 2 dX12_truck_203 rfl ?_
                            refine X_iload hK (i := 5) 0 dX12_truck_205 rfl ?_
                            refine X_iast hK hs_w85 (by decide) (by decide) sl_19100 (by omega) (by omega) (by omega) (by omega) dX12_truck_207 (fun g42843 hg42843 => ?_)
                            refine X_aloadn hK (i := 0) 5 dX12_truck_208 rfl rfl ?_
                            refine X_getK hK fl_X12_189_13 hs_a0 ((xs_a hg42843 (xne hs_a0 hs_w85 (by decide))).trans ((hg40582 a0 13 0 86 hs_a0 (by decide)).trans ((xs_a hg35851 (xne hs_a0 hs_w85 (by decide))).trans ((hg28679 a0 13 0 86 hs_a0 (by decide)).trans ((hg10 a0 13 0 86 hs_a0 (by decide)).trans ((hg3 a0 13 0 86 hs_a0 (by decide)).trans ((xs_k hg1 (by decide)).trans ew86))))))) dX12_truck_209 ?_
                            refine X_iload hK (i := 4) 2 dX12_truck_212 rfl ?_
                            refine X_aloadn hK (i := 0) 5 dX12_truck_214 rfl rfl ?_
                            refine X_iload hK (i := 4) 2 dX12_truck_215 rfl ?_
                            refine X_iload hK (i := 5) 0 dX12_truck_217 rfl ?_
                            refine X_callV hK [.int (iI z40579), .int (iI z42720)] [.int (iI z40579), .ref w86] lk_X12_471 (c3_comesAt _ _ _ _ _ S g42843 a0 z40579 z42720 w85 w86 w83 wr8 z28678 Q8 (xTs f8) hs_a0 (by omega) (by omega) ((xs_a hg42843 (xne hs_a0 hs_w85 (by decide))).trans ((hg40582 a0 13 0 85 hs_a0 (by decide)).trans ((xs_a hg35851 (xne hs_a0 hs_w85 (by decide))).trans ((hg28679 a0 13 0 85 hs_a0 (by decide)).trans ((hg10 a0 13 0 85 hs_a0 (by decide)).trans ((hg3 a0 13 0 85 hs_a0 (by decide)).trans ((xs_k hg1 (by decide)).trans ew85))))))) hs_w85 ((xs_a hg42843 (xne hs_a0 hs_w85 (by decide))).trans ((hg40582 a0 13 0 86 hs_a0 (by decide)).trans ((xs_a hg35851 (xne hs_a0 hs_w85 (by decide))).trans ((hg28679 a0 13 0 86 hs_a0 (by decide)).trans ((hg10 a0 13 0 86 hs_a0 (by decide)).trans ((hg3 a0 13 0 86 hs_a0 (by decide)).trans ((xs_k hg1 (by decide)).trans ew86))))))) hs_w86 ((xs_a hg42843 (xne hs_a0 hs_w85 (by decide))).trans ((hg40582 a0 13 0 83 hs_a0 (by decide)).trans ((xs_a hg35851 (xne hs_a0 hs_w85 (by decide))).trans ((hg28679 a0 13 0 83 hs_a0 (by decide)).trans ((hg10 a0 13 0 83 hs_a0 (by decide)).trans ((hg3 a0 13 0 83 hs_a0 (by decide)).trans ((xs_k hg1 (by decide)).trans ew83))))))) hs_w83 ((xs_a hg42843 (xne hs_a0 hs_w85 (by decide))).trans ((hg40582 a0 13 0 15 hs_a0 (by decide)).trans ((xs_a hg35851 (xne hs_a0 hs_w85 (by decide))).trans ((hg28679 a0 13 0 15 hs_a0 (by decide)).trans ((hg10 a0 13 0 15 hs_a0 (by decide)).trans ((hg3 a0 13 0 15 hs_a0 (by decide)).trans ((xs_k hg1 (by decide)).trans hrm10))))))) hs_wr8 (by omega) (by omega) (fun k9 q1 q2 => by rw [(Eq.trans (Eq.trans (xv_a hg42843 (xne hs_w83 hs_w85 (by decide))) (xv_m hg40582 hs_w83 (by decide) (by decide))) (xv_a hg35851 (xne hs_w83 hs_w85 (by decide))))]; exact hT9 k9 q1 q2) (by rw [(Eq.trans (Eq.trans (xv_a hg42843 (xne hs_wr8 hs_w85 (by decide))) (xv_m hg40582 hs_wr8 (by decide) (by decide))) (xv_a hg35851 (xne hs_wr8 hs_w85 (by decide))))]; exact hqr9) (xRi.kp v42839 (by omega) (fun x9 q1 q2 => (show xv g42843 w85 x9 = xv g40582 w85 x9 from by rw [(xv_k (i := x9) hg42843 (by omega) (by omega) (by omega))])) (fun x9 q1 q2 => (show xv g42843 w86 x9 = xv g40582 w86 x9 from by rw [(xv_a hg42843 (xne hs_w86 hs_w85 (by decide)))])) hF9 hW9 hB9)) hs_a0 ⟨by decide, rfl⟩ dX12_truck_219 rfl rfl (by simp [Value.category]) (by decide) (by decide) (by decide) (by decide) (fun r42844 S42846 g42845 pr42844 qr42844 hg42845 => ?_)
                            obtain ⟨rfl, rfl, z42847, rfl, lz42847, uz42847, k42848⟩ := pr42844
                            refine X_st [.int (iI z42847), .int (iI z40579), .ref w86] rfl ?_
                            refine X_iast hK hs_w86 (by decide) (by decide) sl_19200 (by omega) (by omega) (by omega) (by omega) dX12_truck_222 (fun g42849 hg42849 => ?_)
                            refine X_iloadn hK (i := 3) 1 dX12_truck_223 rfl rfl ?_
                            refine X_iconst hK dX12_truck_224 ?_
                            refine X_iload hK (i := 5) 0 dX12_truck_225 rfl ?_
                            refine X_ishl hK dX12_truck_227 (fun z42850 ez42850 lz42850 uz42850 => ?_)
                            have bz42850 := xshlB 9 ez42850 ⟨lz42850, uz42850⟩ (by omega) (by decide)
                            refine X_ior hK dX12_truck_228 (fun z42851 ez42851 lz42851 uz42851 => ?_)
                            have bz42851 := xiorB 10 ez42851 ⟨lz42851, uz42851⟩ (by omega) (by omega) (by decide)
                            have ho42852 := xorn (m := z42369) (c := z42720) (by omega) (by omega) (by omega) ez42850 ez42851 (by omega)
                            refine X_istoren hK (i := 3) [(3, .int (iI z42851)), (5, .int (iI z42720)), (4, .int (iI z40579)), (2, .int (iI z40581)), (1, .int (iI z28678)), (0, .ref a0)] dX12_truck_229 rfl (by decide) rfl ?_
                            refine X_iload hK (i := 4) 2 dX12_truck_230 rfl ?_
                            refine X_iloadn hK (i := 1) 4 dX12_truck_232 rfl rfl ?_
                            refine X_iconst hK dX12_truck_233 ?_
                            refine X_isub hK dX12_truck_234 ?_
                            refine X_icmp_ge hK 252 (by omega) (by omega) dX12_truck_235 (by decide) (fun c42853 => ?_) (fun c42853 => ?_)
                            · refine X_aloadn hK (i := 0) 5 dX12_truck_252 rfl rfl ?_
                              refine X_getK hK fl_X12_189_13 hs_a0 ((xs_a hg42849 (xne hs_a0 hs_w86 (by decide))).trans ((xs_a hg42843 (xne hs_a0 hs_w85 (by decide))).trans ((hg40582 a0 13 0 86 hs_a0 (by decide)).trans ((xs_a hg35851 (xne hs_a0 hs_w85 (by decide))).trans ((hg28679 a0 13 0 86 hs_a0 (by decide)).trans ((hg10 a0 13 0 86 hs_a0 (by decide)).trans ((hg3 a0 13 0 86 hs_a0 (by decide)).trans ((xs_k hg1 (by decide)).trans ew86)))))))) dX12_truck_253 ?_
                              refine X_iload hK (i := 4) 2 dX12_truck_256 rfl ?_
                              refine X_ialdK hK hs_w86 (by decide) (by omega) (by omega) (xs_s hg42849) dX12_truck_258 ?_
                              refine X_istoren hK (i := 2) [(2, .int (iI z42847)), (3, .int (iI z42851)), (5, .int (iI z42720)), (4, .int (iI z40579)), (1, .int (iI z28678)), (0, .ref a0)] dX12_truck_259 rfl (by decide) rfl ?_
                              refine X_iconst hK dX12_truck_260 ?_
                              refine X_istore hK (i := 6) [(6, .int (iI 0)), (2, .int (iI z42847)), (3, .int (iI z42851)), (5, .int (iI z42720)), (4, .int (iI z40579)), (1, .int (iI z28678)), (0, .ref a0)] dX12_truck_261 (by decide) rfl ?_
                              have P42889 : ∀ (nP42889 : Nat) (g42884 : xG) (_ : xM [(19000, 0)] S g42849 g42884) (z42883 : Int) (_ : 0 ≤ z42883) (_ : z42883 ≤ 9) (_ : ∀ x9, 0 ≤ x9 → x9 < z42883 → xv g42884 ty8 x9 = xTs f8 (xv g42884 w85 x9)) (_ : z42883 ≤ z28678) (_ : 25 - z42883 < (nP42889 : Int)), X K E 263 [(6, .int (iI z42883)), (2, .int (iI z42847)), (3, .int (iI z42851)), (5, .int (iI z42720)), (4, .int (iI z40579)), (1, .int (iI z28678)), (0, .ref a0)] [] S g42884 0 0 := by
                                intro nP42889
                                induction nP42889 with
                                | zero => intro g42884 hg42884 z42883 lz42883 uz42883 v42890 v42891 mP42889; exact False.elim (by omega)
                                | succ nP42889 ihP42889 =>
                                  intro g42884 hg42884 z42883 lz42883 uz42883 v42890 v42891 mP42889
                                  refine X_iload hK (i := 6) 0 dX12_truck_263 rfl ?_
                                  refine X_iloadn hK (i := 1) 5 dX12_truck_265 rfl rfl ?_
                                  refine X_icmp_ge hK 294 (by omega) (by omega) dX12_truck_266 (by decide) (fun c42892 => ?_) (fun c42892 => ?_)
                                  · refine X_goto hK 118 dX12_truck_294 (by decide) ?_
                                    refine X_lv [(4, .int (iI z40579)), (3, .int (iI z42851)), (2, .int (iI z42847)), (1, .int (iI z28678)), (0, .ref a0)] [4, 2, 1, 5, 6] rfl ?_
                                    exact ihP41761  g42884 (xM.tr (xM_ua (xM_ua (xM.tr xM.rf xLe.rf hg40582 (by decide)) hg42843 hs_w85 (by decide) (by decide)) hg42849 hs_w86 (by decide) (by decide)) xLe.rf hg42884 (by decide)) z40579 (by omega) (by omega) z42851 (by omega) (by omega) z42847 (by omega) (by omega) (by omega) (fun x q1 q2 => by rw [(show xv g42884 w85 x = xv g40582 w85 x from by rw [(xv_m hg42884 hs_w85 (by decide) (by decide)), (xv_a hg42849 (xne hs_w85 hs_w86 (by decide))), (xv_k (i := x) hg42843 (by omega) (by omega) (by omega))])]; exact v41763 x q1 q2) (fun h9 x q1 q2 => by rcases (show x < z40579 ∨ x = z40579 by omega) with c9 | c9 <;> first | (rw [c9]; have h8 := (show xv g42884 w85 z40579 = z42720 from by rw [(xv_m hg42884 hs_w85 (by decide) (by decide)), (xv_a hg42849 (xne hs_w85 hs_w86 (by decide))), xv_s hg42843 (by omega)]); omega) | (rw [(show xv g42884 w85 x = xv g40582 w85 x from by rw [(xv_m hg42884 hs_w85 (by decide) (by decide)), (xv_a hg42849 (xne hs_w85 hs_w86 (by decide))), (xv_k (i := x) hg42843 (by omega) (by omega) (by omega))])]; exact v41764 h9 x q1 (by omega))) (fun h9 => False.elim (by omega)) (fun h9 => by omega) (by omega) (by have h9 := xdm_adv (f := xv g40582 w85) (f' := xv g42884 w85) (k := z40579) (i := z42720) (by omega) (by omega) (by omega) (show xv g42884 w85 z40579 = z42720 from by rw [(xv_m hg42884 hs_w85 (by decide) (by decide)), (xv_a hg42849 (xne hs_w85 hs_w86 (by decide))), xv_s hg42843 (by omega)]) (fun x q1 q2 => (show xv g42884 w85 x = xv g40582 w85 x from by rw [(xv_m hg42884 hs_w85 (by decide) (by decide)), (xv_a hg42849 (xne hs_w85 hs_w86 (by decide))), (xv_k (i := x) hg42843 (by omega) (by omega) (by omega))])); omega)
                                  · refine X_aloadn hK (i := 0) 6 dX12_truck_269 rfl rfl ?_
                                    refine X_getK hK fl_X12_183_13 hs_a0 ((hg42884 a0 13 0 84 hs_a0 (by decide)).trans ((xs_a hg42849 (xne hs_a0 hs_w86 (by decide))).trans ((xs_a hg42843 (xne hs_a0 hs_w85 (by decide))).trans ((hg40582 a0 13 0 84 hs_a0 (by decide)).trans ((xs_a hg35851 (xne hs_a0 hs_w85 (by decide))).trans ((hg28679 a0 13 0 84 hs_a0 (by decide)).trans ((hg10 a0 13 0 84 hs_a0 (by decide)).trans ((hg3 a0 13 0 84 hs_a0 (by decide)).trans ((xs_k hg1 (by decide)).trans hrm2))))))))) dX12_truck_270 ?_
                                    refine X_iload hK (i := 6) 0 dX12_truck_273 rfl ?_
                                    refine X_aloadn hK (i := 0) 6 dX12_truck_275 rfl rfl ?_
                                    refine X_getK hK fl_X12_180_13 hs_a0 ((hg42884 a0 13 0 83 hs_a0 (by decide)).trans ((xs_a hg42849 (xne hs_a0 hs_w86 (by decide))).trans ((xs_a hg42843 (xne hs_a0 hs_w85 (by decide))).trans ((hg40582 a0 13 0 83 hs_a0 (by decide)).trans ((xs_a hg35851 (xne hs_a0 hs_w85 (by decide))).trans ((hg28679 a0 13 0 83 hs_a0 (by decide)).trans ((hg10 a0 13 0 83 hs_a0 (by decide)).trans ((hg3 a0 13 0 83 hs_a0 (by decide)).trans ((xs_k hg1 (by decide)).trans ew83))))))))) dX12_truck_276 ?_
                                    refine X_aloadn hK (i := 0) 6 dX12_truck_279 rfl rfl ?_
                                    refine X_getK hK fl_X12_186_13 hs_a0 ((hg42884 a0 13 0 85 hs_a0 (by decide)).trans ((xs_a hg42849 (xne hs_a0 hs_w86 (by decide))).trans ((xs_a hg42843 (xne hs_a0 hs_w85 (by decide))).trans ((hg40582 a0 13 0 85 hs_a0 (by decide)).trans ((xs_a hg35851 (xne hs_a0 hs_w85 (by decide))).trans ((hg28679 a0 13 0 85 hs_a0 (by decide)).trans ((hg10 a0 13 0 85 hs_a0 (by decide)).trans ((hg3 a0 13 0 85 hs_a0 (by decide)).trans ((xs_k hg1 (by decide)).trans ew85))))))))) dX12_truck_280 ?_
                                    refine X_iload hK (i := 6) 0 dX12_truck_283 rfl ?_
                                    refine X_iald hK hs_w85 (by decide) sl_19100 (by omega) (by omega) dX12_truck_285 (fun z42893 ez42893 lz42893 uz42893 => ?_)
                                    have ehz42894 : xv g42884 w85 z42883 = z42893 := xv_e (j := z42883) ez42893 (by omega)
                                    have hz42894 : 0 ≤ z42893 ∧ z42893 < z28678 := by have h7 := ehz42894; rcases (show z42883 < z40579 ∨ z42883 = z40579 by omega) with c9 | c9 <;> first | (have h8 := (show xv g42884 w85 z42883 = xv g40582 w85 z42883 from by rw [(xv_m hg42884 hs_w85 (by decide) (by decide)), (xv_a hg42849 (xne hs_w85 hs_w86 (by decide))), (xv_k (i := z42883) hg42843 (by omega) (by omega) (by omega))]); have h6 := v41763 z42883 (by omega) c9; have h5 := v41764 (by omega) z42883 (by omega) (by omega); omega) | (rw [c9] at h7; have h8 := (show xv g42884 w85 z40579 = z42720 from by rw [(xv_m hg42884 hs_w85 (by decide) (by decide)), (xv_a hg42849 (xne hs_w85 hs_w86 (by decide))), xv_s hg42843 (by omega)]); omega)
                                    refine X_iald hK hs_w83 (by decide) sl_18900 (by omega) (by omega) dX12_truck_286 (fun z42895 ez42895 lz42895 uz42895 => ?_)
                                    have ht42896 : xTs f8 z42893 = z42895 := ((fun k9 q1 q2 => by rw [(Eq.trans (Eq.trans (Eq.trans (Eq.trans (xv_m hg42884 hs_w83 (by decide) (by decide)) (xv_a hg42849 (xne hs_w83 hs_w86 (by decide)))) (xv_a hg42843 (xne hs_w83 hs_w85 (by decide)))) (xv_m hg40582 hs_w83 (by decide) (by decide))) (xv_a hg35851 (xne hs_w83 hs_w85 (by decide))))]; exact hT9 k9 q1 q2) z42893 (by omega) (by omega)).1.symm.trans (xv_e (j := z42893) ez42895 (by omega))
                                    refine X_iast hK hs_ty8 (by decide) (by decide) sl_19000 (by omega) (by omega) (by omega) (by omega) dX12_truck_287 (fun g42897 hg42897 => ?_)
                                    refine X_iinc hK (i := 6) (z := z42883) (n := 1) 0 [(6, .int (iI (z42883 + 1))), (2, .int (iI z42847)), (3, .int (iI z42851)), (5, .int (iI z42720)), (4, .int (iI z40579)), (1, .int (iI z28678)), (0, .ref a0)] dX12_truck_288 rfl (by decide) rfl ?_
                                    refine X_goto hK 263 dX12_truck_291 (by decide) ?_
                                    exact ihP42889  g42897 (xM_ua (xM.tr xM.rf xLe.rf hg42884 (by decide)) hg42897 hs_ty8 (by decide) (by decide)) (z42883 + 1) (by omega) (by omega) (fun x9 q1 q2 => by rw [(xv_a hg42897 (xne hs_w85 hs_ty8 (by decide)))]; by_cases e9 : x9 = z42883; (rw [e9, (show xv g42897 ty8 z42883 = z42895 from by rw [xv_s hg42897 (by omega)]), (show xv g42884 w85 z42883 = _ from ehz42894), ht42896]); (rw [(show xv g42897 ty8 x9 = xv g42884 ty8 x9 from by rw [(xv_k (i := x9) hg42897 (by omega) (by omega) (by omega))])]; exact v42890 x9 q1 (by omega))) (by omega) (by omega)
                              exact P42889 ((25 - 0 : Int).toNat + 1) g42849 xM.rf 0 (by omega) (by omega) (fun x9 q1 q2 => by omega) (by omega) (by omega)
                            · refine X_iinc hK (i := 4) (z := z40579) (n := 1) 2 [(4, .int (iI (z40579 + 1))), (3, .int (iI z42851)), (5, .int (iI z42720)), (2, .int (iI z40581)), (1, .int (iI z28678)), (0, .ref a0)] dX12_truck_238 rfl (by decide) rfl ?_
                              refine X_aloadn hK (i := 0) 5 dX12_truck_241 rfl rfl ?_
                              refine X_getK hK fl_X12_186_13 hs_a0 ((xs_a hg42849 (xne hs_a0 hs_w86 (by decide))).trans ((xs_a hg42843 (xne hs_a0 hs_w85 (by decide))).trans ((hg40582 a0 13 0 85 hs_a0 (by decide)).trans ((xs_a hg35851 (xne hs_a0 hs_w85 (by decide))).trans ((hg28679 a0 13 0 85 hs_a0 (by decide)).trans ((hg10 a0 13 0 85 hs_a0 (by decide)).trans ((hg3 a0 13 0 85 hs_a0 (by decide)).trans ((xs_k hg1 (by decide)).trans ew85)))))))) dX12_truck_242 ?_
                              refine X_iload hK (i := 4) 0 dX12_truck_245 rfl ?_
                              refine X_iconst hK dX12_truck_247 ?_
                              refine X_iast hK hs_w85 (by decide) (by decide) sl_19100 (by omega) (by omega) (by omega) (by omega) dX12_truck_248 (fun g42898 hg42898 => ?_)
                              refine X_goto hK 118 dX12_truck_249 (by decide) ?_
                              refine X_lv [(4, .int (iI (z40579 + 1))), (3, .int (iI z42851)), (2, .int (iI z40581)), (1, .int (iI z28678)), (0, .ref a0)] [0, 1, 3, 4, 5] rfl ?_
                              exact ihP41761  g42898 (xM_ua (xM_ua (xM_ua (xM.tr xM.rf xLe.rf hg40582 (by decide)) hg42843 hs_w85 (by decide) (by decide)) hg42849 hs_w86 (by decide) (by decide)) hg42898 hs_w85 (by decide) (by decide)) (z40579 + 1) (by omega) (by omega) z42851 (by omega) (by omega) z40581 (by omega) (by omega) (by omega) (fun x q1 q2 => by rcases (show x < z40579 ∨ x = z40579 by omega) with c9 | c9 <;> first | (rw [c9]; have h8 := (show xv g42898 w85 z40579 = z42720 from by rw [(xv_k (i := z40579) hg42898 (by omega) (by omega) (by omega)), (xv_a hg42849 (xne hs_w85 hs_w86 (by decide))), xv_s hg42843 (by omega)]); omega) | (rw [(show xv g42898 w85 x = xv g40582 w85 x from by rw [(xv_k (i := x) hg42898 (by omega) (by omega) (by omega)), (xv_a hg42849 (xne hs_w85 hs_w86 (by decide))), (xv_k (i := x) hg42843 (by omega) (by omega) (by omega))])]; exact v41763 x q1 c9)) (fun h9 x q1 q2 => by rcases (show x < z40579 ∨ x = z40579 ∨ x = (z40579 + 1) by omega) with c9 | c9 | c9 <;> first | (rw [c9]; have h8 := (show xv g42898 w85 z40579 = z42720 from by rw [(xv_k (i := z40579) hg42898 (by omega) (by omega) (by omega)), (xv_a hg42849 (xne hs_w85 hs_w86 (by decide))), xv_s hg42843 (by omega)]); omega) | (rw [c9]; have h8 := (show xv g42898 w85 (z40579 + 1) = (-1) from by rw [xv_s hg42898 (by omega)]); omega) | (rw [(show xv g42898 w85 x = xv g40582 w85 x from by rw [(xv_k (i := x) hg42898 (by omega) (by omega) (by omega)), (xv_a hg42849 (xne hs_w85 hs_w86 (by decide))), (xv_k (i := x) hg42843 (by omega) (by omega) (by omega))])]; exact v41764 h9 x q1 (by omega))) (fun h9 => False.elim (by omega)) (fun h9 x9 q1 q2 => by rw [(Eq.trans (Eq.trans (xv_a hg42898 (xne hs_ty8 hs_w85 (by decide))) (xv_a hg42849 (xne hs_ty8 hs_w86 (by decide)))) (xv_a hg42843 (xne hs_ty8 hs_w85 (by decide))))]; exact v41766 h9 x9 q1 q2) (by omega) (by have h9 := xdm_push (f := xv g40582 w85) (f' := xv g42898 w85) (k := z40579) (i := z42720) (by omega) (by omega) (by omega) (show xv g42898 w85 z40579 = z42720 from by rw [(xv_k (i := z40579) hg42898 (by omega) (by omega) (by omega)), (xv_a hg42849 (xne hs_w85 hs_w86 (by decide))), xv_s hg42843 (by omega)]) (show xv g42898 w85 (z40579 + 1) = (-1) from by rw [xv_s hg42898 (by omega)]) (fun x q1 q2 => (show xv g42898 w85 x = xv g40582 w85 x from by rw [(xv_k (i := x) hg42898 (by omega) (by omega) (by omega)), (xv_a hg42849 (xne hs_w85 hs_w86 (by decide))), (xv_k (i := x) hg42843 (by omega) (by omega) (by omega))])); omega)
                          · refine X_iinc hK (i := 4) (z := z40579) (n := (-1)) 2 [(4, .int (iI (z40579 + (-1)))), (5, .int (iI z42720)), (3, .int (iI z42369)), (2, .int (iI z40581)), (1, .int (iI z28678)), (0, .ref a0)] dX12_truck_193 rfl (by decide) rfl ?_
                            refine X_goto hK 118 dX12_truck_196 (by decide) ?_
                            refine X_lv [(4, .int (iI (z40579 + (-1)))), (3, .int (iI z42369)), (2, .int (iI z40581)), (1, .int (iI z28678)), (0, .ref a0)] [0, 2, 3, 4, 5] rfl ?_
                            exact ihP41761  g40582 (xM.tr xM.rf xLe.rf hg40582 (by decide)) (z40579 + (-1)) (by omega) (by omega) z42369 (by omega) (by omega) z40581 (by omega) (by omega) (by omega) (fun x q1 q2 => v41763 x q1 (by omega)) (fun h9 x q1 q2 => v41764 h9 x q1 (by omega)) (fun h9 => by have h8 := v42839; rw [show z42720 = z28678 by omega] at h8; have h7 := xRi.pop h8 (by omega) (by omega); rw [← v42840] at h7; exact h7) v41766 (by omega) (by have h9 := xdm_pop (f := xv g40582 w85) (k := z40579) (by omega); omega)
                        · refine X_aloadn hK (i := 0) 5 dX12_truck_168 rfl rfl ?_
                          refine X_iload hK (i := 4) 2 dX12_truck_169 rfl ?_
                          refine X_iload hK (i := 5) 0 dX12_truck_171 rfl ?_
                          refine X_iloadn hK (i := 3) 1 dX12_truck_173 rfl rfl ?_
                          refine X_iloadn hK (i := 2) 3 dX12_truck_174 rfl rfl ?_
                          refine X_callV hK [.int (iI z40579), .int (iI z42720), .int (iI z42369), .int (iI z40581)] [] lk_X12_467 (c3_mayGo _ _ _ _ _ S g40582 a0 z40579 z42720 z42369 z40581 w85 w86 w83 wr8 w82 z28678 Q8 (xTs f8) (xTb9 f8) hs_a0 (by omega) (by omega) (by omega) (by omega) ((hg40582 a0 13 0 85 hs_a0 (by decide)).trans ((xs_a hg35851 (xne hs_a0 hs_w85 (by decide))).trans ((hg28679 a0 13 0 85 hs_a0 (by decide)).trans ((hg10 a0 13 0 85 hs_a0 (by decide)).trans ((hg3 a0 13 0 85 hs_a0 (by decide)).trans ((xs_k hg1 (by decide)).trans ew85)))))) hs_w85 ((hg40582 a0 13 0 86 hs_a0 (by decide)).trans ((xs_a hg35851 (xne hs_a0 hs_w85 (by decide))).trans ((hg28679 a0 13 0 86 hs_a0 (by decide)).trans ((hg10 a0 13 0 86 hs_a0 (by decide)).trans ((hg3 a0 13 0 86 hs_a0 (by decide)).trans ((xs_k hg1 (by decide)).trans ew86)))))) hs_w86 ((hg40582 a0 13 0 83 hs_a0 (by decide)).trans ((xs_a hg35851 (xne hs_a0 hs_w85 (by decide))).trans ((hg28679 a0 13 0 83 hs_a0 (by decide)).trans ((hg10 a0 13 0 83 hs_a0 (by decide)).trans ((hg3 a0 13 0 83 hs_a0 (by decide)).trans ((xs_k hg1 (by decide)).trans ew83)))))) hs_w83 ((hg40582 a0 13 0 15 hs_a0 (by decide)).trans ((xs_a hg35851 (xne hs_a0 hs_w85 (by decide))).trans ((hg28679 a0 13 0 15 hs_a0 (by decide)).trans ((hg10 a0 13 0 15 hs_a0 (by decide)).trans ((hg3 a0 13 0 15 hs_a0 (by decide)).trans ((xs_k hg1 (by decide)).trans hrm10)))))) hs_wr8 ((hg40582 a0 13 0 82 hs_a0 (by decide)).trans ((xs_a hg35851 (xne hs_a0 hs_w85 (by decide))).trans ((hg28679 a0 13 0 82 hs_a0 (by decide)).trans ((hg10 a0 13 0 82 hs_a0 (by decide)).trans ((hg3 a0 13 0 82 hs_a0 (by decide)).trans ((xs_k hg1 (by decide)).trans ew82)))))) hs_w82 (by omega) (by omega) (fun k9 q1 q2 => by rw [(Eq.trans (xv_m hg40582 hs_w83 (by decide) (by decide)) (xv_a hg35851 (xne hs_w83 hs_w85 (by decide))))]; exact hT9 k9 q1 q2) (by rw [(Eq.trans (xv_m hg40582 hs_wr8 (by decide) (by decide)) (xv_a hg35851 (xne hs_wr8 hs_w85 (by decide))))]; exact hqr9) (xRi.kp v42839 (by omega) (fun x9 q1 q2 => (show xv g40582 w85 x9 = xv g40582 w85 x9 from rfl)) (fun x9 q1 q2 => (show xv g40582 w86 x9 = xv g40582 w86 x9 from rfl)) hF9 hW9 hB9) (fun k9 q1 q2 => by rw [(Eq.trans (xv_m hg40582 hs_w82 (by decide) (by decide)) (xv_a hg35851 (xne hs_w82 hs_w85 (by decide))))]; exact hN9 k9 q1 q2)) hs_a0 ⟨by decide, rfl⟩ dX12_truck_175 rfl rfl (by simp [Value.category]) (by decide) (by decide) (by decide) (by decide) (fun r42899 S42901 g42900 pr42899 qr42899 hg42900 => ?_)
                          obtain ⟨rfl, rfl, z42902, rfl, lz42902, uz42902, k42903⟩ := pr42899
                          refine X_st [.int (iI z42902)] rfl ?_
                          refine X_if_ne hK 187 (by omega) dX12_truck_178 (by decide) (fun c42904 => ?_) (fun c42904 => ?_)
                          · refine X_iload hK (i := 5) 0 dX12_truck_187 rfl ?_
                            refine X_iloadn hK (i := 1) 4 dX12_truck_189 rfl rfl ?_
                            refine X_icmp_ne hK 199 (by omega) (by omega) dX12_truck_190 (by decide) (fun c42905 => ?_) (fun c42905 => ?_)
                            · refine X_aloadn hK (i := 0) 5 dX12_truck_199 rfl rfl ?_
                              refine X_getK hK fl_X12_186_13 hs_a0 ((hg40582 a0 13 0 85 hs_a0 (by decide)).trans ((xs_a hg35851 (xne hs_a0 hs_w85 (by decide))).trans ((hg28679 a0 13 0 85 hs_a0 (by decide)).trans ((hg10 a0 13 0 85 hs_a0 (by decide)).trans ((hg3 a0 13 0 85 hs_a0 (by decide)).trans ((xs_k hg1 (by decide)).trans ew85)))))) dX12_truck_200 ?_
                              refine X_iload hK (i := 4) 2 dX12_truck_203 rfl ?_
                              refine X_iload hK (i := 5) 0 dX12_truck_205 rfl ?_
                              refine X_iast hK hs_w85 (by decide) (by decide) sl_19100 (by omega) (by omega) (by omega) (by omega) dX12_truck_207 (fun g42906 hg42906 => ?_)
                              refine X_aloadn hK (i := 0) 5 dX12_truck_208 rfl rfl ?_
                              refine X_getK hK fl_X12_189_13 hs_a0 ((xs_a hg42906 (xne hs_a0 hs_w85 (by decide))).trans ((hg40582 a0 13 0 86 hs_a0 (by decide)).trans ((xs_a hg35851 (xne hs_a0 hs_w85 (by decide))).trans ((hg28679 a0 13 0 86 hs_a0 (by decide)).trans ((hg10 a0 13 0 86 hs_a0 (by decide)).trans ((hg3 a0 13 0 86 hs_a0 (by decide)).trans ((xs_k hg1 (by decide)).trans ew86))))))) dX12_truck_209 ?_
                              refine X_iload hK (i := 4) 2 dX12_truck_212 rfl ?_
                              refine X_aloadn hK (i := 0) 5 dX12_truck_214 rfl rfl ?_
                              refine X_iload hK (i := 4) 2 dX12_truck_215 rfl ?_
                              refine X_iload hK (i := 5) 0 dX12_truck_217 rfl ?_
                              refine X_callV hK [.int (iI z40579), .int (iI z42720)] [.int (iI z40579), .ref w86] lk_X12_471 (c3_comesAt _ _ _ _ _ S g42906 a0 z40579 z42720 w85 w86 w83 wr8 z28678 Q8 (xTs f8) hs_a0 (by omega) (by omega) ((xs_a hg42906 (xne hs_a0 hs_w85 (by decide))).trans ((hg40582 a0 13 0 85 hs_a0 (by decide)).trans ((xs_a hg35851 (xne hs_a0 hs_w85 (by decide))).trans ((hg28679 a0 13 0 85 hs_a0 (by decide)).trans ((hg10 a0 13 0 85 hs_a0 (by decide)).trans ((hg3 a0 13 0 85 hs_a0 (by decide)).trans ((xs_k hg1 (by decide)).trans ew85))))))) hs_w85 ((xs_a hg42906 (xne hs_a0 hs_w85 (by decide))).trans ((hg40582 a0 13 0 86 hs_a0 (by decide)).trans ((xs_a hg35851 (xne hs_a0 hs_w85 (by decide))).trans ((hg28679 a0 13 0 86 hs_a0 (by decide)).trans ((hg10 a0 13 0 86 hs_a0 (by decide)).trans ((hg3 a0 13 0 86 hs_a0 (by decide)).trans ((xs_k hg1 (by decide)).trans ew86))))))) hs_w86 ((xs_a hg42906 (xne hs_a0 hs_w85 (by decide))).trans ((hg40582 a0 13 0 83 hs_a0 (by decide)).trans ((xs_a hg35851 (xne hs_a0 hs_w85 (by decide))).trans ((hg28679 a0 13 0 83 hs_a0 (by decide)).trans ((hg10 a0 13 0 83 hs_a0 (by decide)).trans ((hg3 a0 13 0 83 hs_a0 (by decide)).trans ((xs_k hg1 (by decide)).trans ew83))))))) hs_w83 ((xs_a hg42906 (xne hs_a0 hs_w85 (by decide))).trans ((hg40582 a0 13 0 15 hs_a0 (by decide)).trans ((xs_a hg35851 (xne hs_a0 hs_w85 (by decide))).trans ((hg28679 a0 13 0 15 hs_a0 (by decide)).trans ((hg10 a0 13 0 15 hs_a0 (by decide)).trans ((hg3 a0 13 0 15 hs_a0 (by decide)).trans ((xs_k hg1 (by decide)).trans hrm10))))))) hs_wr8 (by omega) (by omega) (fun k9 q1 q2 => by rw [(Eq.trans (Eq.trans (xv_a hg42906 (xne hs_w83 hs_w85 (by decide))) (xv_m hg40582 hs_w83 (by decide) (by decide))) (xv_a hg35851 (xne hs_w83 hs_w85 (by decide))))]; exact hT9 k9 q1 q2) (by rw [(Eq.trans (Eq.trans (xv_a hg42906 (xne hs_wr8 hs_w85 (by decide))) (xv_m hg40582 hs_wr8 (by decide) (by decide))) (xv_a hg35851 (xne hs_wr8 hs_w85 (by decide))))]; exact hqr9) (xRi.kp v42839 (by omega) (fun x9 q1 q2 => (show xv g42906 w85 x9 = xv g40582 w85 x9 from by rw [(xv_k (i := x9) hg42906 (by omega) (by omega) (by omega))])) (fun x9 q1 q2 => (show xv g42906 w86 x9 = xv g40582 w86 x9 from by rw [(xv_a hg42906 (xne hs_w86 hs_w85 (by decide)))])) hF9 hW9 hB9)) hs_a0 ⟨by decide, rfl⟩ dX12_truck_219 rfl rfl (by simp [Value.category]) (by decide) (by decide) (by decide) (by decide) (fun r42907 S42909 g42908 pr42907 qr42907 hg42908 => ?_)
                              obtain ⟨rfl, rfl, z42910, rfl, lz42910, uz42910, k42911⟩ := pr42907
                              refine X_st [.int (iI z42910), .int (iI z40579), .ref w86] rfl ?_
                              refine X_iast hK hs_w86 (by decide) (by decide) sl_19200 (by omega) (by omega) (by omega) (by omega) dX12_truck_222 (fun g42912 hg42912 => ?_)
                              refine X_iloadn hK (i := 3) 1 dX12_truck_223 rfl rfl ?_
                              refine X_iconst hK dX12_truck_224 ?_
                              refine X_iload hK (i := 5) 0 dX12_truck_225 rfl ?_
                              refine X_ishl hK dX12_truck_227 (fun z42913 ez42913 lz42913 uz42913 => ?_)
                              have bz42913 := xshlB 8 ez42913 ⟨lz42913, uz42913⟩ (by omega) (by decide)
                              refine X_ior hK dX12_truck_228 (fun z42914 ez42914 lz42914 uz42914 => ?_)
                              have bz42914 := xiorB 9 ez42914 ⟨lz42914, uz42914⟩ (by omega) (by omega) (by decide)
                              have ho42915 := xorn (m := z42369) (c := z42720) (by omega) (by omega) (by rcases k42903 with q9 | q9; exact q9.2.1; omega) ez42913 ez42914 (by omega)
                              refine X_istoren hK (i := 3) [(3, .int (iI z42914)), (5, .int (iI z42720)), (4, .int (iI z40579)), (2, .int (iI z40581)), (1, .int (iI z28678)), (0, .ref a0)] dX12_truck_229 rfl (by decide) rfl ?_
                              refine X_iload hK (i := 4) 2 dX12_truck_230 rfl ?_
                              refine X_iloadn hK (i := 1) 4 dX12_truck_232 rfl rfl ?_
                              refine X_iconst hK dX12_truck_233 ?_
                              refine X_isub hK dX12_truck_234 ?_
                              refine X_icmp_ge hK 252 (by omega) (by omega) dX12_truck_235 (by decide) (fun c42916 => ?_) (fun c42916 => ?_)
                              · refine X_aloadn hK (i := 0) 5 dX12_truck_252 rfl rfl ?_
                                refine X_getK hK fl_X12_189_13 hs_a0 ((xs_a hg42912 (xne hs_a0 hs_w86 (by decide))).trans ((xs_a hg42906 (xne hs_a0 hs_w85 (by decide))).trans ((hg40582 a0 13 0 86 hs_a0 (by decide)).trans ((xs_a hg35851 (xne hs_a0 hs_w85 (by decide))).trans ((hg28679 a0 13 0 86 hs_a0 (by decide)).trans ((hg10 a0 13 0 86 hs_a0 (by decide)).trans ((hg3 a0 13 0 86 hs_a0 (by decide)).trans ((xs_k hg1 (by decide)).trans ew86)))))))) dX12_truck_253 ?_
                                refine X_iload hK (i := 4) 2 dX12_truck_256 rfl ?_
                                refine X_ialdK hK hs_w86 (by decide) (by omega) (by omega) (xs_s hg42912) dX12_truck_258 ?_
                                refine X_istoren hK (i := 2) [(2, .int (iI z42910)), (3, .int (iI z42914)), (5, .int (iI z42720)), (4, .int (iI z40579)), (1, .int (iI z28678)), (0, .ref a0)] dX12_truck_259 rfl (by decide) rfl ?_
                                refine X_iconst hK dX12_truck_260 ?_
                                refine X_istore hK (i := 6) [(6, .int (iI 0)), (2, .int (iI z42910)), (3, .int (iI z42914)), (5, .int (iI z42720)), (4, .int (iI z40579)), (1, .int (iI z28678)), (0, .ref a0)] dX12_truck_261 (by decide) rfl ?_
                                have P42952 : ∀ (nP42952 : Nat) (g42947 : xG) (_ : xM [(19000, 0)] S g42912 g42947) (z42946 : Int) (_ : 0 ≤ z42946) (_ : z42946 ≤ 9) (_ : ∀ x9, 0 ≤ x9 → x9 < z42946 → xv g42947 ty8 x9 = xTs f8 (xv g42947 w85 x9)) (_ : z42946 ≤ z28678) (_ : 25 - z42946 < (nP42952 : Int)), X K E 263 [(6, .int (iI z42946)), (2, .int (iI z42910)), (3, .int (iI z42914)), (5, .int (iI z42720)), (4, .int (iI z40579)), (1, .int (iI z28678)), (0, .ref a0)] [] S g42947 0 0 := by
                                  intro nP42952
                                  induction nP42952 with
                                  | zero => intro g42947 hg42947 z42946 lz42946 uz42946 v42953 v42954 mP42952; exact False.elim (by omega)
                                  | succ nP42952 ihP42952 =>
                                    intro g42947 hg42947 z42946 lz42946 uz42946 v42953 v42954 mP42952
                                    refine X_iload hK (i := 6) 0 dX12_truck_263 rfl ?_
                                    refine X_iloadn hK (i := 1) 5 dX12_truck_265 rfl rfl ?_
                                    refine X_icmp_ge hK 294 (by omega) (by omega) dX12_truck_266 (by decide) (fun c42955 => ?_) (fun c42955 => ?_)
                                    · refine X_goto hK 118 dX12_truck_294 (by decide) ?_
                                      refine X_lv [(4, .int (iI z40579)), (3, .int (iI z42914)), (2, .int (iI z42910)), (1, .int (iI z28678)), (0, .ref a0)] [4, 2, 1, 5, 6] rfl ?_
                                      exact ihP41761  g42947 (xM.tr (xM_ua (xM_ua (xM.tr xM.rf xLe.rf hg40582 (by decide)) hg42906 hs_w85 (by decide) (by decide)) hg42912 hs_w86 (by decide) (by decide)) xLe.rf hg42947 (by decide)) z40579 (by omega) (by omega) z42914 (by omega) (by omega) z42910 (by omega) (by omega) (by omega) (fun x q1 q2 => by rw [(show xv g42947 w85 x = xv g40582 w85 x from by rw [(xv_m hg42947 hs_w85 (by decide) (by decide)), (xv_a hg42912 (xne hs_w85 hs_w86 (by decide))), (xv_k (i := x) hg42906 (by omega) (by omega) (by omega))])]; exact v41763 x q1 q2) (fun h9 x q1 q2 => by rcases (show x < z40579 ∨ x = z40579 by omega) with c9 | c9 <;> first | (rw [c9]; have h8 := (show xv g42947 w85 z40579 = z42720 from by rw [(xv_m hg42947 hs_w85 (by decide) (by decide)), (xv_a hg42912 (xne hs_w85 hs_w86 (by decide))), xv_s hg42906 (by omega)]); omega) | (rw [(show xv g42947 w85 x = xv g40582 w85 x from by rw [(xv_m hg42947 hs_w85 (by decide) (by decide)), (xv_a hg42912 (xne hs_w85 hs_w86 (by decide))), (xv_k (i := x) hg42906 (by omega) (by omega) (by omega))])]; exact v41764 h9 x q1 (by omega))) (fun h9 => xRi.leaf (z := z42910) (by omega) v42839 (by omega) (by omega) (by rw [show xmn (xv g40582 w85) z40579.toNat = z42369.toNat by omega]; rcases k42903 with q9 | q9; exact q9.2.1; omega) (xCo9.cg k42911 (by omega) (fun x9 q1 q2 => (show xv g42906 w85 x9 = xv g40582 w85 x9 from by rw [(xv_k (i := x9) hg42906 (by omega) (by omega) (by omega))]))) (by rcases k42903 with ⟨_, _, z9, c1, c2, c3⟩ | q9; (have h8 := xCo9.in c1 (xCo9.cg k42911 (by omega) (fun x9 q1 q2 => (show xv g42906 w85 x9 = xv g40582 w85 x9 from by rw [(xv_k (i := x9) hg42906 (by omega) (by omega) (by omega))]))); omega); omega) (by rcases k42903 with ⟨_, _, z9, c1, c2, c3⟩ | q9; (have h8 := xCo9.in c1 (xCo9.cg k42911 (by omega) (fun x9 q1 q2 => (show xv g42906 w85 x9 = xv g40582 w85 x9 from by rw [(xv_k (i := x9) hg42906 (by omega) (by omega) (by omega))]))); omega); omega) (show xv g42947 w85 z40579 = z42720 from by rw [(xv_m hg42947 hs_w85 (by decide) (by decide)), (xv_a hg42912 (xne hs_w85 hs_w86 (by decide))), xv_s hg42906 (by omega)]) (fun i9 hi9 h09 => (show xv g42947 w85 i9 = xv g40582 w85 i9 from by rw [(xv_m hg42947 hs_w85 (by decide) (by decide)), (xv_a hg42912 (xne hs_w85 hs_w86 (by decide))), (xv_k (i := i9) hg42906 (by omega) (by omega) (by omega))])) (fun x9 q1 q2 => (show xv g42947 w86 x9 = xv g40582 w86 x9 from by rw [(xv_m hg42947 hs_w86 (by decide) (by decide)), (xv_k (i := x9) hg42912 (by omega) (by omega) (by omega)), (xv_a hg42906 (xne hs_w86 hs_w85 (by decide)))])) (fun x9 q1 q2 => v42953 x9 q1 (by omega)) (by omega)) (fun h9 => by omega) (by omega) (by have h9 := xdm_adv (f := xv g40582 w85) (f' := xv g42947 w85) (k := z40579) (i := z42720) (by omega) (by omega) (by omega) (show xv g42947 w85 z40579 = z42720 from by rw [(xv_m hg42947 hs_w85 (by decide) (by decide)), (xv_a hg42912 (xne hs_w85 hs_w86 (by decide))), xv_s hg42906 (by omega)]) (fun x q1 q2 => (show xv g42947 w85 x = xv g40582 w85 x from by rw [(xv_m hg42947 hs_w85 (by decide) (by decide)), (xv_a hg42912 (xne hs_w85 hs_w86 (by decide))), (xv_k (i := x) hg42906 (by omega) (by omega) (by omega))])); omega)
                                    · refine X_aloadn hK (i := 0) 6 dX12_truck_269 rfl rfl ?_
                                      refine X_getK hK fl_X12_183_13 hs_a0 ((hg42947 a0 13 0 84 hs_a0 (by decide)).trans ((xs_a hg42912 (xne hs_a0 hs_w86 (by decide))).trans ((xs_a hg42906 (xne hs_a0 hs_w85 (by decide))).trans ((hg40582 a0 13 0 84 hs_a0 (by decide)).trans ((xs_a hg35851 (xne hs_a0 hs_w85 (by decide))).trans ((hg28679 a0 13 0 84 hs_a0 (by decide)).trans ((hg10 a0 13 0 84 hs_a0 (by decide)).trans ((hg3 a0 13 0 84 hs_a0 (by decide)).trans ((xs_k hg1 (by decide)).trans hrm2))))))))) dX12_truck_270 ?_
                                      refine X_iload hK (i := 6) 0 dX12_truck_273 rfl ?_
                                      refine X_aloadn hK (i := 0) 6 dX12_truck_275 rfl rfl ?_
                                      refine X_getK hK fl_X12_180_13 hs_a0 ((hg42947 a0 13 0 83 hs_a0 (by decide)).trans ((xs_a hg42912 (xne hs_a0 hs_w86 (by decide))).trans ((xs_a hg42906 (xne hs_a0 hs_w85 (by decide))).trans ((hg40582 a0 13 0 83 hs_a0 (by decide)).trans ((xs_a hg35851 (xne hs_a0 hs_w85 (by decide))).trans ((hg28679 a0 13 0 83 hs_a0 (by decide)).trans ((hg10 a0 13 0 83 hs_a0 (by decide)).trans ((hg3 a0 13 0 83 hs_a0 (by decide)).trans ((xs_k hg1 (by decide)).trans ew83))))))))) dX12_truck_276 ?_
                                      refine X_aloadn hK (i := 0) 6 dX12_truck_279 rfl rfl ?_
                                      refine X_getK hK fl_X12_186_13 hs_a0 ((hg42947 a0 13 0 85 hs_a0 (by decide)).trans ((xs_a hg42912 (xne hs_a0 hs_w86 (by decide))).trans ((xs_a hg42906 (xne hs_a0 hs_w85 (by decide))).trans ((hg40582 a0 13 0 85 hs_a0 (by decide)).trans ((xs_a hg35851 (xne hs_a0 hs_w85 (by decide))).trans ((hg28679 a0 13 0 85 hs_a0 (by decide)).trans ((hg10 a0 13 0 85 hs_a0 (by decide)).trans ((hg3 a0 13 0 85 hs_a0 (by decide)).trans ((xs_k hg1 (by decide)).trans ew85))))))))) dX12_truck_280 ?_
                                      refine X_iload hK (i := 6) 0 dX12_truck_283 rfl ?_
                                      refine X_iald hK hs_w85 (by decide) sl_19100 (by omega) (by omega) dX12_truck_285 (fun z42956 ez42956 lz42956 uz42956 => ?_)
                                      have ehz42957 : xv g42947 w85 z42946 = z42956 := xv_e (j := z42946) ez42956 (by omega)
                                      have hz42957 : 0 ≤ z42956 ∧ z42956 < z28678 := by have h7 := ehz42957; rcases (show z42946 < z40579 ∨ z42946 = z40579 by omega) with c9 | c9 <;> first | (have h8 := (show xv g42947 w85 z42946 = xv g40582 w85 z42946 from by rw [(xv_m hg42947 hs_w85 (by decide) (by decide)), (xv_a hg42912 (xne hs_w85 hs_w86 (by decide))), (xv_k (i := z42946) hg42906 (by omega) (by omega) (by omega))]); have h6 := v41763 z42946 (by omega) c9; have h5 := v41764 (by omega) z42946 (by omega) (by omega); omega) | (rw [c9] at h7; have h8 := (show xv g42947 w85 z40579 = z42720 from by rw [(xv_m hg42947 hs_w85 (by decide) (by decide)), (xv_a hg42912 (xne hs_w85 hs_w86 (by decide))), xv_s hg42906 (by omega)]); omega)
                                      refine X_iald hK hs_w83 (by decide) sl_18900 (by omega) (by omega) dX12_truck_286 (fun z42958 ez42958 lz42958 uz42958 => ?_)
                                      have ht42959 : xTs f8 z42956 = z42958 := ((fun k9 q1 q2 => by rw [(Eq.trans (Eq.trans (Eq.trans (Eq.trans (xv_m hg42947 hs_w83 (by decide) (by decide)) (xv_a hg42912 (xne hs_w83 hs_w86 (by decide)))) (xv_a hg42906 (xne hs_w83 hs_w85 (by decide)))) (xv_m hg40582 hs_w83 (by decide) (by decide))) (xv_a hg35851 (xne hs_w83 hs_w85 (by decide))))]; exact hT9 k9 q1 q2) z42956 (by omega) (by omega)).1.symm.trans (xv_e (j := z42956) ez42958 (by omega))
                                      refine X_iast hK hs_ty8 (by decide) (by decide) sl_19000 (by omega) (by omega) (by omega) (by omega) dX12_truck_287 (fun g42960 hg42960 => ?_)
                                      refine X_iinc hK (i := 6) (z := z42946) (n := 1) 0 [(6, .int (iI (z42946 + 1))), (2, .int (iI z42910)), (3, .int (iI z42914)), (5, .int (iI z42720)), (4, .int (iI z40579)), (1, .int (iI z28678)), (0, .ref a0)] dX12_truck_288 rfl (by decide) rfl ?_
                                      refine X_goto hK 263 dX12_truck_291 (by decide) ?_
                                      exact ihP42952  g42960 (xM_ua (xM.tr xM.rf xLe.rf hg42947 (by decide)) hg42960 hs_ty8 (by decide) (by decide)) (z42946 + 1) (by omega) (by omega) (fun x9 q1 q2 => by rw [(xv_a hg42960 (xne hs_w85 hs_ty8 (by decide)))]; by_cases e9 : x9 = z42946; (rw [e9, (show xv g42960 ty8 z42946 = z42958 from by rw [xv_s hg42960 (by omega)]), (show xv g42947 w85 z42946 = _ from ehz42957), ht42959]); (rw [(show xv g42960 ty8 x9 = xv g42947 ty8 x9 from by rw [(xv_k (i := x9) hg42960 (by omega) (by omega) (by omega))])]; exact v42953 x9 q1 (by omega))) (by omega) (by omega)
                                exact P42952 ((25 - 0 : Int).toNat + 1) g42912 xM.rf 0 (by omega) (by omega) (fun x9 q1 q2 => by omega) (by omega) (by omega)
                              · refine X_iinc hK (i := 4) (z := z40579) (n := 1) 2 [(4, .int (iI (z40579 + 1))), (3, .int (iI z42914)), (5, .int (iI z42720)), (2, .int (iI z40581)), (1, .int (iI z28678)), (0, .ref a0)] dX12_truck_238 rfl (by decide) rfl ?_
                                refine X_aloadn hK (i := 0) 5 dX12_truck_241 rfl rfl ?_
                                refine X_getK hK fl_X12_186_13 hs_a0 ((xs_a hg42912 (xne hs_a0 hs_w86 (by decide))).trans ((xs_a hg42906 (xne hs_a0 hs_w85 (by decide))).trans ((hg40582 a0 13 0 85 hs_a0 (by decide)).trans ((xs_a hg35851 (xne hs_a0 hs_w85 (by decide))).trans ((hg28679 a0 13 0 85 hs_a0 (by decide)).trans ((hg10 a0 13 0 85 hs_a0 (by decide)).trans ((hg3 a0 13 0 85 hs_a0 (by decide)).trans ((xs_k hg1 (by decide)).trans ew85)))))))) dX12_truck_242 ?_
                                refine X_iload hK (i := 4) 0 dX12_truck_245 rfl ?_
                                refine X_iconst hK dX12_truck_247 ?_
                                refine X_iast hK hs_w85 (by decide) (by decide) sl_19100 (by omega) (by omega) (by omega) (by omega) dX12_truck_248 (fun g42961 hg42961 => ?_)
                                refine X_goto hK 118 dX12_truck_249 (by decide) ?_
                                refine X_lv [(4, .int (iI (z40579 + 1))), (3, .int (iI z42914)), (2, .int (iI z40581)), (1, .int (iI z28678)), (0, .ref a0)] [0, 1, 3, 4, 5] rfl ?_
                                exact ihP41761  g42961 (xM_ua (xM_ua (xM_ua (xM.tr xM.rf xLe.rf hg40582 (by decide)) hg42906 hs_w85 (by decide) (by decide)) hg42912 hs_w86 (by decide) (by decide)) hg42961 hs_w85 (by decide) (by decide)) (z40579 + 1) (by omega) (by omega) z42914 (by omega) (by omega) z40581 (by omega) (by omega) (by omega) (fun x q1 q2 => by rcases (show x < z40579 ∨ x = z40579 by omega) with c9 | c9 <;> first | (rw [c9]; have h8 := (show xv g42961 w85 z40579 = z42720 from by rw [(xv_k (i := z40579) hg42961 (by omega) (by omega) (by omega)), (xv_a hg42912 (xne hs_w85 hs_w86 (by decide))), xv_s hg42906 (by omega)]); omega) | (rw [(show xv g42961 w85 x = xv g40582 w85 x from by rw [(xv_k (i := x) hg42961 (by omega) (by omega) (by omega)), (xv_a hg42912 (xne hs_w85 hs_w86 (by decide))), (xv_k (i := x) hg42906 (by omega) (by omega) (by omega))])]; exact v41763 x q1 c9)) (fun h9 x q1 q2 => by rcases (show x < z40579 ∨ x = z40579 ∨ x = (z40579 + 1) by omega) with c9 | c9 | c9 <;> first | (rw [c9]; have h8 := (show xv g42961 w85 z40579 = z42720 from by rw [(xv_k (i := z40579) hg42961 (by omega) (by omega) (by omega)), (xv_a hg42912 (xne hs_w85 hs_w86 (by decide))), xv_s hg42906 (by omega)]); omega) | (rw [c9]; have h8 := (show xv g42961 w85 (z40579 + 1) = (-1) from by rw [xv_s hg42961 (by omega)]); omega) | (rw [(show xv g42961 w85 x = xv g40582 w85 x from by rw [(xv_k (i := x) hg42961 (by omega) (by omega) (by omega)), (xv_a hg42912 (xne hs_w85 hs_w86 (by decide))), (xv_k (i := x) hg42906 (by omega) (by omega) (by omega))])]; exact v41764 h9 x q1 (by omega))) (fun h9 => xRi.push (z := z42910) (by omega) v42839 (by omega) (by omega) (by rw [show xmn (xv g40582 w85) z40579.toNat = z42369.toNat by omega]; rcases k42903 with q9 | q9; exact q9.2.1; omega) (xCo9.cg k42911 (by omega) (fun x9 q1 q2 => (show xv g42906 w85 x9 = xv g40582 w85 x9 from by rw [(xv_k (i := x9) hg42906 (by omega) (by omega) (by omega))]))) (by rcases k42903 with ⟨_, _, z9, c1, c2, c3⟩ | q9; (have h8 := xCo9.in c1 (xCo9.cg k42911 (by omega) (fun x9 q1 q2 => (show xv g42906 w85 x9 = xv g40582 w85 x9 from by rw [(xv_k (i := x9) hg42906 (by omega) (by omega) (by omega))]))); omega); omega) (show xv g42961 w85 z40579 = z42720 from by rw [(xv_k (i := z40579) hg42961 (by omega) (by omega) (by omega)), (xv_a hg42912 (xne hs_w85 hs_w86 (by decide))), xv_s hg42906 (by omega)]) (fun i9 hi9 h09 h19 => (show xv g42961 w85 i9 = xv g40582 w85 i9 from by rw [(xv_k (i := i9) hg42961 (by omega) (by omega) (by omega)), (xv_a hg42912 (xne hs_w85 hs_w86 (by decide))), (xv_k (i := i9) hg42906 (by omega) (by omega) (by omega))])) (show xv g42961 w85 (z40579 + 1) = (-1) from by rw [xv_s hg42961 (by omega)]) (show xv g42961 w86 z40579 = z42910 from by rw [(xv_a hg42961 (xne hs_w86 hs_w85 (by decide))), xv_s hg42912 (by omega)]) (fun i9 hi9 h09 => (show xv g42961 w86 i9 = xv g40582 w86 i9 from by rw [(xv_a hg42961 (xne hs_w86 hs_w85 (by decide))), (xv_k (i := i9) hg42912 (by omega) (by omega) (by omega)), (xv_a hg42906 (xne hs_w86 hs_w85 (by decide)))])) (fun x9 _ => by rw [(Eq.trans (Eq.trans (xv_a hg42961 (xne hs_ty8 hs_w85 (by decide))) (xv_a hg42912 (xne hs_ty8 hs_w86 (by decide)))) (xv_a hg42906 (xne hs_ty8 hs_w85 (by decide))))]) (by omega)) (fun h9 x9 q1 q2 => by rw [(Eq.trans (Eq.trans (xv_a hg42961 (xne hs_ty8 hs_w85 (by decide))) (xv_a hg42912 (xne hs_ty8 hs_w86 (by decide)))) (xv_a hg42906 (xne hs_ty8 hs_w85 (by decide))))]; exact v41766 h9 x9 q1 q2) (by omega) (by have h9 := xdm_push (f := xv g40582 w85) (f' := xv g42961 w85) (k := z40579) (i := z42720) (by omega) (by omega) (by omega) (show xv g42961 w85 z40579 = z42720 from by rw [(xv_k (i := z40579) hg42961 (by omega) (by omega) (by omega)), (xv_a hg42912 (xne hs_w85 hs_w86 (by decide))), xv_s hg42906 (by omega)]) (show xv g42961 w85 (z40579 + 1) = (-1) from by rw [xv_s hg42961 (by omega)]) (fun x q1 q2 => (show xv g42961 w85 x = xv g40582 w85 x from by rw [(xv_k (i := x) hg42961 (by omega) (by omega) (by omega)), (xv_a hg42912 (xne hs_w85 hs_w86 (by decide))), (xv_k (i := x) hg42906 (by omega) (by omega) (by omega))])); omega)
                            · refine X_iinc hK (i := 4) (z := z40579) (n := (-1)) 2 [(4, .int (iI (z40579 + (-1)))), (5, .int (iI z42720)), (3, .int (iI z42369)), (2, .int (iI z40581)), (1, .int (iI z28678)), (0, .ref a0)] dX12_truck_193 rfl (by decide) rfl ?_
                              refine X_goto hK 118 dX12_truck_196 (by decide) ?_
                              refine X_lv [(4, .int (iI (z40579 + (-1)))), (3, .int (iI z42369)), (2, .int (iI z40581)), (1, .int (iI z28678)), (0, .ref a0)] [0, 2, 3, 4, 5] rfl ?_
                              exact ihP41761  g40582 (xM.tr xM.rf xLe.rf hg40582 (by decide)) (z40579 + (-1)) (by omega) (by omega) z42369 (by omega) (by omega) z40581 (by omega) (by omega) (by omega) (fun x q1 q2 => v41763 x q1 (by omega)) (fun h9 x q1 q2 => v41764 h9 x q1 (by omega)) (fun h9 => by have h8 := v42839; rw [show z42720 = z28678 by omega] at h8; have h7 := xRi.pop h8 (by omega) (by omega); rw [← v42840] at h7; exact h7) v41766 (by omega) (by have h9 := xdm_pop (f := xv g40582 w85) (k := z40579) (by omega); omega)
                          · refine X_iinc hK (i := 5) (z := z42720) (n := 1) 0 [(5, .int (iI (z42720 + 1))), (3, .int (iI z42369)), (4, .int (iI z40579)), (2, .int (iI z40581)), (1, .int (iI z28678)), (0, .ref a0)] dX12_truck_181 rfl (by decide) rfl ?_
                            refine X_goto hK 162 dX12_truck_184 (by decide) ?_
                            exact ihP42836  (z42720 + 1) (by omega) (by omega) (by omega) (by omega) (xRi.skip v42839 (by omega) (by omega) (by omega) hW9 (by rcases k42903 with q9 | q9; omega; exact q9.2.imp (fun w9 => by rw [show xmn (xv g40582 w85) z40579.toNat = z42369.toNat by omega]; exact w9) (fun w9 => w9))) (by omega) (by omega)
                    exact P42836 ((25 - (z41773 + 1) : Int).toNat + 1) (z41773 + 1) (by omega) (by omega) (by omega) (by omega) (by have h9 := xRk.ri (v41765 (by omega)) (by omega); rw [hw41774] at h9; exact h9) (by have h9 := hh42370.2.2; have h8 := nhh42370; omega) (by omega)
            exact P41761 ((((xdm (xv g35851 w85) 0 : Nat) : Int) : Int).toNat + 1) g35851 xM.rf 0 (by omega) (by omega) 0 (by omega) (by omega) 100000 (by omega) (by omega) (by omega) (fun x q1 q2 => by omega) (fun h9 x q1 q2 => by rw [show x = 0 by omega]; have h8 := (show xv g35851 w85 0 = (-1) from by rw [xv_s hg35851 (by omega)]); omega) (fun h9 => xRk.z (by omega) (show xv g35851 w85 0 = (-1) from by rw [xv_s hg35851 (by omega)])) (fun _ x9 _ _ => by rw [(Eq.trans (Eq.trans (Eq.trans (Eq.trans (xv_a hg35851 (xne hs_ty8 hs_w85 (by decide))) (xv_m hg28679 hs_ty8 (by decide) (by decide))) (xv_m hg10 hs_ty8 (by decide) (by decide))) (xv_m hg3 hs_ty8 (by decide) (by decide))) (xv_a hg1 (xne hs_ty8 hs_a0 (by decide))))]) (by omega) (by omega)
          · refine X_iconst hK dX12_truck_94 ?_
            refine X_goto hK 101 dX12_truck_95 (by decide) ?_
            refine X_istoren hK (i := 2) [(2, .int (iI 0)), (1, .int (iI z28678)), (0, .ref a0)] dX12_truck_101 rfl (by decide) rfl ?_
            refine X_iconst hK dX12_truck_102 ?_
            refine X_istoren hK (i := 3) [(3, .int (iI 0)), (2, .int (iI 0)), (1, .int (iI z28678)), (0, .ref a0)] dX12_truck_103 rfl (by decide) rfl ?_
            refine X_iconst hK dX12_truck_104 ?_
            refine X_istore hK (i := 4) [(4, .int (iI 0)), (3, .int (iI 0)), (2, .int (iI 0)), (1, .int (iI z28678)), (0, .ref a0)] dX12_truck_105 (by decide) rfl ?_
            refine X_iloadn hK (i := 1) 3 dX12_truck_107 rfl rfl ?_
            refine X_if_le hK 118 (by omega) dX12_truck_108 (by decide) (fun c42962 => ?_) (fun c42962 => False.elim (by omega))
            have P43007 : ∀ (nP43007 : Nat) (z42996 : Int) (_ : (-1) ≤ z42996) (_ : z42996 ≤ 8) (z42997 : Int) (_ : 0 ≤ z42997) (_ : z42997 ≤ 511) (z42998 : Int) (_ : 0 ≤ z42998) (_ : z42998 ≤ 100000) (_ : z42996 < z28678 ∨ z28678 = 0) (_ : ∀ x, 0 ≤ x → x < z42996 → 0 ≤ xv g28679 w85 x) (_ : 0 < z28678 → ∀ x, 0 ≤ x → x ≤ z42996 → xv g28679 w85 x < z28678) (_ : 0 < z28678 → xRk z28678 (xF9 Q8 (xTs f8)) (xW9 Q8 (xTs f8)) (xTb9 f8) (xTs f8) z42996 z42997 z42998 (xv g28679 w85) (xv g28679 w86) (xv g28679 ty8)) (_ : z42998 = 100000 → ∀ x9, 0 ≤ x9 → x9 < 9 → xv g28679 ty8 x9 = xv g ty8 x9) (_ : z28678 = 0 → z42998 = 0) (_ : ((xdm (xv g28679 w85) z42996 : Nat) : Int) < (nP43007 : Int)), X K E 118 [(4, .int (iI z42996)), (3, .int (iI z42997)), (2, .int (iI z42998)), (1, .int (iI z28678)), (0, .ref a0)] [] S g28679 0 0 := by
              intro nP43007
              induction nP43007 with
              | zero => intro z42996 lz42996 uz42996 z42997 lz42997 uz42997 z42998 lz42998 uz42998 v43008 v43009 v43010 v43011 v43012 v43013 mP43007; exact False.elim (by omega)
              | succ nP43007 ihP43007 =>
                intro z42996 lz42996 uz42996 z42997 lz42997 uz42997 z42998 lz42998 uz42998 v43008 v43009 v43010 v43011 v43012 v43013 mP43007
                refine X_iload hK (i := 4) 0 dX12_truck_118 rfl ?_
                refine X_if_lt hK 297 (by omega) dX12_truck_120 (by decide) (fun c43014 => ?_) (fun c43014 => ?_)
                · refine X_iloadn hK (i := 2) 2 dX12_truck_297 rfl rfl ?_
                  refine X_ldcw hK (n := 100000) dX12_truck_298 m_55_15 (by decide) ?_
                  refine X_icmp_ne hK 306 (by omega) (by omega) dX12_truck_301 (by decide) (fun c43015 => ?_) (fun c43015 => ?_)
                  · refine X_aloadn hK (i := 0) 4 dX12_truck_306 rfl rfl ?_
                    refine X_iloadn hK (i := 1) 3 dX12_truck_307 rfl rfl ?_
                    refine X_puti hK fl_X12_474_13 hs_a0 (by decide) sl_13_87 (by omega) (by omega) dX12_truck_308 (fun g43016 hg43016 => ?_)
                    refine X_aloadn hK (i := 0) 4 dX12_truck_311 rfl rfl ?_
                    refine X_iconst hK dX12_truck_312 ?_
                    refine X_putz hK fl_X12_477_13 hs_a0 (by decide) sl_13_88 (by omega) (by omega) dX12_truck_313 (fun g43017 hg43017 => ?_)
                    refine X_iloadn hK (i := 2) 2 dX12_truck_316 rfl rfl ?_
                    exact hret _ _ _ _ _ _ _ dX12_truck_317 ⟨rfl, z42998, rfl, (by omega), (by omega), (((xs_k hg43017 (by decide)).trans ((xs_k hg43016 (by decide)).trans ((hg28679 a0 13 0 2 hs_a0 (by decide)).trans ((hg10 a0 13 0 2 hs_a0 (by decide)).trans k7)))).trans (by congr 2 <;> omega)), ⟨z28678, xv g43017 ty8, ⟨ty8, wr8, z28678, 1, 1, hs_a0, ((xs_k hg43017 (by decide)).trans ((xs_k hg43016 (by decide)).trans ((hg28679 a0 13 0 84 hs_a0 (by decide)).trans ((hg10 a0 13 0 84 hs_a0 (by decide)).trans ((hg3 a0 13 0 84 hs_a0 (by decide)).trans ((xs_k hg1 (by decide)).trans hrm2)))))), hs_ty8, ((xs_k hg43017 (by decide)).trans (xs_s hg43016)), by omega, by omega, (xs_s hg43017), (Or.inr ⟨rfl, rfl⟩), rfl, ((xs_k hg43017 (by decide)).trans ((xs_k hg43016 (by decide)).trans ((hg28679 a0 13 0 15 hs_a0 (by decide)).trans ((hg10 a0 13 0 15 hs_a0 (by decide)).trans ((hg3 a0 13 0 15 hs_a0 (by decide)).trans ((xs_k hg1 (by decide)).trans hrm10)))))), hs_wr8, ((xs_k hg43017 (by decide)).trans ((xs_k hg43016 (by decide)).trans ((hg28679 a0 13 0 18 hs_a0 (by decide)).trans k12))), (Or.inr ⟨rfl, (by rw [(Eq.trans (xv_a hg43017 (xne hs_wr8 hs_a0 (by decide))) (xv_a hg43016 (xne hs_wr8 hs_a0 (by decide))))]; exact hqr9)⟩)⟩, (Or.inr ⟨by omega, by rcases (show z28678 = 0 ∨ 0 < z28678 by omega) with c9 | c9; (have h9 := v43013 c9; exact Or.inl ⟨by omega, by omega, by omega⟩); (rcases (xRk.fin (by omega) (fun i9 q1 q2 => by have h9 := hB9 i9 q1 q2; omega) (by have h9 := v43011 c9; rw [show z42996 = -1 by omega] at h9; exact h9)) with ⟨h8, _⟩ | ⟨_, c8, h8, h7⟩; omega; exact Or.inr (Or.inr ⟨by omega, hnn, c8, (by rw [← hnn]; exact h8), (by rw [← hnn]; rw [(Eq.trans (xv_a hg43017 (xne hs_ty8 hs_a0 (by decide))) (xv_a hg43016 (xne hs_ty8 hs_a0 (by decide))))]; exact h7)⟩))⟩)⟩⟩ (Nat.le_refl _) (Nat.le_refl _)
                  · refine X_iconst hK dX12_truck_304 ?_
                    exact hret _ _ _ _ _ _ _ dX12_truck_305 ⟨rfl, (-1), rfl, (by omega), (by omega), (((hg28679 a0 13 0 2 hs_a0 (by decide)).trans ((hg10 a0 13 0 2 hs_a0 (by decide)).trans k7)).trans (by congr 2 <;> omega)), ⟨n8, xv g28679 ty8, ⟨ty8, wr8, m8, z8, 1, hs_a0, ((hg28679 a0 13 0 84 hs_a0 (by decide)).trans ((hg10 a0 13 0 84 hs_a0 (by decide)).trans ((hg3 a0 13 0 84 hs_a0 (by decide)).trans ((xs_k hg1 (by decide)).trans hrm2)))), hs_ty8, ((hg28679 a0 13 0 87 hs_a0 (by decide)).trans ((hg10 a0 13 0 87 hs_a0 (by decide)).trans ((hg3 a0 13 0 87 hs_a0 (by decide)).trans ((xs_k hg1 (by decide)).trans hrm4)))), by omega, by omega, ((hg28679 a0 13 0 88 hs_a0 (by decide)).trans ((hg10 a0 13 0 88 hs_a0 (by decide)).trans ((hg3 a0 13 0 88 hs_a0 (by decide)).trans ((xs_k hg1 (by decide)).trans hrm7)))), hrm8, rfl, ((hg28679 a0 13 0 15 hs_a0 (by decide)).trans ((hg10 a0 13 0 15 hs_a0 (by decide)).trans ((hg3 a0 13 0 15 hs_a0 (by decide)).trans ((xs_k hg1 (by decide)).trans hrm10)))), hs_wr8, ((hg28679 a0 13 0 18 hs_a0 (by decide)).trans k12), (Or.inr ⟨rfl, hqr9⟩)⟩, (Or.inr ⟨by omega, by rcases (show z28678 = 0 ∨ 0 < z28678 by omega) with c9 | c9; (have h9 := v43013 c9; omega); (rcases (xRk.fin (by omega) (fun i9 q1 q2 => by have h9 := hB9 i9 q1 q2; omega) (by have h9 := v43011 c9; rw [show z42996 = -1 by omega] at h9; exact h9)) with ⟨_, h8⟩ | ⟨h8, _⟩; (exact Or.inr (Or.inl ⟨by omega, rfl, rfl, (fun x9 q1 q2 => by rw [v43012 (by omega) x9 q1 q2, hY8]), by rw [← hnn]; exact h8⟩)); omega)⟩)⟩⟩ (Nat.le_refl _) (Nat.le_refl _)
                · refine X_iloadn hK (i := 1) 3 dX12_truck_123 rfl rfl ?_
                  refine X_if_le hK 297 (by omega) dX12_truck_124 (by decide) (fun c43018 => ?_) (fun c43018 => False.elim (by omega))
                  refine X_iloadn hK (i := 2) 2 dX12_truck_297 rfl rfl ?_
                  refine X_ldcw hK (n := 100000) dX12_truck_298 m_55_15 (by decide) ?_
                  refine X_icmp_ne hK 306 (by omega) (by omega) dX12_truck_301 (by decide) (fun c43019 => ?_) (fun c43019 => ?_)
                  · refine X_aloadn hK (i := 0) 4 dX12_truck_306 rfl rfl ?_
                    refine X_iloadn hK (i := 1) 3 dX12_truck_307 rfl rfl ?_
                    refine X_puti hK fl_X12_474_13 hs_a0 (by decide) sl_13_87 (by omega) (by omega) dX12_truck_308 (fun g43020 hg43020 => ?_)
                    refine X_aloadn hK (i := 0) 4 dX12_truck_311 rfl rfl ?_
                    refine X_iconst hK dX12_truck_312 ?_
                    refine X_putz hK fl_X12_477_13 hs_a0 (by decide) sl_13_88 (by omega) (by omega) dX12_truck_313 (fun g43021 hg43021 => ?_)
                    refine X_iloadn hK (i := 2) 2 dX12_truck_316 rfl rfl ?_
                    exact hret _ _ _ _ _ _ _ dX12_truck_317 ⟨rfl, z42998, rfl, (by omega), (by omega), (((xs_k hg43021 (by decide)).trans ((xs_k hg43020 (by decide)).trans ((hg28679 a0 13 0 2 hs_a0 (by decide)).trans ((hg10 a0 13 0 2 hs_a0 (by decide)).trans k7)))).trans (by congr 2 <;> omega)), ⟨z28678, xv g43021 ty8, ⟨ty8, wr8, z28678, 1, 1, hs_a0, ((xs_k hg43021 (by decide)).trans ((xs_k hg43020 (by decide)).trans ((hg28679 a0 13 0 84 hs_a0 (by decide)).trans ((hg10 a0 13 0 84 hs_a0 (by decide)).trans ((hg3 a0 13 0 84 hs_a0 (by decide)).trans ((xs_k hg1 (by decide)).trans hrm2)))))), hs_ty8, ((xs_k hg43021 (by decide)).trans (xs_s hg43020)), by omega, by omega, (xs_s hg43021), (Or.inr ⟨rfl, rfl⟩), rfl, ((xs_k hg43021 (by decide)).trans ((xs_k hg43020 (by decide)).trans ((hg28679 a0 13 0 15 hs_a0 (by decide)).trans ((hg10 a0 13 0 15 hs_a0 (by decide)).trans ((hg3 a0 13 0 15 hs_a0 (by decide)).trans ((xs_k hg1 (by decide)).trans hrm10)))))), hs_wr8, ((xs_k hg43021 (by decide)).trans ((xs_k hg43020 (by decide)).trans ((hg28679 a0 13 0 18 hs_a0 (by decide)).trans k12))), (Or.inr ⟨rfl, (by rw [(Eq.trans (xv_a hg43021 (xne hs_wr8 hs_a0 (by decide))) (xv_a hg43020 (xne hs_wr8 hs_a0 (by decide))))]; exact hqr9)⟩)⟩, (Or.inr ⟨by omega, by rcases (show z28678 = 0 ∨ 0 < z28678 by omega) with c9 | c9; (have h9 := v43013 c9; exact Or.inl ⟨by omega, by omega, by omega⟩); (rcases (xRk.fin (by omega) (fun i9 q1 q2 => by have h9 := hB9 i9 q1 q2; omega) (by have h9 := v43011 c9; rw [show z42996 = -1 by omega] at h9; exact h9)) with ⟨h8, _⟩ | ⟨_, c8, h8, h7⟩; omega; exact Or.inr (Or.inr ⟨by omega, hnn, c8, (by rw [← hnn]; exact h8), (by rw [← hnn]; rw [(Eq.trans (xv_a hg43021 (xne hs_ty8 hs_a0 (by decide))) (xv_a hg43020 (xne hs_ty8 hs_a0 (by decide))))]; exact h7)⟩))⟩)⟩⟩ (Nat.le_refl _) (Nat.le_refl _)
                  · refine X_iconst hK dX12_truck_304 ?_
                    exact hret _ _ _ _ _ _ _ dX12_truck_305 ⟨rfl, (-1), rfl, (by omega), (by omega), (((hg28679 a0 13 0 2 hs_a0 (by decide)).trans ((hg10 a0 13 0 2 hs_a0 (by decide)).trans k7)).trans (by congr 2 <;> omega)), ⟨n8, xv g28679 ty8, ⟨ty8, wr8, m8, z8, 1, hs_a0, ((hg28679 a0 13 0 84 hs_a0 (by decide)).trans ((hg10 a0 13 0 84 hs_a0 (by decide)).trans ((hg3 a0 13 0 84 hs_a0 (by decide)).trans ((xs_k hg1 (by decide)).trans hrm2)))), hs_ty8, ((hg28679 a0 13 0 87 hs_a0 (by decide)).trans ((hg10 a0 13 0 87 hs_a0 (by decide)).trans ((hg3 a0 13 0 87 hs_a0 (by decide)).trans ((xs_k hg1 (by decide)).trans hrm4)))), by omega, by omega, ((hg28679 a0 13 0 88 hs_a0 (by decide)).trans ((hg10 a0 13 0 88 hs_a0 (by decide)).trans ((hg3 a0 13 0 88 hs_a0 (by decide)).trans ((xs_k hg1 (by decide)).trans hrm7)))), hrm8, rfl, ((hg28679 a0 13 0 15 hs_a0 (by decide)).trans ((hg10 a0 13 0 15 hs_a0 (by decide)).trans ((hg3 a0 13 0 15 hs_a0 (by decide)).trans ((xs_k hg1 (by decide)).trans hrm10)))), hs_wr8, ((hg28679 a0 13 0 18 hs_a0 (by decide)).trans k12), (Or.inr ⟨rfl, hqr9⟩)⟩, (Or.inr ⟨by omega, by rcases (show z28678 = 0 ∨ 0 < z28678 by omega) with c9 | c9; (have h9 := v43013 c9; omega); (rcases (xRk.fin (by omega) (fun i9 q1 q2 => by have h9 := hB9 i9 q1 q2; omega) (by have h9 := v43011 c9; rw [show z42996 = -1 by omega] at h9; exact h9)) with ⟨_, h8⟩ | ⟨h8, _⟩; (exact Or.inr (Or.inl ⟨by omega, rfl, rfl, (fun x9 q1 q2 => by rw [v43012 (by omega) x9 q1 q2, hY8]), by rw [← hnn]; exact h8⟩)); omega)⟩)⟩⟩ (Nat.le_refl _) (Nat.le_refl _)
            exact P43007 ((((xdm (xv g28679 w85) 0 : Nat) : Int) : Int).toNat + 1) 0 (by omega) (by omega) 0 (by omega) (by omega) 0 (by omega) (by omega) (by omega) (fun x q1 q2 => by omega) (fun h9 => by omega) (fun h9 => by omega) (fun _ x9 _ _ => by rw [(Eq.trans (Eq.trans (Eq.trans (xv_m hg28679 hs_ty8 (by decide) (by decide)) (xv_m hg10 hs_ty8 (by decide) (by decide))) (xv_m hg3 hs_ty8 (by decide) (by decide))) (xv_a hg1 (xne hs_ty8 hs_a0 (by decide))))]) (by omega) (by omega)
        · refine X_aloadn hK (i := 0) 2 dX12_truck_30 rfl rfl ?_
          refine X_getK hK fl_X12_177_13 hs_a0 ((hg28679 a0 13 0 82 hs_a0 (by decide)).trans ((hg10 a0 13 0 82 hs_a0 (by decide)).trans ((hg3 a0 13 0 82 hs_a0 (by decide)).trans ((xs_k hg1 (by decide)).trans ew82)))) dX12_truck_31 ?_
          refine X_iloadn hK (i := 2) 0 dX12_truck_34 rfl rfl ?_
          refine X_sipush hK dX12_truck_35 (by decide) ?_
          refine X_aloadn hK (i := 0) 2 dX12_truck_38 rfl rfl ?_
          refine X_getK hK fl_X12_7_13 hs_a0 ((hg28679 a0 13 0 1 hs_a0 (by decide)).trans ((hg10 a0 13 0 1 hs_a0 (by decide)).trans ((hg3 a0 13 0 1 hs_a0 (by decide)).trans ((xs_k hg1 (by decide)).trans ey0)))) dX12_truck_39 ?_
          refine X_iconst hK dX12_truck_42 ?_
          refine X_iloadn hK (i := 2) 0 dX12_truck_43 rfl rfl ?_
          refine X_imul hK dX12_truck_44 ?_
          refine X_iald hK hs_y0 (by decide) sl_14100 (by omega) (by omega) dX12_truck_45 (fun z43022 ez43022 lz43022 uz43022 => ?_)
          have hl43023 : xv g y0 (2 * z28677) = z43022 := xv_e (j := (2 * z28677)) (((((hg28679 _ _ _ _ hs_y0 (by rw [xky_a (by decide)]; decide)).trans (hg10 _ _ _ _ hs_y0 (by rw [xky_a (by decide)]; decide))).trans (hg3 _ _ _ _ hs_y0 (by rw [xky_a (by decide)]; decide))).trans (xs_a hg1 (xne hs_y0 hs_a0 (by decide)))).symm.trans ez43022) (by omega)
          have hb43024 : f8 (2 * z28677) = z43022 := (hp1 (by omega) (2 * z28677) (by omega) (by omega)).symm.trans hl43023
          refine X_imul hK dX12_truck_46 ?_
          refine X_aloadn hK (i := 0) 2 dX12_truck_47 rfl rfl ?_
          refine X_getK hK fl_X12_7_13 hs_a0 ((hg28679 a0 13 0 1 hs_a0 (by decide)).trans ((hg10 a0 13 0 1 hs_a0 (by decide)).trans ((hg3 a0 13 0 1 hs_a0 (by decide)).trans ((xs_k hg1 (by decide)).trans ey0)))) dX12_truck_48 ?_
          refine X_iconst hK dX12_truck_51 ?_
          refine X_iloadn hK (i := 2) 0 dX12_truck_52 rfl rfl ?_
          refine X_imul hK dX12_truck_53 ?_
          refine X_iconst hK dX12_truck_54 ?_
          refine X_iadd hK dX12_truck_55 ?_
          refine X_iald hK hs_y0 (by decide) sl_14100 (by omega) (by omega) dX12_truck_56 (fun z43025 ez43025 lz43025 uz43025 => ?_)
          have hl43026 : xv g y0 ((2 * z28677) + 1) = z43025 := xv_e (j := ((2 * z28677) + 1)) (((((hg28679 _ _ _ _ hs_y0 (by rw [xky_a (by decide)]; decide)).trans (hg10 _ _ _ _ hs_y0 (by rw [xky_a (by decide)]; decide))).trans (hg3 _ _ _ _ hs_y0 (by rw [xky_a (by decide)]; decide))).trans (xs_a hg1 (xne hs_y0 hs_a0 (by decide)))).symm.trans ez43025) (by omega)
          have hb43027 : f8 ((2 * z28677) + 1) = z43025 := (hp1 (by omega) ((2 * z28677) + 1) (by omega) (by omega)).symm.trans hl43026
          refine X_iadd hK dX12_truck_57 ?_
          have hx43028 : xpr f8 z28677 = ((256 * z43022) + z43025) := by unfold xpr; rw [show f8 (2 * z28677) = _ from hb43024, show f8 (2 * z28677 + 1) = _ from hb43027]
          refine X_iast hK hs_w82 (by decide) (by decide) sl_18800 (by omega) (by omega) (by omega) (by omega) dX12_truck_58 (fun g43029 hg43029 => ?_)
          refine X_aloadn hK (i := 0) 2 dX12_truck_59 rfl rfl ?_
          refine X_getK hK fl_X12_177_13 hs_a0 ((xs_a hg43029 (xne hs_a0 hs_w82 (by decide))).trans ((hg28679 a0 13 0 82 hs_a0 (by decide)).trans ((hg10 a0 13 0 82 hs_a0 (by decide)).trans ((hg3 a0 13 0 82 hs_a0 (by decide)).trans ((xs_k hg1 (by decide)).trans ew82))))) dX12_truck_60 ?_
          refine X_iloadn hK (i := 2) 0 dX12_truck_63 rfl rfl ?_
          refine X_ialdK hK hs_w82 (by decide) (by omega) (by omega) (xs_s hg43029) dX12_truck_64 ?_
          refine X_ldcw hK (n := 65535) dX12_truck_65 m_55_14 (by decide) ?_
          refine X_icmp_ne hK 74 (by omega) (by omega) dX12_truck_68 (by decide) (fun c43030 => ?_) (fun c43030 => ?_)
          · refine X_aloadn hK (i := 0) 2 dX12_truck_74 rfl rfl ?_
            refine X_getK hK fl_X12_180_13 hs_a0 ((xs_a hg43029 (xne hs_a0 hs_w82 (by decide))).trans ((hg28679 a0 13 0 83 hs_a0 (by decide)).trans ((hg10 a0 13 0 83 hs_a0 (by decide)).trans ((hg3 a0 13 0 83 hs_a0 (by decide)).trans ((xs_k hg1 (by decide)).trans ew83))))) dX12_truck_75 ?_
            refine X_iloadn hK (i := 1) 1 dX12_truck_78 rfl rfl ?_
            refine X_iloadn hK (i := 2) 0 dX12_truck_79 rfl rfl ?_
            refine X_iast hK hs_w83 (by decide) (by decide) sl_18900 (by omega) (by omega) (by omega) (by omega) dX12_truck_80 (fun g43031 hg43031 => ?_)
            refine X_iinc hK (i := 1) (z := z28678) (n := 1) 1 [(1, .int (iI (z28678 + 1))), (2, .int (iI z28677)), (0, .ref a0)] dX12_truck_81 rfl (by decide) rfl ?_
            refine X_iinc hK (i := 2) (z := z28677) (n := 1) 1 [(2, .int (iI (z28677 + 1))), (1, .int (iI (z28678 + 1))), (0, .ref a0)] dX12_truck_84 rfl (by decide) rfl ?_
            refine X_goto hK 24 dX12_truck_87 (by decide) ?_
            exact ihP35843  g43031 (xM_ua (xM_ua (xM.tr xM.rf xLe.rf hg28679 (by decide)) hg43029 hs_w82 (by decide) (by decide)) hg43031 hs_w83 (by decide) (by decide)) (z28677 + 1) (by omega) (by omega) (z28678 + 1) (by omega) (by omega) (by omega) (by rw [show z28677 + 1 - 1 = (z28677 - 1) + 1 by omega]; exact xSq.add v35845 (by omega) (by omega) (by rw [show z28677 - 1 + 1 = z28677 by omega, hx43028]; omega) (by have h8 := (show xv g43031 w83 z28678 = z28677 from by rw [xv_s hg43031 (by omega)]); omega) (fun i9 hi9 h09 => (show xv g43031 w83 i9 = xv g28679 w83 i9 from by rw [(xv_k (i := i9) hg43031 (by omega) (by omega) (by omega)), (xv_a hg43029 (xne hs_w83 hs_w82 (by decide)))]))) (fun k9 q1 q2 => by by_cases e9 : k9 = z28678; (rw [e9, (show xv g43031 w83 z28678 = z28677 from by rw [xv_s hg43031 (by omega)])]; omega); (rw [(show xv g43031 w83 k9 = xv g28679 w83 k9 from by rw [(xv_k (i := k9) hg43031 (by omega) (by omega) (by omega)), (xv_a hg43029 (xne hs_w83 hs_w82 (by decide)))])]; exact v35846 k9 q1 (by omega))) (fun c9 q1 q2 => by by_cases e9 : c9 = z28677; (rw [e9, (show xv g43031 w82 z28677 = ((256 * z43022) + z43025) from by rw [(xv_a hg43031 (xne hs_w82 hs_w83 (by decide))), xv_s hg43029 (by omega)])]; exact hx43028.symm); (rw [(show xv g43031 w82 c9 = xv g28679 w82 c9 from by rw [(xv_a hg43031 (xne hs_w82 hs_w83 (by decide))), (xv_k (i := c9) hg43029 (by omega) (by omega) (by omega))])]; exact v35847 c9 q1 (by omega))) (by omega)
          · refine X_goto hK 84 dX12_truck_71 (by decide) ?_
            refine X_iinc hK (i := 2) (z := z28677) (n := 1) 0 [(2, .int (iI (z28677 + 1))), (1, .int (iI z28678)), (0, .ref a0)] dX12_truck_84 rfl (by decide) rfl ?_
            refine X_goto hK 24 dX12_truck_87 (by decide) ?_
            exact ihP35843  g43029 (xM_ua (xM.tr xM.rf xLe.rf hg28679 (by decide)) hg43029 hs_w82 (by decide) (by decide)) (z28677 + 1) (by omega) (by omega) z28678 (by omega) (by omega) (by omega) (by rw [show z28677 + 1 - 1 = (z28677 - 1) + 1 by omega]; rw [(xv_a hg43029 (xne hs_w83 hs_w82 (by decide)))]; exact xSq.skip v35845 (by omega) (by rw [show z28677 - 1 + 1 = z28677 by omega, hx43028]; omega)) (by rw [(xv_a hg43029 (xne hs_w83 hs_w82 (by decide)))]; exact v35846) (fun c9 q1 q2 => by by_cases e9 : c9 = z28677; (rw [e9, (show xv g43029 w82 z28677 = ((256 * z43022) + z43025) from by rw [xv_s hg43029 (by omega)])]; exact hx43028.symm); (rw [(show xv g43029 w82 c9 = xv g28679 w82 c9 from by rw [(xv_k (i := c9) hg43029 (by omega) (by omega) (by omega))])]; exact v35847 c9 q1 (by omega))) (by omega)
    exact P35843 ((26 - 1 : Int).toNat + 1) g10 xM.rf 1 (by omega) (by omega) 0 (by omega) (by omega) (by omega) xSq.z (fun k q1 q2 => by omega) (fun c q1 q2 => by omega) (by omega)
  · refine X_iconst hK dX12_truck_14 ?_
    exact hret _ _ _ _ _ _ _ dX12_truck_15 ⟨rfl, (-1), rfl, (by omega), (by omega), (k7.trans (by congr 2 <;> omega)), ⟨n8, xv g3 ty8, ⟨ty8, wr8, m8, z8, i8, hs_a0, ((hg3 a0 13 0 84 hs_a0 (by decide)).trans ((xs_k hg1 (by decide)).trans hrm2)), hs_ty8, ((hg3 a0 13 0 87 hs_a0 (by decide)).trans ((xs_k hg1 (by decide)).trans hrm4)), by omega, by omega, ((hg3 a0 13 0 88 hs_a0 (by decide)).trans ((xs_k hg1 (by decide)).trans hrm7)), hrm8, rfl, ((hg3 a0 13 0 15 hs_a0 (by decide)).trans ((xs_k hg1 (by decide)).trans hrm10)), hs_wr8, ((hg3 a0 13 0 18 hs_a0 (by decide)).trans ((xs_k hg1 (by decide)).trans hrm12)), (by rw [(Eq.trans (xv_m hg3 hs_wr8 (by decide) (by decide)) (xv_a hg1 (xne hs_wr8 hs_a0 (by decide))))]; exact hrm13)⟩, (Or.inl ⟨by omega, by omega, rfl, fun x9 _ _ => congrFun ((Eq.trans (xv_m hg3 hs_ty8 (by decide) (by decide)) (xv_a hg1 (xne hs_ty8 hs_a0 (by decide)))).trans hY8) x9⟩)⟩⟩ (Nat.le_refl _) (Nat.le_refl _)
