theorem m_22_20 : Cond.methodLink RX7 35 yX7_scan ∈ wsL_law := ch_22 _ (List.mem_of_getElem? (i := 20) rfl)
theorem m_22_21 : Cond.instanceMethod yX7_scan ∈ wsL_law := ch_22 _ (List.mem_of_getElem? (i := 21) rfl)
theorem m_22_22 : Cond.selects RX7 yX7_scan yX7_scan ∈ wsL_law := ch_22 _ (List.mem_of_getElem? (i := 22) rfl)
theorem m_22_23 : Cond.code yX7_scan cX7_scan 7 none ∈ wsL_law := ch_22 _ (List.mem_of_getElem? (i := 23) rfl)
theorem m_23_0 : Cond.methodLink RX7 64 Lib.Math.min.name ∈ wsL_law := ch_23 _ (List.mem_of_getElem? (i := 0) rfl)
theorem m_23_11 : Cond.methodLink RX7 77 yX7_nameEnd ∈ wsL_law := ch_23 _ (List.mem_of_getElem? (i := 11) rfl)
theorem m_23_12 : Cond.static yX7_nameEnd ∈ wsL_law := ch_23 _ (List.mem_of_getElem? (i := 12) rfl)
theorem m_23_13 : Cond.code yX7_nameEnd cX7_nameEnd 3 (some .int) ∈ wsL_law := ch_23 _ (List.mem_of_getElem? (i := 13) rfl)
theorem m_23_14 : Cond.methodLink RX7 81 yX7_nameToken ∈ wsL_law := ch_23 _ (List.mem_of_getElem? (i := 14) rfl)
theorem m_23_15 : Cond.static yX7_nameToken ∈ wsL_law := ch_23 _ (List.mem_of_getElem? (i := 15) rfl)
theorem m_23_16 : Cond.code yX7_nameToken cX7_nameToken 6 (some .int) ∈ wsL_law := ch_23 _ (List.mem_of_getElem? (i := 16) rfl)
theorem m_23_17 : Cond.methodLink RX7 95 yX7_wordToken ∈ wsL_law := ch_23 _ (List.mem_of_getElem? (i := 17) rfl)
theorem m_23_18 : Cond.static yX7_wordToken ∈ wsL_law := ch_23 _ (List.mem_of_getElem? (i := 18) rfl)
theorem m_23_19 : Cond.code yX7_wordToken cX7_wordToken 7 (some .int) ∈ wsL_law := ch_23 _ (List.mem_of_getElem? (i := 19) rfl)
theorem m_23_20 : Cond.methodLink RX7 100 yJ0_length_8abf5 ∈ wsL_law := ch_23 _ (List.mem_of_getElem? (i := 20) rfl)
theorem m_23_21 : Cond.instanceMethod yJ0_length_8abf5 ∈ wsL_law := ch_23 _ (List.mem_of_getElem? (i := 21) rfl)
theorem m_23_22 : Cond.selects RJ0 yJ0_length_8abf5 yJ0_length_8abf5 ∈ wsL_law := ch_23 _ (List.mem_of_getElem? (i := 22) rfl)
theorem m_24_0 : Cond.code yJ0_length_8abf5 cJ0_length_8abf5 1 (some .int) ∈ wsL_law := ch_24 _ (List.mem_of_getElem? (i := 0) rfl)
theorem m_24_8 : Cond.methodLink RX7 105 yJ0_charAt_5068e ∈ wsL_law := ch_24 _ (List.mem_of_getElem? (i := 8) rfl)
theorem m_24_9 : Cond.instanceMethod yJ0_charAt_5068e ∈ wsL_law := ch_24 _ (List.mem_of_getElem? (i := 9) rfl)
theorem m_24_10 : Cond.selects RJ0 yJ0_charAt_5068e yJ0_charAt_5068e ∈ wsL_law := ch_24 _ (List.mem_of_getElem? (i := 10) rfl)
theorem m_24_11 : Cond.code yJ0_charAt_5068e cJ0_charAt_5068e 2 (some .char) ∈ wsL_law := ch_24 _ (List.mem_of_getElem? (i := 11) rfl)
theorem m_25_18 : Cond.methodLink RX7 85 yX7_markToken ∈ wsL_law := ch_25 _ (List.mem_of_getElem? (i := 18) rfl)
theorem m_25_19 : Cond.static yX7_markToken ∈ wsL_law := ch_25 _ (List.mem_of_getElem? (i := 19) rfl)
theorem m_25_20 : Cond.code yX7_markToken cX7_markToken 1 (some .int) ∈ wsL_law := ch_25 _ (List.mem_of_getElem? (i := 20) rfl)
theorem m_26_1 : Cond.methodLink RX7 51 yX7_readLine ∈ wsL_law := ch_26 _ (List.mem_of_getElem? (i := 1) rfl)
theorem m_26_2 : Cond.instanceMethod yX7_readLine ∈ wsL_law := ch_26 _ (List.mem_of_getElem? (i := 2) rfl)
theorem m_26_3 : Cond.selects RX7 yX7_readLine yX7_readLine ∈ wsL_law := ch_26 _ (List.mem_of_getElem? (i := 3) rfl)
theorem m_26_4 : Cond.code yX7_readLine cX7_readLine 5 none ∈ wsL_law := ch_26 _ (List.mem_of_getElem? (i := 4) rfl)
theorem dX7_nameToken_0 : decode cX7_nameToken 0 = .ok (.iconst 0, 1) := by decide +kernel
theorem dX7_nameToken_1 : decode cX7_nameToken 1 = .ok (.istore_n 3, 1) := by decide +kernel
theorem dX7_nameToken_2 : decode cX7_nameToken 2 = .ok (.iconst 0, 1) := by decide +kernel
theorem dX7_nameToken_3 : decode cX7_nameToken 3 = .ok (.istore 4, 2) := by decide +kernel
theorem dX7_nameToken_5 : decode cX7_nameToken 5 = .ok (.iload_n 1, 1) := by decide +kernel
theorem dX7_nameToken_6 : decode cX7_nameToken 6 = .ok (.istore 5, 2) := by decide +kernel
theorem dX7_nameToken_8 : decode cX7_nameToken 8 = .ok (.iload 5, 2) := by decide +kernel
theorem dX7_nameToken_10 : decode cX7_nameToken 10 = .ok (.iload_n 2, 1) := by decide +kernel
theorem dX7_nameToken_11 : decode cX7_nameToken 11 = .ok (.if_icmp .ge 53, 3) := by decide +kernel
theorem dX7_nameToken_14 : decode cX7_nameToken 14 = .ok (.aload_n 0, 1) := by decide +kernel
theorem dX7_nameToken_15 : decode cX7_nameToken 15 = .ok (.getfield 70, 3) := by decide +kernel
theorem dX7_nameToken_18 : decode cX7_nameToken 18 = .ok (.iload 5, 2) := by decide +kernel
theorem dX7_nameToken_20 : decode cX7_nameToken 20 = .ok (.iaload, 1) := by decide +kernel
theorem dX7_nameToken_21 : decode cX7_nameToken 21 = .ok (.invokestatic 92, 3) := by decide +kernel
theorem dX7_nameToken_24 : decode cX7_nameToken 24 = .ok (.ifCond .eq 34, 3) := by decide +kernel
theorem dX7_nameToken_27 : decode cX7_nameToken 27 = .ok (.iinc 3 1, 3) := by decide +kernel
theorem dX7_nameToken_30 : decode cX7_nameToken 30 = .ok (.iload_n 3, 1) := by decide +kernel
theorem dX7_nameToken_31 : decode cX7_nameToken 31 = .ok (.iconst 4, 1) := by decide +kernel
theorem dX7_nameToken_32 : decode cX7_nameToken 32 = .ok (.if_icmp .gt 22, 3) := by decide +kernel
theorem dX7_nameToken_35 : decode cX7_nameToken 35 = .ok (.iload 4, 2) := by decide +kernel
theorem dX7_nameToken_37 : decode cX7_nameToken 37 = .ok (.bipush 10, 2) := by decide +kernel
theorem dX7_nameToken_39 : decode cX7_nameToken 39 = .ok (.imul, 1) := by decide +kernel
theorem dX7_nameToken_40 : decode cX7_nameToken 40 = .ok (.aload_n 0, 1) := by decide +kernel
theorem dX7_nameToken_41 : decode cX7_nameToken 41 = .ok (.getfield 70, 3) := by decide +kernel
theorem dX7_nameToken_44 : decode cX7_nameToken 44 = .ok (.iload 5, 2) := by decide +kernel
theorem dX7_nameToken_46 : decode cX7_nameToken 46 = .ok (.iaload, 1) := by decide +kernel
theorem dX7_nameToken_47 : decode cX7_nameToken 47 = .ok (.iadd, 1) := by decide +kernel
theorem dX7_nameToken_48 : decode cX7_nameToken 48 = .ok (.bipush 48, 2) := by decide +kernel
theorem dX7_nameToken_50 : decode cX7_nameToken 50 = .ok (.isub, 1) := by decide +kernel
theorem dX7_nameToken_51 : decode cX7_nameToken 51 = .ok (.goto 5, 3) := by decide +kernel
theorem dX7_nameToken_54 : decode cX7_nameToken 54 = .ok (.iload 4, 2) := by decide +kernel
theorem dX7_nameToken_56 : decode cX7_nameToken 56 = .ok (.istore 4, 2) := by decide +kernel
theorem dX7_nameToken_58 : decode cX7_nameToken 58 = .ok (.iinc 5 1, 3) := by decide +kernel
theorem dX7_nameToken_61 : decode cX7_nameToken 61 = .ok (.goto (-53), 3) := by decide +kernel
theorem dX7_nameToken_64 : decode cX7_nameToken 64 = .ok (.iload_n 3, 1) := by decide +kernel
theorem dX7_nameToken_65 : decode cX7_nameToken 65 = .ok (.iload_n 2, 1) := by decide +kernel
theorem dX7_nameToken_66 : decode cX7_nameToken 66 = .ok (.iload_n 1, 1) := by decide +kernel
theorem dX7_nameToken_67 : decode cX7_nameToken 67 = .ok (.isub, 1) := by decide +kernel
theorem dX7_nameToken_68 : decode cX7_nameToken 68 = .ok (.if_icmp .ne 19, 3) := by decide +kernel
theorem dX7_nameToken_71 : decode cX7_nameToken 71 = .ok (.iload_n 3, 1) := by decide +kernel
theorem dX7_nameToken_72 : decode cX7_nameToken 72 = .ok (.iconst 4, 1) := by decide +kernel
theorem dX7_nameToken_73 : decode cX7_nameToken 73 = .ok (.if_icmp .gt 11, 3) := by decide +kernel
theorem dX7_nameToken_76 : decode cX7_nameToken 76 = .ok (.bipush 100, 2) := by decide +kernel
theorem dX7_nameToken_78 : decode cX7_nameToken 78 = .ok (.iload 4, 2) := by decide +kernel
theorem dX7_nameToken_80 : decode cX7_nameToken 80 = .ok (.iadd, 1) := by decide +kernel
theorem dX7_nameToken_81 : decode cX7_nameToken 81 = .ok (.goto 5, 3) := by decide +kernel
theorem dX7_nameToken_84 : decode cX7_nameToken 84 = .ok (.bipush 22, 2) := by decide +kernel
theorem dX7_nameToken_86 : decode cX7_nameToken 86 = .ok (.ireturn, 1) := by decide +kernel
theorem dX7_nameToken_87 : decode cX7_nameToken 87 = .ok (.iload_n 3, 1) := by decide +kernel
theorem dX7_nameToken_88 : decode cX7_nameToken 88 = .ok (.ifCond .ne 14, 3) := by decide +kernel
theorem dX7_nameToken_91 : decode cX7_nameToken 91 = .ok (.aload_n 0, 1) := by decide +kernel
theorem dX7_nameToken_92 : decode cX7_nameToken 92 = .ok (.iload_n 1, 1) := by decide +kernel
theorem dX7_nameToken_93 : decode cX7_nameToken 93 = .ok (.iload_n 2, 1) := by decide +kernel
theorem dX7_nameToken_94 : decode cX7_nameToken 94 = .ok (.iload_n 1, 1) := by decide +kernel
theorem dX7_nameToken_95 : decode cX7_nameToken 95 = .ok (.isub, 1) := by decide +kernel
theorem dX7_nameToken_96 : decode cX7_nameToken 96 = .ok (.invokestatic 95, 3) := by decide +kernel
theorem dX7_nameToken_99 : decode cX7_nameToken 99 = .ok (.goto 5, 3) := by decide +kernel
theorem dX7_nameToken_102 : decode cX7_nameToken 102 = .ok (.bipush 22, 2) := by decide +kernel
theorem dX7_nameToken_104 : decode cX7_nameToken 104 = .ok (.ireturn, 1) := by decide +kernel
theorem dX7_read_0 : decode cX7_read 0 = .ok (.aload_n 0, 1) := by decide +kernel
theorem dX7_read_1 : decode cX7_read 1 = .ok (.aload_n 1, 1) := by decide +kernel
theorem dX7_read_2 : decode cX7_read 2 = .ok (.invokevirtual 35, 3) := by decide +kernel
theorem dX7_read_5 : decode cX7_read 5 = .ok (.aload_n 0, 1) := by decide +kernel
theorem dX7_read_6 : decode cX7_read 6 = .ok (.iconst 0, 1) := by decide +kernel
theorem dX7_read_7 : decode cX7_read 7 = .ok (.putfield 18, 3) := by decide +kernel
theorem dX7_read_10 : decode cX7_read 10 = .ok (.aload_n 0, 1) := by decide +kernel
theorem dX7_read_11 : decode cX7_read 11 = .ok (.iconst 0, 1) := by decide +kernel
theorem dX7_read_12 : decode cX7_read 12 = .ok (.putfield 22, 3) := by decide +kernel
theorem dX7_read_15 : decode cX7_read 15 = .ok (.aload_n 0, 1) := by decide +kernel
theorem dX7_read_16 : decode cX7_read 16 = .ok (.iconst 0, 1) := by decide +kernel
theorem dX7_read_17 : decode cX7_read 17 = .ok (.putfield 25, 3) := by decide +kernel
theorem dX7_read_20 : decode cX7_read 20 = .ok (.aload_n 0, 1) := by decide +kernel
theorem dX7_read_21 : decode cX7_read 21 = .ok (.iconst 0, 1) := by decide +kernel
theorem dX7_read_22 : decode cX7_read 22 = .ok (.putfield 29, 3) := by decide +kernel
theorem dX7_read_25 : decode cX7_read 25 = .ok (.aload_n 0, 1) := by decide +kernel
theorem dX7_read_26 : decode cX7_read 26 = .ok (.iconst 0, 1) := by decide +kernel
theorem dX7_read_27 : decode cX7_read 27 = .ok (.putfield 32, 3) := by decide +kernel
theorem dX7_read_30 : decode cX7_read 30 = .ok (.aload_n 2, 1) := by decide +kernel
theorem dX7_read_31 : decode cX7_read 31 = .ok (.iconst 0, 1) := by decide +kernel
theorem dX7_read_32 : decode cX7_read 32 = .ok (.putfield 39, 3) := by decide +kernel
theorem dX7_read_35 : decode cX7_read 35 = .ok (.aload_n 2, 1) := by decide +kernel
theorem dX7_read_36 : decode cX7_read 36 = .ok (.iconst 0, 1) := by decide +kernel
theorem dX7_read_37 : decode cX7_read 37 = .ok (.putfield 44, 3) := by decide +kernel
theorem dX7_read_40 : decode cX7_read 40 = .ok (.iconst 0, 1) := by decide +kernel
theorem dX7_read_41 : decode cX7_read 41 = .ok (.istore_n 3, 1) := by decide +kernel
theorem dX7_read_42 : decode cX7_read 42 = .ok (.iload_n 3, 1) := by decide +kernel
theorem dX7_read_43 : decode cX7_read 43 = .ok (.bipush 16, 2) := by decide +kernel
theorem dX7_read_45 : decode cX7_read 45 = .ok (.if_icmp .gt 30, 3) := by decide +kernel
theorem dX7_read_48 : decode cX7_read 48 = .ok (.aload_n 0, 1) := by decide +kernel
theorem dX7_read_49 : decode cX7_read 49 = .ok (.getfield 29, 3) := by decide +kernel
theorem dX7_read_52 : decode cX7_read 52 = .ok (.ifCond .ne 23, 3) := by decide +kernel
theorem dX7_read_55 : decode cX7_read 55 = .ok (.aload_n 0, 1) := by decide +kernel
theorem dX7_read_56 : decode cX7_read 56 = .ok (.invokevirtual 47, 3) := by decide +kernel
theorem dX7_read_59 : decode cX7_read 59 = .ok (.bipush 23, 2) := by decide +kernel
theorem dX7_read_61 : decode cX7_read 61 = .ok (.if_icmp .eq 14, 3) := by decide +kernel
theorem dX7_read_64 : decode cX7_read 64 = .ok (.aload_n 0, 1) := by decide +kernel
theorem dX7_read_65 : decode cX7_read 65 = .ok (.aload_n 2, 1) := by decide +kernel
theorem dX7_read_66 : decode cX7_read 66 = .ok (.invokevirtual 51, 3) := by decide +kernel
theorem dX7_read_69 : decode cX7_read 69 = .ok (.iinc 3 1, 3) := by decide +kernel
theorem dX7_read_72 : decode cX7_read 72 = .ok (.goto (-30), 3) := by decide +kernel
theorem dX7_read_75 : decode cX7_read 75 = .ok (.aload_n 1, 1) := by decide +kernel
theorem dX7_read_76 : decode cX7_read 76 = .ok (.getfield 55, 3) := by decide +kernel
theorem dX7_read_79 : decode cX7_read 79 = .ok (.sipush 300, 3) := by decide +kernel
theorem dX7_read_82 : decode cX7_read 82 = .ok (.if_icmp .le 8, 3) := by decide +kernel
theorem dX7_read_85 : decode cX7_read 85 = .ok (.aload_n 0, 1) := by decide +kernel
theorem dX7_read_86 : decode cX7_read 86 = .ok (.iconst 1, 1) := by decide +kernel
theorem dX7_read_87 : decode cX7_read 87 = .ok (.invokevirtual 60, 3) := by decide +kernel
theorem dX7_read_90 : decode cX7_read 90 = .ok (.return_, 1) := by decide +kernel
theorem dX7_scan_0 : decode cX7_scan 0 = .ok (.aload_n 1, 1) := by decide +kernel
theorem dX7_scan_1 : decode cX7_scan 1 = .ok (.getfield 55, 3) := by decide +kernel
theorem dX7_scan_4 : decode cX7_scan 4 = .ok (.sipush 300, 3) := by decide +kernel
theorem dX7_scan_7 : decode cX7_scan 7 = .ok (.invokestatic 64, 3) := by decide +kernel
theorem dX7_scan_10 : decode cX7_scan 10 = .ok (.istore_n 2, 1) := by decide +kernel
theorem dX7_scan_11 : decode cX7_scan 11 = .ok (.iconst 0, 1) := by decide +kernel
theorem dX7_scan_12 : decode cX7_scan 12 = .ok (.istore_n 3, 1) := by decide +kernel
theorem dX7_scan_13 : decode cX7_scan 13 = .ok (.iconst 0, 1) := by decide +kernel
theorem dX7_scan_14 : decode cX7_scan 14 = .ok (.istore 4, 2) := by decide +kernel
theorem dX7_scan_16 : decode cX7_scan 16 = .ok (.iconst 0, 1) := by decide +kernel
theorem dX7_scan_17 : decode cX7_scan 17 = .ok (.istore 5, 2) := by decide +kernel
theorem dX7_scan_19 : decode cX7_scan 19 = .ok (.iload 5, 2) := by decide +kernel
theorem dX7_scan_21 : decode cX7_scan 21 = .ok (.iload_n 2, 1) := by decide +kernel
theorem dX7_scan_22 : decode cX7_scan 22 = .ok (.if_icmp .ge 103, 3) := by decide +kernel
theorem dX7_scan_25 : decode cX7_scan 25 = .ok (.aload_n 1, 1) := by decide +kernel
theorem dX7_scan_26 : decode cX7_scan 26 = .ok (.getfield 70, 3) := by decide +kernel
theorem dX7_scan_29 : decode cX7_scan 29 = .ok (.iload 5, 2) := by decide +kernel
theorem dX7_scan_31 : decode cX7_scan 31 = .ok (.iaload, 1) := by decide +kernel
theorem dX7_scan_32 : decode cX7_scan 32 = .ok (.istore 6, 2) := by decide +kernel
theorem dX7_scan_34 : decode cX7_scan 34 = .ok (.iload 5, 2) := by decide +kernel
theorem dX7_scan_36 : decode cX7_scan 36 = .ok (.iload 4, 2) := by decide +kernel
theorem dX7_scan_38 : decode cX7_scan 38 = .ok (.if_icmp .lt 81, 3) := by decide +kernel
theorem dX7_scan_41 : decode cX7_scan 41 = .ok (.iload 6, 2) := by decide +kernel
theorem dX7_scan_43 : decode cX7_scan 43 = .ok (.bipush 32, 2) := by decide +kernel
theorem dX7_scan_45 : decode cX7_scan 45 = .ok (.if_icmp .eq 74, 3) := by decide +kernel
theorem dX7_scan_48 : decode cX7_scan 48 = .ok (.iload 6, 2) := by decide +kernel
theorem dX7_scan_50 : decode cX7_scan 50 = .ok (.bipush 10, 2) := by decide +kernel
theorem dX7_scan_52 : decode cX7_scan 52 = .ok (.if_icmp .eq 67, 3) := by decide +kernel
theorem dX7_scan_55 : decode cX7_scan 55 = .ok (.iload 6, 2) := by decide +kernel
theorem dX7_scan_57 : decode cX7_scan 57 = .ok (.invokestatic 73, 3) := by decide +kernel
theorem dX7_scan_60 : decode cX7_scan 60 = .ok (.ifCond .eq 12, 3) := by decide +kernel
theorem dX7_scan_63 : decode cX7_scan 63 = .ok (.aload_n 1, 1) := by decide +kernel
theorem dX7_scan_64 : decode cX7_scan 64 = .ok (.iload 5, 2) := by decide +kernel
theorem dX7_scan_66 : decode cX7_scan 66 = .ok (.invokestatic 77, 3) := by decide +kernel
theorem dX7_scan_69 : decode cX7_scan 69 = .ok (.goto 7, 3) := by decide +kernel
theorem dX7_scan_72 : decode cX7_scan 72 = .ok (.iload 5, 2) := by decide +kernel
theorem dX7_scan_74 : decode cX7_scan 74 = .ok (.iconst 1, 1) := by decide +kernel
theorem dX7_scan_75 : decode cX7_scan 75 = .ok (.iadd, 1) := by decide +kernel
theorem dX7_scan_76 : decode cX7_scan 76 = .ok (.istore 4, 2) := by decide +kernel
theorem dX7_scan_78 : decode cX7_scan 78 = .ok (.aload_n 0, 1) := by decide +kernel
theorem dX7_scan_79 : decode cX7_scan 79 = .ok (.getfield 9, 3) := by decide +kernel
theorem dX7_scan_82 : decode cX7_scan 82 = .ok (.iload_n 3, 1) := by decide +kernel
theorem dX7_scan_83 : decode cX7_scan 83 = .ok (.iload 6, 2) := by decide +kernel
theorem dX7_scan_85 : decode cX7_scan 85 = .ok (.invokestatic 73, 3) := by decide +kernel
theorem dX7_scan_88 : decode cX7_scan 88 = .ok (.ifCond .eq 14, 3) := by decide +kernel
theorem dX7_scan_91 : decode cX7_scan 91 = .ok (.aload_n 1, 1) := by decide +kernel
theorem dX7_scan_92 : decode cX7_scan 92 = .ok (.iload 5, 2) := by decide +kernel
theorem dX7_scan_94 : decode cX7_scan 94 = .ok (.iload 4, 2) := by decide +kernel
theorem dX7_scan_96 : decode cX7_scan 96 = .ok (.invokestatic 81, 3) := by decide +kernel
theorem dX7_scan_99 : decode cX7_scan 99 = .ok (.goto 8, 3) := by decide +kernel
theorem dX7_scan_102 : decode cX7_scan 102 = .ok (.iload 6, 2) := by decide +kernel
theorem dX7_scan_104 : decode cX7_scan 104 = .ok (.invokestatic 85, 3) := by decide +kernel
theorem dX7_scan_107 : decode cX7_scan 107 = .ok (.iastore, 1) := by decide +kernel
theorem dX7_scan_108 : decode cX7_scan 108 = .ok (.aload_n 0, 1) := by decide +kernel
theorem dX7_scan_109 : decode cX7_scan 109 = .ok (.getfield 15, 3) := by decide +kernel
theorem dX7_scan_112 : decode cX7_scan 112 = .ok (.iload_n 3, 1) := by decide +kernel
theorem dX7_scan_113 : decode cX7_scan 113 = .ok (.iload 5, 2) := by decide +kernel
theorem dX7_scan_115 : decode cX7_scan 115 = .ok (.iastore, 1) := by decide +kernel
theorem dX7_scan_116 : decode cX7_scan 116 = .ok (.iinc 3 1, 3) := by decide +kernel
theorem dX7_scan_119 : decode cX7_scan 119 = .ok (.iinc 5 1, 3) := by decide +kernel
theorem dX7_scan_122 : decode cX7_scan 122 = .ok (.goto (-103), 3) := by decide +kernel
theorem dX7_scan_125 : decode cX7_scan 125 = .ok (.aload_n 0, 1) := by decide +kernel
theorem dX7_scan_126 : decode cX7_scan 126 = .ok (.getfield 9, 3) := by decide +kernel
theorem dX7_scan_129 : decode cX7_scan 129 = .ok (.iload_n 3, 1) := by decide +kernel
theorem dX7_scan_130 : decode cX7_scan 130 = .ok (.bipush 23, 2) := by decide +kernel
theorem dX7_scan_132 : decode cX7_scan 132 = .ok (.iastore, 1) := by decide +kernel
theorem dX7_scan_133 : decode cX7_scan 133 = .ok (.aload_n 0, 1) := by decide +kernel
theorem dX7_scan_134 : decode cX7_scan 134 = .ok (.getfield 15, 3) := by decide +kernel
theorem dX7_scan_137 : decode cX7_scan 137 = .ok (.iload_n 3, 1) := by decide +kernel
theorem dX7_scan_138 : decode cX7_scan 138 = .ok (.iload_n 2, 1) := by decide +kernel
theorem dX7_scan_139 : decode cX7_scan 139 = .ok (.iastore, 1) := by decide +kernel
theorem dX7_scan_140 : decode cX7_scan 140 = .ok (.return_, 1) := by decide +kernel
theorem dX7_wordToken_0 : decode cX7_wordToken 0 = .ok (.iconst 0, 1) := by decide +kernel
theorem dX7_wordToken_1 : decode cX7_wordToken 1 = .ok (.istore_n 3, 1) := by decide +kernel
theorem dX7_wordToken_2 : decode cX7_wordToken 2 = .ok (.iconst 0, 1) := by decide +kernel
theorem dX7_wordToken_3 : decode cX7_wordToken 3 = .ok (.istore 4, 2) := by decide +kernel
theorem dX7_wordToken_5 : decode cX7_wordToken 5 = .ok (.iconst 0, 1) := by decide +kernel
theorem dX7_wordToken_6 : decode cX7_wordToken 6 = .ok (.istore 5, 2) := by decide +kernel
theorem dX7_wordToken_8 : decode cX7_wordToken 8 = .ok (.iload 5, 2) := by decide +kernel
theorem dX7_wordToken_10 : decode cX7_wordToken 10 = .ok (.ldc 98, 2) := by decide +kernel
theorem dX7_wordToken_12 : decode cX7_wordToken 12 = .ok (.invokevirtual 100, 3) := by decide +kernel
theorem dX7_wordToken_15 : decode cX7_wordToken 15 = .ok (.if_icmp .ge 76, 3) := by decide +kernel
theorem dX7_wordToken_18 : decode cX7_wordToken 18 = .ok (.ldc 98, 2) := by decide +kernel
theorem dX7_wordToken_20 : decode cX7_wordToken 20 = .ok (.iload 5, 2) := by decide +kernel
theorem dX7_wordToken_22 : decode cX7_wordToken 22 = .ok (.invokevirtual 105, 3) := by decide +kernel
theorem dX7_wordToken_25 : decode cX7_wordToken 25 = .ok (.istore 6, 2) := by decide +kernel
theorem dX7_wordToken_27 : decode cX7_wordToken 27 = .ok (.iload 6, 2) := by decide +kernel
theorem dX7_wordToken_29 : decode cX7_wordToken 29 = .ok (.bipush 32, 2) := by decide +kernel
theorem dX7_wordToken_31 : decode cX7_wordToken 31 = .ok (.if_icmp .ne 20, 3) := by decide +kernel
theorem dX7_wordToken_34 : decode cX7_wordToken 34 = .ok (.iload 4, 2) := by decide +kernel
theorem dX7_wordToken_36 : decode cX7_wordToken 36 = .ok (.iload_n 2, 1) := by decide +kernel
theorem dX7_wordToken_37 : decode cX7_wordToken 37 = .ok (.if_icmp .ne 5, 3) := by decide +kernel
theorem dX7_wordToken_40 : decode cX7_wordToken 40 = .ok (.iload_n 3, 1) := by decide +kernel
theorem dX7_wordToken_41 : decode cX7_wordToken 41 = .ok (.ireturn, 1) := by decide +kernel
theorem dX7_wordToken_42 : decode cX7_wordToken 42 = .ok (.iinc 3 1, 3) := by decide +kernel
theorem dX7_wordToken_45 : decode cX7_wordToken 45 = .ok (.iconst 0, 1) := by decide +kernel
theorem dX7_wordToken_46 : decode cX7_wordToken 46 = .ok (.istore 4, 2) := by decide +kernel
theorem dX7_wordToken_48 : decode cX7_wordToken 48 = .ok (.goto 37, 3) := by decide +kernel
theorem dX7_wordToken_51 : decode cX7_wordToken 51 = .ok (.iload 4, 2) := by decide +kernel
theorem dX7_wordToken_53 : decode cX7_wordToken 53 = .ok (.ifCond .lt 29, 3) := by decide +kernel
theorem dX7_wordToken_56 : decode cX7_wordToken 56 = .ok (.iload 4, 2) := by decide +kernel
theorem dX7_wordToken_58 : decode cX7_wordToken 58 = .ok (.iload_n 2, 1) := by decide +kernel
theorem dX7_wordToken_59 : decode cX7_wordToken 59 = .ok (.if_icmp .ge 23, 3) := by decide +kernel
theorem dX7_wordToken_62 : decode cX7_wordToken 62 = .ok (.aload_n 0, 1) := by decide +kernel
theorem dX7_wordToken_63 : decode cX7_wordToken 63 = .ok (.getfield 70, 3) := by decide +kernel
theorem dX7_wordToken_66 : decode cX7_wordToken 66 = .ok (.iload_n 1, 1) := by decide +kernel
theorem dX7_wordToken_67 : decode cX7_wordToken 67 = .ok (.iload 4, 2) := by decide +kernel
theorem dX7_wordToken_69 : decode cX7_wordToken 69 = .ok (.iadd, 1) := by decide +kernel
theorem dX7_wordToken_70 : decode cX7_wordToken 70 = .ok (.iaload, 1) := by decide +kernel
theorem dX7_wordToken_71 : decode cX7_wordToken 71 = .ok (.iload 6, 2) := by decide +kernel
theorem dX7_wordToken_73 : decode cX7_wordToken 73 = .ok (.if_icmp .ne 9, 3) := by decide +kernel
theorem dX7_wordToken_76 : decode cX7_wordToken 76 = .ok (.iinc 4 1, 3) := by decide +kernel
theorem dX7_wordToken_79 : decode cX7_wordToken 79 = .ok (.goto 6, 3) := by decide +kernel
theorem dX7_wordToken_82 : decode cX7_wordToken 82 = .ok (.iconst (-1), 1) := by decide +kernel
theorem dX7_wordToken_83 : decode cX7_wordToken 83 = .ok (.istore 4, 2) := by decide +kernel
theorem dX7_wordToken_85 : decode cX7_wordToken 85 = .ok (.iinc 5 1, 3) := by decide +kernel
theorem dX7_wordToken_88 : decode cX7_wordToken 88 = .ok (.goto (-80), 3) := by decide +kernel
theorem dX7_wordToken_91 : decode cX7_wordToken 91 = .ok (.bipush 22, 2) := by decide +kernel
theorem dX7_wordToken_93 : decode cX7_wordToken 93 = .ok (.ireturn, 1) := by decide +kernel
theorem lk_X7_100 : xLV RX7 100 yJ0_length_8abf5 cJ0_length_8abf5 1 (some .int) 0 := ⟨m_23_20, m_23_21, m_23_22, m_23_23, m_24_0, by decide +kernel⟩
theorem lk_X7_105 : xLV RX7 105 yJ0_charAt_5068e cJ0_charAt_5068e 2 (some .char) 1 := ⟨m_24_8, m_24_9, m_24_10, m_23_23, m_24_11, by decide +kernel⟩
theorem lk_X7_35 : xLV RX7 35 yX7_scan cX7_scan 7 none 1 := ⟨m_22_20, m_22_21, m_22_22, m_2_13, m_22_23, by decide +kernel⟩
theorem lk_X7_51 : xLV RX7 51 yX7_readLine cX7_readLine 5 none 1 := ⟨m_26_1, m_26_2, m_26_3, m_2_13, m_26_4, by decide +kernel⟩
theorem lk_X7_77 : xLS RX7 77 yX7_nameEnd cX7_nameEnd 3 (some .int) 2 := ⟨m_23_11, m_23_12, m_2_13, m_23_13, by decide +kernel⟩
theorem lk_X7_81 : xLS RX7 81 yX7_nameToken cX7_nameToken 6 (some .int) 3 := ⟨m_23_14, m_23_15, m_2_13, m_23_16, by decide +kernel⟩
theorem lk_X7_85 : xLS RX7 85 yX7_markToken cX7_markToken 1 (some .int) 1 := ⟨m_25_18, m_25_19, m_2_13, m_25_20, by decide +kernel⟩
theorem lk_X7_95 : xLS RX7 95 yX7_wordToken cX7_wordToken 7 (some .int) 3 := ⟨m_23_17, m_23_18, m_2_13, m_23_19, by decide +kernel⟩
theorem mm_X7_64 : Cond.methodLink RX7 64 Lib.Math.min.name ∈ wsL_law ∧ Cond.static Lib.Math.min.name ∈ wsL_law ∧ Cond.initialized "java/lang/Math" ∈ wsL_law ∧ Cond.code Lib.Math.min.name Lib.Math.min.code 2 (some .int) ∈ wsL_law := ⟨m_23_0, m_15_1, m_13_23, m_15_2⟩