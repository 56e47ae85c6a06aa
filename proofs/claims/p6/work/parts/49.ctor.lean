theorem m_1_6 : Cond.arrayClass .long ∈ wsL_law := ch_1 _ (List.mem_of_getElem? (i := 6) rfl)
theorem m_1_10 : Cond.methodLink RX11 1 objectInit ∈ wsL_law := ch_1 _ (List.mem_of_getElem? (i := 10) rfl)
theorem m_1_13 : Cond.classLink RX11 7 RX9 ∈ wsL_law := ch_1 _ (List.mem_of_getElem? (i := 13) rfl)
theorem m_1_14 : Cond.instantiable RX9 2 ∈ wsL_law := ch_1 _ (List.mem_of_getElem? (i := 14) rfl)
theorem m_1_17 : Cond.classLink RX11 16 RX5 ∈ wsL_law := ch_1 _ (List.mem_of_getElem? (i := 17) rfl)
theorem m_1_18 : Cond.instantiable RX5 8 ∈ wsL_law := ch_1 _ (List.mem_of_getElem? (i := 18) rfl)
theorem m_1_21 : Cond.fieldLink RX11 23 "PaperBoys$Market" "city" "LPaperBoys$City;" ∈ wsL_law := ch_1 _ (List.mem_of_getElem? (i := 21) rfl)
theorem m_1_23 : Cond.classLink RX11 28 RX4 ∈ wsL_law := ch_1 _ (List.mem_of_getElem? (i := 23) rfl)
theorem m_2_0 : Cond.instantiable RX4 4 ∈ wsL_law := ch_2 _ (List.mem_of_getElem? (i := 0) rfl)
theorem m_2_3 : Cond.classLink RX11 35 RJx4a65c ∈ wsL_law := ch_2 _ (List.mem_of_getElem? (i := 3) rfl)
theorem m_2_4 : Cond.instantiable RJx4a65c 3 ∈ wsL_law := ch_2 _ (List.mem_of_getElem? (i := 4) rfl)
theorem m_2_11 : Cond.classLink RX11 49 RX7 ∈ wsL_law := ch_2 _ (List.mem_of_getElem? (i := 11) rfl)
theorem m_2_12 : Cond.instantiable RX7 7 ∈ wsL_law := ch_2 _ (List.mem_of_getElem? (i := 12) rfl)
theorem m_2_16 : Cond.classLink RX11 59 RX2 ∈ wsL_law := ch_2 _ (List.mem_of_getElem? (i := 16) rfl)
theorem m_2_17 : Cond.instantiable RX2 4 ∈ wsL_law := ch_2 _ (List.mem_of_getElem? (i := 17) rfl)
theorem m_2_20 : Cond.classLink RX11 66 RX8 ∈ wsL_law := ch_2 _ (List.mem_of_getElem? (i := 20) rfl)
theorem m_2_21 : Cond.instantiable RX8 6 ∈ wsL_law := ch_2 _ (List.mem_of_getElem? (i := 21) rfl)
theorem m_3_0 : Cond.classLink RX11 73 RX6 ∈ wsL_law := ch_3 _ (List.mem_of_getElem? (i := 0) rfl)
theorem m_3_1 : Cond.instantiable RX6 10 ∈ wsL_law := ch_3 _ (List.mem_of_getElem? (i := 1) rfl)
theorem m_3_11 : Cond.instanceMethod yX9_init ∈ wsL_law := ch_3 _ (List.mem_of_getElem? (i := 11) rfl)
theorem m_3_12 : Cond.code yX9_init cX9_init 1 none ∈ wsL_law := ch_3 _ (List.mem_of_getElem? (i := 12) rfl)
theorem m_3_13 : Cond.methodLink RX9 3 objectInit ∈ wsL_law := ch_3 _ (List.mem_of_getElem? (i := 13) rfl)
theorem m_3_17 : Cond.instanceMethod yX5_init ∈ wsL_law := ch_3 _ (List.mem_of_getElem? (i := 17) rfl)
theorem m_3_18 : Cond.code yX5_init cX5_init 1 none ∈ wsL_law := ch_3 _ (List.mem_of_getElem? (i := 18) rfl)
theorem m_3_19 : Cond.methodLink RX5 3 objectInit ∈ wsL_law := ch_3 _ (List.mem_of_getElem? (i := 19) rfl)
theorem m_3_20 : Cond.classLink RX5 9 RX3 ∈ wsL_law := ch_3 _ (List.mem_of_getElem? (i := 20) rfl)
theorem m_3_21 : Cond.instantiable RX3 7 ∈ wsL_law := ch_3 _ (List.mem_of_getElem? (i := 21) rfl)
theorem m_4_0 : Cond.classLink RX5 18 RJx4a65c ∈ wsL_law := ch_4 _ (List.mem_of_getElem? (i := 0) rfl)
theorem m_4_8 : Cond.methodLink RX5 11 yX3_init ∈ wsL_law := ch_4 _ (List.mem_of_getElem? (i := 8) rfl)
theorem m_4_9 : Cond.instanceMethod yX3_init ∈ wsL_law := ch_4 _ (List.mem_of_getElem? (i := 9) rfl)
theorem m_4_10 : Cond.code yX3_init cX3_init 3 none ∈ wsL_law := ch_4 _ (List.mem_of_getElem? (i := 10) rfl)
theorem m_4_11 : Cond.methodLink RX3 3 objectInit ∈ wsL_law := ch_4 _ (List.mem_of_getElem? (i := 11) rfl)
theorem m_4_13 : Cond.classLink RX3 15 "[[I" ∈ wsL_law := ch_4 _ (List.mem_of_getElem? (i := 13) rfl)
theorem m_4_18 : Cond.fieldLink RX3 29 "PaperBoys$City" "owners" "[I" ∈ wsL_law := ch_4 _ (List.mem_of_getElem? (i := 18) rfl)
theorem m_4_19 : Cond.fieldLink RX3 32 "PaperBoys$City" "minutes" "[[I" ∈ wsL_law := ch_4 _ (List.mem_of_getElem? (i := 19) rfl)
theorem m_4_20 : Cond.methodLink RX5 20 yJx4a65c_init_da8c8 ∈ wsL_law := ch_4 _ (List.mem_of_getElem? (i := 20) rfl)
theorem m_4_21 : Cond.instanceMethod yJx4a65c_init_da8c8 ∈ wsL_law := ch_4 _ (List.mem_of_getElem? (i := 21) rfl)
theorem m_4_22 : Cond.code yJx4a65c_init_da8c8 cJx4a65c_init_da8c8 1 none ∈ wsL_law := ch_4 _ (List.mem_of_getElem? (i := 22) rfl)
theorem m_5_1 : Cond.methodLink RJx4a65c 1 yJxc12de_init_da8c8 ∈ wsL_law := ch_5 _ (List.mem_of_getElem? (i := 1) rfl)
theorem m_5_2 : Cond.instanceMethod yJxc12de_init_da8c8 ∈ wsL_law := ch_5 _ (List.mem_of_getElem? (i := 2) rfl)
theorem m_5_3 : Cond.initialized RJxc12de ∈ wsL_law := ch_5 _ (List.mem_of_getElem? (i := 3) rfl)
theorem m_5_4 : Cond.code yJxc12de_init_da8c8 cJxc12de_init_da8c8 1 none ∈ wsL_law := ch_5 _ (List.mem_of_getElem? (i := 4) rfl)
theorem m_5_5 : Cond.fieldLink RJxc12de 7 "java/util/AbstractList" "modCount" "I" ∈ wsL_law := ch_5 _ (List.mem_of_getElem? (i := 5) rfl)
theorem m_5_6 : Cond.methodLink RJxc12de 1 yJxa1e45_init_da8c8 ∈ wsL_law := ch_5 _ (List.mem_of_getElem? (i := 6) rfl)
theorem m_5_7 : Cond.instanceMethod yJxa1e45_init_da8c8 ∈ wsL_law := ch_5 _ (List.mem_of_getElem? (i := 7) rfl)
theorem m_5_8 : Cond.initialized RJxa1e45 ∈ wsL_law := ch_5 _ (List.mem_of_getElem? (i := 8) rfl)
theorem m_5_9 : Cond.code yJxa1e45_init_da8c8 cJxa1e45_init_da8c8 1 none ∈ wsL_law := ch_5 _ (List.mem_of_getElem? (i := 9) rfl)
theorem m_5_10 : Cond.methodLink RJxa1e45 1 objectInit ∈ wsL_law := ch_5 _ (List.mem_of_getElem? (i := 10) rfl)
theorem m_5_11 : Cond.instanceMethod yX4_init ∈ wsL_law := ch_5 _ (List.mem_of_getElem? (i := 11) rfl)
theorem m_5_12 : Cond.code yX4_init cX4_init 1 none ∈ wsL_law := ch_5 _ (List.mem_of_getElem? (i := 12) rfl)
theorem m_5_13 : Cond.methodLink RX4 3 objectInit ∈ wsL_law := ch_5 _ (List.mem_of_getElem? (i := 13) rfl)
theorem m_5_18 : Cond.methodLink RX11 37 yJx4a65c_init_da8c8 ∈ wsL_law := ch_5 _ (List.mem_of_getElem? (i := 18) rfl)
theorem m_6_6 : Cond.instanceMethod yX7_init ∈ wsL_law := ch_6 _ (List.mem_of_getElem? (i := 6) rfl)
theorem m_6_7 : Cond.code yX7_init cX7_init 1 none ∈ wsL_law := ch_6 _ (List.mem_of_getElem? (i := 7) rfl)
theorem m_6_8 : Cond.methodLink RX7 3 objectInit ∈ wsL_law := ch_6 _ (List.mem_of_getElem? (i := 8) rfl)
theorem m_6_16 : Cond.instanceMethod yX2_init ∈ wsL_law := ch_6 _ (List.mem_of_getElem? (i := 16) rfl)
theorem m_6_17 : Cond.code yX2_init cX2_init 1 none ∈ wsL_law := ch_6 _ (List.mem_of_getElem? (i := 17) rfl)
theorem m_6_18 : Cond.methodLink RX2 3 objectInit ∈ wsL_law := ch_6 _ (List.mem_of_getElem? (i := 18) rfl)
theorem m_6_23 : Cond.instanceMethod yX8_init ∈ wsL_law := ch_6 _ (List.mem_of_getElem? (i := 23) rfl)
theorem m_7_0 : Cond.code yX8_init cX8_init 1 none ∈ wsL_law := ch_7 _ (List.mem_of_getElem? (i := 0) rfl)
theorem m_7_1 : Cond.methodLink RX8 3 objectInit ∈ wsL_law := ch_7 _ (List.mem_of_getElem? (i := 1) rfl)
theorem m_7_8 : Cond.instanceMethod yX6_init ∈ wsL_law := ch_7 _ (List.mem_of_getElem? (i := 8) rfl)
theorem m_7_9 : Cond.code yX6_init cX6_init 1 none ∈ wsL_law := ch_7 _ (List.mem_of_getElem? (i := 9) rfl)
theorem m_7_10 : Cond.methodLink RX6 3 objectInit ∈ wsL_law := ch_7 _ (List.mem_of_getElem? (i := 10) rfl)
theorem m_7_18 : Cond.arrayClass .boolean ∈ wsL_law := ch_7 _ (List.mem_of_getElem? (i := 18) rfl)
theorem m_8_1 : Cond.methodLink RX12 1 objectInit ∈ wsL_law := ch_8 _ (List.mem_of_getElem? (i := 1) rfl)
theorem dJx4a65c_init_da8c8_0 : decode cJx4a65c_init_da8c8 0 = .ok (.aload_n 0, 1) := by decide +kernel
theorem dJx4a65c_init_da8c8_1 : decode cJx4a65c_init_da8c8 1 = .ok (.invokespecial 1, 3) := by decide +kernel
theorem dJx4a65c_init_da8c8_4 : decode cJx4a65c_init_da8c8 4 = .ok (.aload_n 0, 1) := by decide +kernel
theorem dJx4a65c_init_da8c8_5 : decode cJx4a65c_init_da8c8 5 = .ok (.getstatic 39, 3) := by decide +kernel
theorem dJx4a65c_init_da8c8_8 : decode cJx4a65c_init_da8c8 8 = .ok (.putfield 9, 3) := by decide +kernel
theorem dJx4a65c_init_da8c8_11 : decode cJx4a65c_init_da8c8 11 = .ok (.return_, 1) := by decide +kernel
theorem dJxa1e45_init_da8c8_0 : decode cJxa1e45_init_da8c8 0 = .ok (.aload_n 0, 1) := by decide +kernel
theorem dJxa1e45_init_da8c8_1 : decode cJxa1e45_init_da8c8 1 = .ok (.invokespecial 1, 3) := by decide +kernel
theorem dJxa1e45_init_da8c8_4 : decode cJxa1e45_init_da8c8 4 = .ok (.return_, 1) := by decide +kernel
theorem dJxc12de_init_da8c8_0 : decode cJxc12de_init_da8c8 0 = .ok (.aload_n 0, 1) := by decide +kernel
theorem dJxc12de_init_da8c8_1 : decode cJxc12de_init_da8c8 1 = .ok (.invokespecial 1, 3) := by decide +kernel
theorem dJxc12de_init_da8c8_4 : decode cJxc12de_init_da8c8 4 = .ok (.aload_n 0, 1) := by decide +kernel
theorem dJxc12de_init_da8c8_5 : decode cJxc12de_init_da8c8 5 = .ok (.iconst 0, 1) := by decide +kernel
theorem dJxc12de_init_da8c8_6 : decode cJxc12de_init_da8c8 6 = .ok (.putfield 7, 3) := by decide +kernel
theorem dJxc12de_init_da8c8_9 : decode cJxc12de_init_da8c8 9 = .ok (.return_, 1) := by decide +kernel
theorem dX11_init_0 : decode cX11_init 0 = .ok (.aload_n 0, 1) := by decide +kernel
theorem dX11_init_1 : decode cX11_init 1 = .ok (.invokespecial 1, 3) := by decide +kernel
theorem dX11_init_4 : decode cX11_init 4 = .ok (.aload_n 0, 1) := by decide +kernel
theorem dX11_init_5 : decode cX11_init 5 = .ok (.new 7, 3) := by decide +kernel
theorem dX11_init_8 : decode cX11_init 8 = .ok (.dup, 1) := by decide +kernel
theorem dX11_init_9 : decode cX11_init 9 = .ok (.invokespecial 9, 3) := by decide +kernel
theorem dX11_init_12 : decode cX11_init 12 = .ok (.putfield 10, 3) := by decide +kernel
theorem dX11_init_15 : decode cX11_init 15 = .ok (.aload_n 0, 1) := by decide +kernel
theorem dX11_init_16 : decode cX11_init 16 = .ok (.new 16, 3) := by decide +kernel
theorem dX11_init_19 : decode cX11_init 19 = .ok (.dup, 1) := by decide +kernel
theorem dX11_init_20 : decode cX11_init 20 = .ok (.invokespecial 18, 3) := by decide +kernel
theorem dX11_init_23 : decode cX11_init 23 = .ok (.putfield 19, 3) := by decide +kernel
theorem dX11_init_26 : decode cX11_init 26 = .ok (.aload_n 0, 1) := by decide +kernel
theorem dX11_init_27 : decode cX11_init 27 = .ok (.aload_n 0, 1) := by decide +kernel
theorem dX11_init_28 : decode cX11_init 28 = .ok (.getfield 19, 3) := by decide +kernel
theorem dX11_init_31 : decode cX11_init 31 = .ok (.getfield 23, 3) := by decide +kernel
theorem dX11_init_34 : decode cX11_init 34 = .ok (.putfield 27, 3) := by decide +kernel
theorem dX11_init_37 : decode cX11_init 37 = .ok (.aload_n 0, 1) := by decide +kernel
theorem dX11_init_38 : decode cX11_init 38 = .ok (.new 28, 3) := by decide +kernel
theorem dX11_init_41 : decode cX11_init 41 = .ok (.dup, 1) := by decide +kernel
theorem dX11_init_42 : decode cX11_init 42 = .ok (.invokespecial 30, 3) := by decide +kernel
theorem dX11_init_45 : decode cX11_init 45 = .ok (.putfield 31, 3) := by decide +kernel
theorem dX11_init_48 : decode cX11_init 48 = .ok (.aload_n 0, 1) := by decide +kernel
theorem dX11_init_49 : decode cX11_init 49 = .ok (.new 35, 3) := by decide +kernel
theorem dX11_init_52 : decode cX11_init 52 = .ok (.dup, 1) := by decide +kernel
theorem dX11_init_53 : decode cX11_init 53 = .ok (.invokespecial 37, 3) := by decide +kernel
theorem dX11_init_56 : decode cX11_init 56 = .ok (.putfield 38, 3) := by decide +kernel
theorem dX11_init_59 : decode cX11_init 59 = .ok (.aload_n 0, 1) := by decide +kernel
theorem dX11_init_60 : decode cX11_init 60 = .ok (.new 42, 3) := by decide +kernel
theorem dX11_init_63 : decode cX11_init 63 = .ok (.dup, 1) := by decide +kernel
theorem dX11_init_64 : decode cX11_init 64 = .ok (.invokespecial 44, 3) := by decide +kernel
theorem dX11_init_67 : decode cX11_init 67 = .ok (.putfield 45, 3) := by decide +kernel
theorem dX11_init_70 : decode cX11_init 70 = .ok (.aload_n 0, 1) := by decide +kernel
theorem dX11_init_71 : decode cX11_init 71 = .ok (.new 49, 3) := by decide +kernel
theorem dX11_init_74 : decode cX11_init 74 = .ok (.dup, 1) := by decide +kernel
theorem dX11_init_75 : decode cX11_init 75 = .ok (.invokespecial 51, 3) := by decide +kernel
theorem dX11_init_78 : decode cX11_init 78 = .ok (.putfield 52, 3) := by decide +kernel
theorem dX11_init_81 : decode cX11_init 81 = .ok (.aload_n 0, 1) := by decide +kernel
theorem dX11_init_82 : decode cX11_init 82 = .ok (.new 42, 3) := by decide +kernel
theorem dX11_init_85 : decode cX11_init 85 = .ok (.dup, 1) := by decide +kernel
theorem dX11_init_86 : decode cX11_init 86 = .ok (.invokespecial 44, 3) := by decide +kernel
theorem dX11_init_89 : decode cX11_init 89 = .ok (.putfield 56, 3) := by decide +kernel
theorem dX11_init_92 : decode cX11_init 92 = .ok (.aload_n 0, 1) := by decide +kernel
theorem dX11_init_93 : decode cX11_init 93 = .ok (.new 59, 3) := by decide +kernel
theorem dX11_init_96 : decode cX11_init 96 = .ok (.dup, 1) := by decide +kernel
theorem dX11_init_97 : decode cX11_init 97 = .ok (.invokespecial 61, 3) := by decide +kernel
theorem dX11_init_100 : decode cX11_init 100 = .ok (.putfield 62, 3) := by decide +kernel
theorem dX11_init_103 : decode cX11_init 103 = .ok (.aload_n 0, 1) := by decide +kernel
theorem dX11_init_104 : decode cX11_init 104 = .ok (.new 66, 3) := by decide +kernel
theorem dX11_init_107 : decode cX11_init 107 = .ok (.dup, 1) := by decide +kernel
theorem dX11_init_108 : decode cX11_init 108 = .ok (.invokespecial 68, 3) := by decide +kernel
theorem dX11_init_111 : decode cX11_init 111 = .ok (.putfield 69, 3) := by decide +kernel
theorem dX11_init_114 : decode cX11_init 114 = .ok (.aload_n 0, 1) := by decide +kernel
theorem dX11_init_115 : decode cX11_init 115 = .ok (.new 73, 3) := by decide +kernel
theorem dX11_init_118 : decode cX11_init 118 = .ok (.dup, 1) := by decide +kernel
theorem dX11_init_119 : decode cX11_init 119 = .ok (.invokespecial 75, 3) := by decide +kernel
theorem dX11_init_122 : decode cX11_init 122 = .ok (.putfield 76, 3) := by decide +kernel
theorem dX11_init_125 : decode cX11_init 125 = .ok (.aload_n 0, 1) := by decide +kernel
theorem dX11_init_126 : decode cX11_init 126 = .ok (.new 73, 3) := by decide +kernel
theorem dX11_init_129 : decode cX11_init 129 = .ok (.dup, 1) := by decide +kernel
theorem dX11_init_130 : decode cX11_init 130 = .ok (.invokespecial 75, 3) := by decide +kernel
theorem dX11_init_133 : decode cX11_init 133 = .ok (.putfield 80, 3) := by decide +kernel
theorem dX11_init_136 : decode cX11_init 136 = .ok (.aload_n 0, 1) := by decide +kernel
theorem dX11_init_137 : decode cX11_init 137 = .ok (.iconst 0, 1) := by decide +kernel
theorem dX11_init_138 : decode cX11_init 138 = .ok (.putfield 83, 3) := by decide +kernel
theorem dX11_init_141 : decode cX11_init 141 = .ok (.aload_n 0, 1) := by decide +kernel
theorem dX11_init_142 : decode cX11_init 142 = .ok (.iconst 0, 1) := by decide +kernel
theorem dX11_init_143 : decode cX11_init 143 = .ok (.putfield 87, 3) := by decide +kernel
theorem dX11_init_146 : decode cX11_init 146 = .ok (.aload_n 0, 1) := by decide +kernel
theorem dX11_init_147 : decode cX11_init 147 = .ok (.iconst (-1), 1) := by decide +kernel
theorem dX11_init_148 : decode cX11_init 148 = .ok (.putfield 90, 3) := by decide +kernel
theorem dX11_init_151 : decode cX11_init 151 = .ok (.aload_n 0, 1) := by decide +kernel
theorem dX11_init_152 : decode cX11_init 152 = .ok (.iconst (-1), 1) := by decide +kernel
theorem dX11_init_153 : decode cX11_init 153 = .ok (.putfield 93, 3) := by decide +kernel
theorem dX11_init_156 : decode cX11_init 156 = .ok (.aload_n 0, 1) := by decide +kernel
theorem dX11_init_157 : decode cX11_init 157 = .ok (.iconst (-1), 1) := by decide +kernel
theorem dX11_init_158 : decode cX11_init 158 = .ok (.putfield 96, 3) := by decide +kernel
theorem dX11_init_161 : decode cX11_init 161 = .ok (.aload_n 0, 1) := by decide +kernel
theorem dX11_init_162 : decode cX11_init 162 = .ok (.iconst (-1), 1) := by decide +kernel
theorem dX11_init_163 : decode cX11_init 163 = .ok (.putfield 99, 3) := by decide +kernel
theorem dX11_init_166 : decode cX11_init 166 = .ok (.return_, 1) := by decide +kernel
theorem dX12_init_0 : decode cX12_init 0 = .ok (.aload_n 0, 1) := by decide +kernel
theorem dX12_init_1 : decode cX12_init 1 = .ok (.invokespecial 1, 3) := by decide +kernel
theorem dX12_init_4 : decode cX12_init 4 = .ok (.aload_n 0, 1) := by decide +kernel
theorem dX12_init_5 : decode cX12_init 5 = .ok (.sipush 420, 3) := by decide +kernel
theorem dX12_init_8 : decode cX12_init 8 = .ok (.newarray .int, 2) := by decide +kernel
theorem dX12_init_10 : decode cX12_init 10 = .ok (.putfield 7, 3) := by decide +kernel
theorem dX12_init_13 : decode cX12_init 13 = .ok (.aload_n 0, 1) := by decide +kernel
theorem dX12_init_14 : decode cX12_init 14 = .ok (.bipush 40, 2) := by decide +kernel
theorem dX12_init_16 : decode cX12_init 16 = .ok (.newarray .int, 2) := by decide +kernel
theorem dX12_init_18 : decode cX12_init 18 = .ok (.putfield 13, 3) := by decide +kernel
theorem dX12_init_21 : decode cX12_init 21 = .ok (.aload_n 0, 1) := by decide +kernel
theorem dX12_init_22 : decode cX12_init 22 = .ok (.bipush 40, 2) := by decide +kernel
theorem dX12_init_24 : decode cX12_init 24 = .ok (.newarray .int, 2) := by decide +kernel
theorem dX12_init_26 : decode cX12_init 26 = .ok (.putfield 16, 3) := by decide +kernel
theorem dX12_init_29 : decode cX12_init 29 = .ok (.aload_n 0, 1) := by decide +kernel
theorem dX12_init_30 : decode cX12_init 30 = .ok (.bipush 40, 2) := by decide +kernel
theorem dX12_init_32 : decode cX12_init 32 = .ok (.newarray .int, 2) := by decide +kernel
theorem dX12_init_34 : decode cX12_init 34 = .ok (.putfield 19, 3) := by decide +kernel
theorem dX12_init_37 : decode cX12_init 37 = .ok (.aload_n 0, 1) := by decide +kernel
theorem dX12_init_38 : decode cX12_init 38 = .ok (.bipush 40, 2) := by decide +kernel
theorem dX12_init_40 : decode cX12_init 40 = .ok (.newarray .int, 2) := by decide +kernel
theorem dX12_init_42 : decode cX12_init 42 = .ok (.putfield 22, 3) := by decide +kernel
theorem dX12_init_45 : decode cX12_init 45 = .ok (.aload_n 0, 1) := by decide +kernel
theorem dX12_init_46 : decode cX12_init 46 = .ok (.bipush 40, 2) := by decide +kernel
theorem dX12_init_48 : decode cX12_init 48 = .ok (.newarray .boolean, 2) := by decide +kernel
theorem dX12_init_50 : decode cX12_init 50 = .ok (.putfield 25, 3) := by decide +kernel
theorem dX12_init_53 : decode cX12_init 53 = .ok (.aload_n 0, 1) := by decide +kernel
theorem dX12_init_54 : decode cX12_init 54 = .ok (.bipush 10, 2) := by decide +kernel
theorem dX12_init_56 : decode cX12_init 56 = .ok (.newarray .int, 2) := by decide +kernel
theorem dX12_init_58 : decode cX12_init 58 = .ok (.dup, 1) := by decide +kernel
theorem dX12_init_59 : decode cX12_init 59 = .ok (.iconst 0, 1) := by decide +kernel
theorem dX12_init_60 : decode cX12_init 60 = .ok (.iconst (-1), 1) := by decide +kernel
theorem dX12_init_61 : decode cX12_init 61 = .ok (.iastore, 1) := by decide +kernel
theorem dX12_init_62 : decode cX12_init 62 = .ok (.dup, 1) := by decide +kernel
theorem dX12_init_63 : decode cX12_init 63 = .ok (.iconst 1, 1) := by decide +kernel
theorem dX12_init_64 : decode cX12_init 64 = .ok (.iconst (-1), 1) := by decide +kernel
theorem dX12_init_65 : decode cX12_init 65 = .ok (.iastore, 1) := by decide +kernel
theorem dX12_init_66 : decode cX12_init 66 = .ok (.dup, 1) := by decide +kernel
theorem dX12_init_67 : decode cX12_init 67 = .ok (.iconst 2, 1) := by decide +kernel
theorem dX12_init_68 : decode cX12_init 68 = .ok (.iconst (-1), 1) := by decide +kernel
theorem dX12_init_69 : decode cX12_init 69 = .ok (.iastore, 1) := by decide +kernel
theorem dX12_init_70 : decode cX12_init 70 = .ok (.dup, 1) := by decide +kernel
theorem dX12_init_71 : decode cX12_init 71 = .ok (.iconst 3, 1) := by decide +kernel
theorem dX12_init_72 : decode cX12_init 72 = .ok (.iconst (-1), 1) := by decide +kernel
theorem dX12_init_73 : decode cX12_init 73 = .ok (.iastore, 1) := by decide +kernel
theorem dX12_init_74 : decode cX12_init 74 = .ok (.dup, 1) := by decide +kernel
theorem dX12_init_75 : decode cX12_init 75 = .ok (.iconst 4, 1) := by decide +kernel
theorem dX12_init_76 : decode cX12_init 76 = .ok (.iconst (-1), 1) := by decide +kernel
theorem dX12_init_77 : decode cX12_init 77 = .ok (.iastore, 1) := by decide +kernel
theorem dX12_init_78 : decode cX12_init 78 = .ok (.dup, 1) := by decide +kernel
theorem dX12_init_79 : decode cX12_init 79 = .ok (.iconst 5, 1) := by decide +kernel
theorem dX12_init_80 : decode cX12_init 80 = .ok (.iconst (-1), 1) := by decide +kernel
theorem dX12_init_81 : decode cX12_init 81 = .ok (.iastore, 1) := by decide +kernel
theorem dX12_init_82 : decode cX12_init 82 = .ok (.dup, 1) := by decide +kernel
theorem dX12_init_83 : decode cX12_init 83 = .ok (.bipush 6, 2) := by decide +kernel
theorem dX12_init_85 : decode cX12_init 85 = .ok (.iconst (-1), 1) := by decide +kernel
theorem dX12_init_86 : decode cX12_init 86 = .ok (.iastore, 1) := by decide +kernel
theorem dX12_init_87 : decode cX12_init 87 = .ok (.dup, 1) := by decide +kernel
theorem dX12_init_88 : decode cX12_init 88 = .ok (.bipush 7, 2) := by decide +kernel
theorem dX12_init_90 : decode cX12_init 90 = .ok (.iconst (-1), 1) := by decide +kernel
theorem dX12_init_91 : decode cX12_init 91 = .ok (.iastore, 1) := by decide +kernel
theorem dX12_init_92 : decode cX12_init 92 = .ok (.dup, 1) := by decide +kernel
theorem dX12_init_93 : decode cX12_init 93 = .ok (.bipush 8, 2) := by decide +kernel
theorem dX12_init_95 : decode cX12_init 95 = .ok (.iconst (-1), 1) := by decide +kernel
theorem dX12_init_96 : decode cX12_init 96 = .ok (.iastore, 1) := by decide +kernel
theorem dX12_init_97 : decode cX12_init 97 = .ok (.dup, 1) := by decide +kernel
theorem dX12_init_98 : decode cX12_init 98 = .ok (.bipush 9, 2) := by decide +kernel
theorem dX12_init_100 : decode cX12_init 100 = .ok (.iconst (-1), 1) := by decide +kernel
theorem dX12_init_101 : decode cX12_init 101 = .ok (.iastore, 1) := by decide +kernel
theorem dX12_init_102 : decode cX12_init 102 = .ok (.putfield 29, 3) := by decide +kernel
theorem dX12_init_105 : decode cX12_init 105 = .ok (.aload_n 0, 1) := by decide +kernel
theorem dX12_init_106 : decode cX12_init 106 = .ok (.sipush 400, 3) := by decide +kernel
theorem dX12_init_109 : decode cX12_init 109 = .ok (.newarray .int, 2) := by decide +kernel
theorem dX12_init_111 : decode cX12_init 111 = .ok (.putfield 32, 3) := by decide +kernel
theorem dX12_init_114 : decode cX12_init 114 = .ok (.aload_n 0, 1) := by decide +kernel
theorem dX12_init_115 : decode cX12_init 115 = .ok (.sipush 1600, 3) := by decide +kernel
theorem dX12_init_118 : decode cX12_init 118 = .ok (.newarray .int, 2) := by decide +kernel
theorem dX12_init_120 : decode cX12_init 120 = .ok (.putfield 35, 3) := by decide +kernel
theorem dX12_init_123 : decode cX12_init 123 = .ok (.aload_n 0, 1) := by decide +kernel
theorem dX12_init_124 : decode cX12_init 124 = .ok (.bipush 40, 2) := by decide +kernel
theorem dX12_init_126 : decode cX12_init 126 = .ok (.newarray .int, 2) := by decide +kernel
theorem dX12_init_128 : decode cX12_init 128 = .ok (.putfield 38, 3) := by decide +kernel
theorem dX12_init_131 : decode cX12_init 131 = .ok (.aload_n 0, 1) := by decide +kernel
theorem dX12_init_132 : decode cX12_init 132 = .ok (.iconst 4, 1) := by decide +kernel
theorem dX12_init_133 : decode cX12_init 133 = .ok (.newarray .int, 2) := by decide +kernel
theorem dX12_init_135 : decode cX12_init 135 = .ok (.dup, 1) := by decide +kernel
theorem dX12_init_136 : decode cX12_init 136 = .ok (.iconst 0, 1) := by decide +kernel
theorem dX12_init_137 : decode cX12_init 137 = .ok (.bipush 100, 2) := by decide +kernel
theorem dX12_init_139 : decode cX12_init 139 = .ok (.iastore, 1) := by decide +kernel
theorem dX12_init_140 : decode cX12_init 140 = .ok (.dup, 1) := by decide +kernel
theorem dX12_init_141 : decode cX12_init 141 = .ok (.iconst 1, 1) := by decide +kernel
theorem dX12_init_142 : decode cX12_init 142 = .ok (.bipush 100, 2) := by decide +kernel
theorem dX12_init_144 : decode cX12_init 144 = .ok (.iastore, 1) := by decide +kernel
theorem dX12_init_145 : decode cX12_init 145 = .ok (.dup, 1) := by decide +kernel
theorem dX12_init_146 : decode cX12_init 146 = .ok (.iconst 2, 1) := by decide +kernel
theorem dX12_init_147 : decode cX12_init 147 = .ok (.bipush 100, 2) := by decide +kernel
theorem dX12_init_149 : decode cX12_init 149 = .ok (.iastore, 1) := by decide +kernel
theorem dX12_init_150 : decode cX12_init 150 = .ok (.dup, 1) := by decide +kernel
theorem dX12_init_151 : decode cX12_init 151 = .ok (.iconst 3, 1) := by decide +kernel
theorem dX12_init_152 : decode cX12_init 152 = .ok (.bipush 100, 2) := by decide +kernel
theorem dX12_init_154 : decode cX12_init 154 = .ok (.iastore, 1) := by decide +kernel
theorem dX12_init_155 : decode cX12_init 155 = .ok (.putfield 41, 3) := by decide +kernel
theorem dX12_init_158 : decode cX12_init 158 = .ok (.aload_n 0, 1) := by decide +kernel
theorem dX12_init_159 : decode cX12_init 159 = .ok (.bipush 6, 2) := by decide +kernel
theorem dX12_init_161 : decode cX12_init 161 = .ok (.newarray .int, 2) := by decide +kernel
theorem dX12_init_163 : decode cX12_init 163 = .ok (.dup, 1) := by decide +kernel
theorem dX12_init_164 : decode cX12_init 164 = .ok (.iconst 0, 1) := by decide +kernel
theorem dX12_init_165 : decode cX12_init 165 = .ok (.bipush 100, 2) := by decide +kernel
theorem dX12_init_167 : decode cX12_init 167 = .ok (.iastore, 1) := by decide +kernel
theorem dX12_init_168 : decode cX12_init 168 = .ok (.dup, 1) := by decide +kernel
theorem dX12_init_169 : decode cX12_init 169 = .ok (.iconst 1, 1) := by decide +kernel
theorem dX12_init_170 : decode cX12_init 170 = .ok (.bipush 100, 2) := by decide +kernel
theorem dX12_init_172 : decode cX12_init 172 = .ok (.iastore, 1) := by decide +kernel
theorem dX12_init_173 : decode cX12_init 173 = .ok (.dup, 1) := by decide +kernel
theorem dX12_init_174 : decode cX12_init 174 = .ok (.iconst 2, 1) := by decide +kernel
theorem dX12_init_175 : decode cX12_init 175 = .ok (.bipush 100, 2) := by decide +kernel
theorem dX12_init_177 : decode cX12_init 177 = .ok (.iastore, 1) := by decide +kernel
theorem dX12_init_178 : decode cX12_init 178 = .ok (.dup, 1) := by decide +kernel
theorem dX12_init_179 : decode cX12_init 179 = .ok (.iconst 3, 1) := by decide +kernel
theorem dX12_init_180 : decode cX12_init 180 = .ok (.bipush 100, 2) := by decide +kernel
theorem dX12_init_182 : decode cX12_init 182 = .ok (.iastore, 1) := by decide +kernel
theorem dX12_init_183 : decode cX12_init 183 = .ok (.dup, 1) := by decide +kernel
theorem dX12_init_184 : decode cX12_init 184 = .ok (.iconst 4, 1) := by decide +kernel
theorem dX12_init_185 : decode cX12_init 185 = .ok (.bipush 100, 2) := by decide +kernel
theorem dX12_init_187 : decode cX12_init 187 = .ok (.iastore, 1) := by decide +kernel
theorem dX12_init_188 : decode cX12_init 188 = .ok (.dup, 1) := by decide +kernel
theorem dX12_init_189 : decode cX12_init 189 = .ok (.iconst 5, 1) := by decide +kernel
theorem dX12_init_190 : decode cX12_init 190 = .ok (.bipush 100, 2) := by decide +kernel
theorem dX12_init_192 : decode cX12_init 192 = .ok (.iastore, 1) := by decide +kernel
theorem dX12_init_193 : decode cX12_init 193 = .ok (.putfield 44, 3) := by decide +kernel
theorem dX12_init_196 : decode cX12_init 196 = .ok (.aload_n 0, 1) := by decide +kernel
theorem dX12_init_197 : decode cX12_init 197 = .ok (.bipush 100, 2) := by decide +kernel
theorem dX12_init_199 : decode cX12_init 199 = .ok (.newarray .int, 2) := by decide +kernel
theorem dX12_init_201 : decode cX12_init 201 = .ok (.putfield 47, 3) := by decide +kernel
theorem dX12_init_204 : decode cX12_init 204 = .ok (.aload_n 0, 1) := by decide +kernel
theorem dX12_init_205 : decode cX12_init 205 = .ok (.bipush 11, 2) := by decide +kernel
theorem dX12_init_207 : decode cX12_init 207 = .ok (.newarray .int, 2) := by decide +kernel
theorem dX12_init_209 : decode cX12_init 209 = .ok (.putfield 50, 3) := by decide +kernel
theorem dX12_init_212 : decode cX12_init 212 = .ok (.aload_n 0, 1) := by decide +kernel
theorem dX12_init_213 : decode cX12_init 213 = .ok (.bipush 11, 2) := by decide +kernel
theorem dX12_init_215 : decode cX12_init 215 = .ok (.newarray .int, 2) := by decide +kernel
theorem dX12_init_217 : decode cX12_init 217 = .ok (.putfield 53, 3) := by decide +kernel
theorem dX12_init_220 : decode cX12_init 220 = .ok (.aload_n 0, 1) := by decide +kernel
theorem dX12_init_221 : decode cX12_init 221 = .ok (.sipush 176, 3) := by decide +kernel
theorem dX12_init_224 : decode cX12_init 224 = .ok (.newarray .int, 2) := by decide +kernel
theorem dX12_init_226 : decode cX12_init 226 = .ok (.putfield 56, 3) := by decide +kernel
theorem dX12_init_229 : decode cX12_init 229 = .ok (.aload_n 0, 1) := by decide +kernel
theorem dX12_init_230 : decode cX12_init 230 = .ok (.sipush 176, 3) := by decide +kernel
theorem dX12_init_233 : decode cX12_init 233 = .ok (.newarray .int, 2) := by decide +kernel
theorem dX12_init_235 : decode cX12_init 235 = .ok (.putfield 59, 3) := by decide +kernel
theorem dX12_init_238 : decode cX12_init 238 = .ok (.aload_n 0, 1) := by decide +kernel
theorem dX12_init_239 : decode cX12_init 239 = .ok (.sipush 176, 3) := by decide +kernel
theorem dX12_init_242 : decode cX12_init 242 = .ok (.newarray .int, 2) := by decide +kernel
theorem dX12_init_244 : decode cX12_init 244 = .ok (.putfield 62, 3) := by decide +kernel
theorem dX12_init_247 : decode cX12_init 247 = .ok (.aload_n 0, 1) := by decide +kernel
theorem dX12_init_248 : decode cX12_init 248 = .ok (.sipush 176, 3) := by decide +kernel
theorem dX12_init_251 : decode cX12_init 251 = .ok (.newarray .int, 2) := by decide +kernel
theorem dX12_init_253 : decode cX12_init 253 = .ok (.putfield 65, 3) := by decide +kernel
theorem dX12_init_256 : decode cX12_init 256 = .ok (.aload_n 0, 1) := by decide +kernel
theorem dX12_init_257 : decode cX12_init 257 = .ok (.sipush 1320, 3) := by decide +kernel
theorem dX12_init_260 : decode cX12_init 260 = .ok (.newarray .int, 2) := by decide +kernel
theorem dX12_init_262 : decode cX12_init 262 = .ok (.putfield 68, 3) := by decide +kernel
theorem dX12_init_265 : decode cX12_init 265 = .ok (.aload_n 0, 1) := by decide +kernel
theorem dX12_init_266 : decode cX12_init 266 = .ok (.sipush 1320, 3) := by decide +kernel
theorem dX12_init_269 : decode cX12_init 269 = .ok (.newarray .int, 2) := by decide +kernel
theorem dX12_init_271 : decode cX12_init 271 = .ok (.putfield 71, 3) := by decide +kernel
theorem dX12_init_274 : decode cX12_init 274 = .ok (.aload_n 0, 1) := by decide +kernel
theorem dX12_init_275 : decode cX12_init 275 = .ok (.sipush 1320, 3) := by decide +kernel
theorem dX12_init_278 : decode cX12_init 278 = .ok (.newarray .int, 2) := by decide +kernel
theorem dX12_init_280 : decode cX12_init 280 = .ok (.putfield 74, 3) := by decide +kernel
theorem dX12_init_283 : decode cX12_init 283 = .ok (.aload_n 0, 1) := by decide +kernel
theorem dX12_init_284 : decode cX12_init 284 = .ok (.bipush 64, 2) := by decide +kernel
theorem dX12_init_286 : decode cX12_init 286 = .ok (.newarray .int, 2) := by decide +kernel
theorem dX12_init_288 : decode cX12_init 288 = .ok (.putfield 77, 3) := by decide +kernel
theorem dX12_init_291 : decode cX12_init 291 = .ok (.aload_n 0, 1) := by decide +kernel
theorem dX12_init_292 : decode cX12_init 292 = .ok (.bipush 12, 2) := by decide +kernel
theorem dX12_init_294 : decode cX12_init 294 = .ok (.newarray .int, 2) := by decide +kernel
theorem dX12_init_296 : decode cX12_init 296 = .ok (.putfield 80, 3) := by decide +kernel
theorem dX12_init_299 : decode cX12_init 299 = .ok (.aload_n 0, 1) := by decide +kernel
theorem dX12_init_300 : decode cX12_init 300 = .ok (.bipush 64, 2) := by decide +kernel
theorem dX12_init_302 : decode cX12_init 302 = .ok (.newarray .boolean, 2) := by decide +kernel
theorem dX12_init_304 : decode cX12_init 304 = .ok (.putfield 83, 3) := by decide +kernel
theorem dX12_init_307 : decode cX12_init 307 = .ok (.aload_n 0, 1) := by decide +kernel
theorem dX12_init_308 : decode cX12_init 308 = .ok (.iconst (-1), 1) := by decide +kernel
theorem dX12_init_309 : decode cX12_init 309 = .ok (.putfield 86, 3) := by decide +kernel
theorem dX12_init_312 : decode cX12_init 312 = .ok (.aload_n 0, 1) := by decide +kernel
theorem dX12_init_313 : decode cX12_init 313 = .ok (.sipush 200, 3) := by decide +kernel
theorem dX12_init_316 : decode cX12_init 316 = .ok (.newarray .int, 2) := by decide +kernel
theorem dX12_init_318 : decode cX12_init 318 = .ok (.putfield 90, 3) := by decide +kernel
theorem dX12_init_321 : decode cX12_init 321 = .ok (.aload_n 0, 1) := by decide +kernel
theorem dX12_init_322 : decode cX12_init 322 = .ok (.sipush 200, 3) := by decide +kernel
theorem dX12_init_325 : decode cX12_init 325 = .ok (.newarray .int, 2) := by decide +kernel
theorem dX12_init_327 : decode cX12_init 327 = .ok (.putfield 93, 3) := by decide +kernel
theorem dX12_init_330 : decode cX12_init 330 = .ok (.aload_n 0, 1) := by decide +kernel
theorem dX12_init_331 : decode cX12_init 331 = .ok (.sipush 200, 3) := by decide +kernel
theorem dX12_init_334 : decode cX12_init 334 = .ok (.newarray .int, 2) := by decide +kernel
theorem dX12_init_336 : decode cX12_init 336 = .ok (.putfield 96, 3) := by decide +kernel
theorem dX12_init_339 : decode cX12_init 339 = .ok (.aload_n 0, 1) := by decide +kernel
theorem dX12_init_340 : decode cX12_init 340 = .ok (.sipush 200, 3) := by decide +kernel
theorem dX12_init_343 : decode cX12_init 343 = .ok (.newarray .int, 2) := by decide +kernel
theorem dX12_init_345 : decode cX12_init 345 = .ok (.putfield 99, 3) := by decide +kernel
theorem dX12_init_348 : decode cX12_init 348 = .ok (.aload_n 0, 1) := by decide +kernel
theorem dX12_init_349 : decode cX12_init 349 = .ok (.sipush 200, 3) := by decide +kernel
theorem dX12_init_352 : decode cX12_init 352 = .ok (.newarray .int, 2) := by decide +kernel
theorem dX12_init_354 : decode cX12_init 354 = .ok (.putfield 102, 3) := by decide +kernel
theorem dX12_init_357 : decode cX12_init 357 = .ok (.aload_n 0, 1) := by decide +kernel
theorem dX12_init_358 : decode cX12_init 358 = .ok (.sipush 200, 3) := by decide +kernel
theorem dX12_init_361 : decode cX12_init 361 = .ok (.newarray .int, 2) := by decide +kernel
theorem dX12_init_363 : decode cX12_init 363 = .ok (.putfield 105, 3) := by decide +kernel
theorem dX12_init_366 : decode cX12_init 366 = .ok (.aload_n 0, 1) := by decide +kernel
theorem dX12_init_367 : decode cX12_init 367 = .ok (.sipush 200, 3) := by decide +kernel
theorem dX12_init_370 : decode cX12_init 370 = .ok (.newarray .int, 2) := by decide +kernel
theorem dX12_init_372 : decode cX12_init 372 = .ok (.putfield 108, 3) := by decide +kernel
theorem dX12_init_375 : decode cX12_init 375 = .ok (.aload_n 0, 1) := by decide +kernel
theorem dX12_init_376 : decode cX12_init 376 = .ok (.sipush 200, 3) := by decide +kernel
theorem dX12_init_379 : decode cX12_init 379 = .ok (.newarray .int, 2) := by decide +kernel
theorem dX12_init_381 : decode cX12_init 381 = .ok (.putfield 111, 3) := by decide +kernel
theorem dX12_init_384 : decode cX12_init 384 = .ok (.aload_n 0, 1) := by decide +kernel
theorem dX12_init_385 : decode cX12_init 385 = .ok (.sipush 200, 3) := by decide +kernel
theorem dX12_init_388 : decode cX12_init 388 = .ok (.newarray .int, 2) := by decide +kernel
theorem dX12_init_390 : decode cX12_init 390 = .ok (.putfield 114, 3) := by decide +kernel
theorem dX12_init_393 : decode cX12_init 393 = .ok (.aload_n 0, 1) := by decide +kernel
theorem dX12_init_394 : decode cX12_init 394 = .ok (.sipush 200, 3) := by decide +kernel
theorem dX12_init_397 : decode cX12_init 397 = .ok (.newarray .int, 2) := by decide +kernel
theorem dX12_init_399 : decode cX12_init 399 = .ok (.putfield 117, 3) := by decide +kernel
theorem dX12_init_402 : decode cX12_init 402 = .ok (.aload_n 0, 1) := by decide +kernel
theorem dX12_init_403 : decode cX12_init 403 = .ok (.iconst (-1), 1) := by decide +kernel
theorem dX12_init_404 : decode cX12_init 404 = .ok (.putfield 120, 3) := by decide +kernel
theorem dX12_init_407 : decode cX12_init 407 = .ok (.aload_n 0, 1) := by decide +kernel
theorem dX12_init_408 : decode cX12_init 408 = .ok (.sipush 200, 3) := by decide +kernel
theorem dX12_init_411 : decode cX12_init 411 = .ok (.newarray .int, 2) := by decide +kernel
theorem dX12_init_413 : decode cX12_init 413 = .ok (.putfield 123, 3) := by decide +kernel
theorem dX12_init_416 : decode cX12_init 416 = .ok (.aload_n 0, 1) := by decide +kernel
theorem dX12_init_417 : decode cX12_init 417 = .ok (.sipush 200, 3) := by decide +kernel
theorem dX12_init_420 : decode cX12_init 420 = .ok (.newarray .int, 2) := by decide +kernel
theorem dX12_init_422 : decode cX12_init 422 = .ok (.putfield 126, 3) := by decide +kernel
theorem dX12_init_425 : decode cX12_init 425 = .ok (.aload_n 0, 1) := by decide +kernel
theorem dX12_init_426 : decode cX12_init 426 = .ok (.sipush 200, 3) := by decide +kernel
theorem dX12_init_429 : decode cX12_init 429 = .ok (.newarray .boolean, 2) := by decide +kernel
theorem dX12_init_431 : decode cX12_init 431 = .ok (.putfield 129, 3) := by decide +kernel
theorem dX12_init_434 : decode cX12_init 434 = .ok (.aload_n 0, 1) := by decide +kernel
theorem dX12_init_435 : decode cX12_init 435 = .ok (.sipush 200, 3) := by decide +kernel
theorem dX12_init_438 : decode cX12_init 438 = .ok (.newarray .boolean, 2) := by decide +kernel
theorem dX12_init_440 : decode cX12_init 440 = .ok (.putfield 132, 3) := by decide +kernel
theorem dX12_init_443 : decode cX12_init 443 = .ok (.aload_n 0, 1) := by decide +kernel
theorem dX12_init_444 : decode cX12_init 444 = .ok (.bipush 60, 2) := by decide +kernel
theorem dX12_init_446 : decode cX12_init 446 = .ok (.newarray .int, 2) := by decide +kernel
theorem dX12_init_448 : decode cX12_init 448 = .ok (.putfield 135, 3) := by decide +kernel
theorem dX12_init_451 : decode cX12_init 451 = .ok (.aload_n 0, 1) := by decide +kernel
theorem dX12_init_452 : decode cX12_init 452 = .ok (.bipush 60, 2) := by decide +kernel
theorem dX12_init_454 : decode cX12_init 454 = .ok (.newarray .int, 2) := by decide +kernel
theorem dX12_init_456 : decode cX12_init 456 = .ok (.putfield 138, 3) := by decide +kernel
theorem dX12_init_459 : decode cX12_init 459 = .ok (.aload_n 0, 1) := by decide +kernel
theorem dX12_init_460 : decode cX12_init 460 = .ok (.bipush 60, 2) := by decide +kernel
theorem dX12_init_462 : decode cX12_init 462 = .ok (.newarray .int, 2) := by decide +kernel
theorem dX12_init_464 : decode cX12_init 464 = .ok (.putfield 141, 3) := by decide +kernel
theorem dX12_init_467 : decode cX12_init 467 = .ok (.aload_n 0, 1) := by decide +kernel
theorem dX12_init_468 : decode cX12_init 468 = .ok (.bipush 60, 2) := by decide +kernel
theorem dX12_init_470 : decode cX12_init 470 = .ok (.newarray .int, 2) := by decide +kernel
theorem dX12_init_472 : decode cX12_init 472 = .ok (.putfield 144, 3) := by decide +kernel
theorem dX12_init_475 : decode cX12_init 475 = .ok (.aload_n 0, 1) := by decide +kernel
theorem dX12_init_476 : decode cX12_init 476 = .ok (.bipush 60, 2) := by decide +kernel
theorem dX12_init_478 : decode cX12_init 478 = .ok (.newarray .int, 2) := by decide +kernel
theorem dX12_init_480 : decode cX12_init 480 = .ok (.putfield 147, 3) := by decide +kernel
theorem dX12_init_483 : decode cX12_init 483 = .ok (.aload_n 0, 1) := by decide +kernel
theorem dX12_init_484 : decode cX12_init 484 = .ok (.iconst (-1), 1) := by decide +kernel
theorem dX12_init_485 : decode cX12_init 485 = .ok (.putfield 150, 3) := by decide +kernel
theorem dX12_init_488 : decode cX12_init 488 = .ok (.aload_n 0, 1) := by decide +kernel
theorem dX12_init_489 : decode cX12_init 489 = .ok (.bipush 64, 2) := by decide +kernel
theorem dX12_init_491 : decode cX12_init 491 = .ok (.newarray .int, 2) := by decide +kernel
theorem dX12_init_493 : decode cX12_init 493 = .ok (.putfield 153, 3) := by decide +kernel
theorem dX12_init_496 : decode cX12_init 496 = .ok (.aload_n 0, 1) := by decide +kernel
theorem dX12_init_497 : decode cX12_init 497 = .ok (.bipush 64, 2) := by decide +kernel
theorem dX12_init_499 : decode cX12_init 499 = .ok (.newarray .int, 2) := by decide +kernel
theorem dX12_init_501 : decode cX12_init 501 = .ok (.putfield 156, 3) := by decide +kernel
theorem dX12_init_504 : decode cX12_init 504 = .ok (.aload_n 0, 1) := by decide +kernel
theorem dX12_init_505 : decode cX12_init 505 = .ok (.bipush 8, 2) := by decide +kernel
theorem dX12_init_507 : decode cX12_init 507 = .ok (.newarray .int, 2) := by decide +kernel
theorem dX12_init_509 : decode cX12_init 509 = .ok (.putfield 159, 3) := by decide +kernel
theorem dX12_init_512 : decode cX12_init 512 = .ok (.aload_n 0, 1) := by decide +kernel
theorem dX12_init_513 : decode cX12_init 513 = .ok (.bipush 8, 2) := by decide +kernel
theorem dX12_init_515 : decode cX12_init 515 = .ok (.newarray .int, 2) := by decide +kernel
theorem dX12_init_517 : decode cX12_init 517 = .ok (.putfield 162, 3) := by decide +kernel
theorem dX12_init_520 : decode cX12_init 520 = .ok (.aload_n 0, 1) := by decide +kernel
theorem dX12_init_521 : decode cX12_init 521 = .ok (.bipush 8, 2) := by decide +kernel
theorem dX12_init_523 : decode cX12_init 523 = .ok (.newarray .int, 2) := by decide +kernel
theorem dX12_init_525 : decode cX12_init 525 = .ok (.putfield 165, 3) := by decide +kernel
theorem dX12_init_528 : decode cX12_init 528 = .ok (.aload_n 0, 1) := by decide +kernel
theorem dX12_init_529 : decode cX12_init 529 = .ok (.bipush 64, 2) := by decide +kernel
theorem dX12_init_531 : decode cX12_init 531 = .ok (.newarray .boolean, 2) := by decide +kernel
theorem dX12_init_533 : decode cX12_init 533 = .ok (.putfield 168, 3) := by decide +kernel
theorem dX12_init_536 : decode cX12_init 536 = .ok (.aload_n 0, 1) := by decide +kernel
theorem dX12_init_537 : decode cX12_init 537 = .ok (.bipush 64, 2) := by decide +kernel
theorem dX12_init_539 : decode cX12_init 539 = .ok (.newarray .int, 2) := by decide +kernel
theorem dX12_init_541 : decode cX12_init 541 = .ok (.putfield 171, 3) := by decide +kernel
theorem dX12_init_544 : decode cX12_init 544 = .ok (.aload_n 0, 1) := by decide +kernel
theorem dX12_init_545 : decode cX12_init 545 = .ok (.bipush 64, 2) := by decide +kernel
theorem dX12_init_547 : decode cX12_init 547 = .ok (.newarray .int, 2) := by decide +kernel
theorem dX12_init_549 : decode cX12_init 549 = .ok (.putfield 174, 3) := by decide +kernel
theorem dX12_init_552 : decode cX12_init 552 = .ok (.aload_n 0, 1) := by decide +kernel
theorem dX12_init_553 : decode cX12_init 553 = .ok (.bipush 10, 2) := by decide +kernel
theorem dX12_init_555 : decode cX12_init 555 = .ok (.newarray .int, 2) := by decide +kernel
theorem dX12_init_557 : decode cX12_init 557 = .ok (.putfield 177, 3) := by decide +kernel
theorem dX12_init_560 : decode cX12_init 560 = .ok (.aload_n 0, 1) := by decide +kernel
theorem dX12_init_561 : decode cX12_init 561 = .ok (.bipush 10, 2) := by decide +kernel
theorem dX12_init_563 : decode cX12_init 563 = .ok (.newarray .int, 2) := by decide +kernel
theorem dX12_init_565 : decode cX12_init 565 = .ok (.putfield 180, 3) := by decide +kernel
theorem dX12_init_568 : decode cX12_init 568 = .ok (.aload_n 0, 1) := by decide +kernel
theorem dX12_init_569 : decode cX12_init 569 = .ok (.bipush 9, 2) := by decide +kernel
theorem dX12_init_571 : decode cX12_init 571 = .ok (.newarray .int, 2) := by decide +kernel
theorem dX12_init_573 : decode cX12_init 573 = .ok (.putfield 183, 3) := by decide +kernel
theorem dX12_init_576 : decode cX12_init 576 = .ok (.aload_n 0, 1) := by decide +kernel
theorem dX12_init_577 : decode cX12_init 577 = .ok (.bipush 10, 2) := by decide +kernel
theorem dX12_init_579 : decode cX12_init 579 = .ok (.newarray .int, 2) := by decide +kernel
theorem dX12_init_581 : decode cX12_init 581 = .ok (.putfield 186, 3) := by decide +kernel
theorem dX12_init_584 : decode cX12_init 584 = .ok (.aload_n 0, 1) := by decide +kernel
theorem dX12_init_585 : decode cX12_init 585 = .ok (.bipush 10, 2) := by decide +kernel
theorem dX12_init_587 : decode cX12_init 587 = .ok (.newarray .int, 2) := by decide +kernel
theorem dX12_init_589 : decode cX12_init 589 = .ok (.putfield 189, 3) := by decide +kernel
theorem dX12_init_592 : decode cX12_init 592 = .ok (.aload_n 0, 1) := by decide +kernel
theorem dX12_init_593 : decode cX12_init 593 = .ok (.iconst (-1), 1) := by decide +kernel
theorem dX12_init_594 : decode cX12_init 594 = .ok (.putfield 192, 3) := by decide +kernel
theorem dX12_init_597 : decode cX12_init 597 = .ok (.aload_n 0, 1) := by decide +kernel
theorem dX12_init_598 : decode cX12_init 598 = .ok (.iconst (-1), 1) := by decide +kernel
theorem dX12_init_599 : decode cX12_init 599 = .ok (.putfield 195, 3) := by decide +kernel
theorem dX12_init_602 : decode cX12_init 602 = .ok (.return_, 1) := by decide +kernel
theorem dX2_init_0 : decode cX2_init 0 = .ok (.aload_n 0, 1) := by decide +kernel
theorem dX2_init_1 : decode cX2_init 1 = .ok (.invokespecial 3, 3) := by decide +kernel
theorem dX2_init_4 : decode cX2_init 4 = .ok (.aload_n 0, 1) := by decide +kernel
theorem dX2_init_5 : decode cX2_init 5 = .ok (.bipush 24, 2) := by decide +kernel
theorem dX2_init_7 : decode cX2_init 7 = .ok (.newarray .int, 2) := by decide +kernel
theorem dX2_init_9 : decode cX2_init 9 = .ok (.putfield 9, 3) := by decide +kernel
theorem dX2_init_12 : decode cX2_init 12 = .ok (.aload_n 0, 1) := by decide +kernel
theorem dX2_init_13 : decode cX2_init 13 = .ok (.bipush 24, 2) := by decide +kernel
theorem dX2_init_15 : decode cX2_init 15 = .ok (.newarray .int, 2) := by decide +kernel
theorem dX2_init_17 : decode cX2_init 17 = .ok (.putfield 15, 3) := by decide +kernel
theorem dX2_init_20 : decode cX2_init 20 = .ok (.aload_n 0, 1) := by decide +kernel
theorem dX2_init_21 : decode cX2_init 21 = .ok (.iconst 0, 1) := by decide +kernel
theorem dX2_init_22 : decode cX2_init 22 = .ok (.putfield 18, 3) := by decide +kernel
theorem dX2_init_25 : decode cX2_init 25 = .ok (.aload_n 0, 1) := by decide +kernel
theorem dX2_init_26 : decode cX2_init 26 = .ok (.lconst 0, 1) := by decide +kernel
theorem dX2_init_27 : decode cX2_init 27 = .ok (.putfield 22, 3) := by decide +kernel
theorem dX2_init_30 : decode cX2_init 30 = .ok (.return_, 1) := by decide +kernel
theorem dX3_init_0 : decode cX3_init 0 = .ok (.aload_n 0, 1) := by decide +kernel
theorem dX3_init_1 : decode cX3_init 1 = .ok (.invokespecial 3, 3) := by decide +kernel
theorem dX3_init_4 : decode cX3_init 4 = .ok (.aload_n 0, 1) := by decide +kernel
theorem dX3_init_5 : decode cX3_init 5 = .ok (.sipush 400, 3) := by decide +kernel
theorem dX3_init_8 : decode cX3_init 8 = .ok (.newarray .int, 2) := by decide +kernel
theorem dX3_init_10 : decode cX3_init 10 = .ok (.putfield 9, 3) := by decide +kernel
theorem dX3_init_13 : decode cX3_init 13 = .ok (.aload_n 0, 1) := by decide +kernel
theorem dX3_init_14 : decode cX3_init 14 = .ok (.iconst 4, 1) := by decide +kernel
theorem dX3_init_15 : decode cX3_init 15 = .ok (.sipush 400, 3) := by decide +kernel
theorem dX3_init_18 : decode cX3_init 18 = .ok (.multianewarray 15 2, 4) := by decide +kernel
theorem dX3_init_22 : decode cX3_init 22 = .ok (.putfield 17, 3) := by decide +kernel
theorem dX3_init_25 : decode cX3_init 25 = .ok (.aload_n 0, 1) := by decide +kernel
theorem dX3_init_26 : decode cX3_init 26 = .ok (.iconst 4, 1) := by decide +kernel
theorem dX3_init_27 : decode cX3_init 27 = .ok (.newarray .int, 2) := by decide +kernel
theorem dX3_init_29 : decode cX3_init 29 = .ok (.dup, 1) := by decide +kernel
theorem dX3_init_30 : decode cX3_init 30 = .ok (.iconst 0, 1) := by decide +kernel
theorem dX3_init_31 : decode cX3_init 31 = .ok (.bipush 100, 2) := by decide +kernel
theorem dX3_init_33 : decode cX3_init 33 = .ok (.iastore, 1) := by decide +kernel
theorem dX3_init_34 : decode cX3_init 34 = .ok (.dup, 1) := by decide +kernel
theorem dX3_init_35 : decode cX3_init 35 = .ok (.iconst 1, 1) := by decide +kernel
theorem dX3_init_36 : decode cX3_init 36 = .ok (.bipush 100, 2) := by decide +kernel
theorem dX3_init_38 : decode cX3_init 38 = .ok (.iastore, 1) := by decide +kernel
theorem dX3_init_39 : decode cX3_init 39 = .ok (.dup, 1) := by decide +kernel
theorem dX3_init_40 : decode cX3_init 40 = .ok (.iconst 2, 1) := by decide +kernel
theorem dX3_init_41 : decode cX3_init 41 = .ok (.bipush 100, 2) := by decide +kernel
theorem dX3_init_43 : decode cX3_init 43 = .ok (.iastore, 1) := by decide +kernel
theorem dX3_init_44 : decode cX3_init 44 = .ok (.dup, 1) := by decide +kernel
theorem dX3_init_45 : decode cX3_init 45 = .ok (.iconst 3, 1) := by decide +kernel
theorem dX3_init_46 : decode cX3_init 46 = .ok (.bipush 100, 2) := by decide +kernel
theorem dX3_init_48 : decode cX3_init 48 = .ok (.iastore, 1) := by decide +kernel
theorem dX3_init_49 : decode cX3_init 49 = .ok (.putfield 20, 3) := by decide +kernel
theorem dX3_init_52 : decode cX3_init 52 = .ok (.aload_n 0, 1) := by decide +kernel
theorem dX3_init_53 : decode cX3_init 53 = .ok (.bipush 6, 2) := by decide +kernel
theorem dX3_init_55 : decode cX3_init 55 = .ok (.newarray .int, 2) := by decide +kernel
theorem dX3_init_57 : decode cX3_init 57 = .ok (.dup, 1) := by decide +kernel
theorem dX3_init_58 : decode cX3_init 58 = .ok (.iconst 0, 1) := by decide +kernel
theorem dX3_init_59 : decode cX3_init 59 = .ok (.bipush 100, 2) := by decide +kernel
theorem dX3_init_61 : decode cX3_init 61 = .ok (.iastore, 1) := by decide +kernel
theorem dX3_init_62 : decode cX3_init 62 = .ok (.dup, 1) := by decide +kernel
theorem dX3_init_63 : decode cX3_init 63 = .ok (.iconst 1, 1) := by decide +kernel
theorem dX3_init_64 : decode cX3_init 64 = .ok (.bipush 100, 2) := by decide +kernel
theorem dX3_init_66 : decode cX3_init 66 = .ok (.iastore, 1) := by decide +kernel
theorem dX3_init_67 : decode cX3_init 67 = .ok (.dup, 1) := by decide +kernel
theorem dX3_init_68 : decode cX3_init 68 = .ok (.iconst 2, 1) := by decide +kernel
theorem dX3_init_69 : decode cX3_init 69 = .ok (.bipush 100, 2) := by decide +kernel
theorem dX3_init_71 : decode cX3_init 71 = .ok (.iastore, 1) := by decide +kernel
theorem dX3_init_72 : decode cX3_init 72 = .ok (.dup, 1) := by decide +kernel
theorem dX3_init_73 : decode cX3_init 73 = .ok (.iconst 3, 1) := by decide +kernel
theorem dX3_init_74 : decode cX3_init 74 = .ok (.bipush 100, 2) := by decide +kernel
theorem dX3_init_76 : decode cX3_init 76 = .ok (.iastore, 1) := by decide +kernel
theorem dX3_init_77 : decode cX3_init 77 = .ok (.dup, 1) := by decide +kernel
theorem dX3_init_78 : decode cX3_init 78 = .ok (.iconst 4, 1) := by decide +kernel
theorem dX3_init_79 : decode cX3_init 79 = .ok (.bipush 100, 2) := by decide +kernel
theorem dX3_init_81 : decode cX3_init 81 = .ok (.iastore, 1) := by decide +kernel
theorem dX3_init_82 : decode cX3_init 82 = .ok (.dup, 1) := by decide +kernel
theorem dX3_init_83 : decode cX3_init 83 = .ok (.iconst 5, 1) := by decide +kernel
theorem dX3_init_84 : decode cX3_init 84 = .ok (.bipush 100, 2) := by decide +kernel
theorem dX3_init_86 : decode cX3_init 86 = .ok (.iastore, 1) := by decide +kernel
theorem dX3_init_87 : decode cX3_init 87 = .ok (.putfield 23, 3) := by decide +kernel
theorem dX3_init_90 : decode cX3_init 90 = .ok (.aload_n 0, 1) := by decide +kernel
theorem dX3_init_91 : decode cX3_init 91 = .ok (.bipush 10, 2) := by decide +kernel
theorem dX3_init_93 : decode cX3_init 93 = .ok (.iconst 4, 1) := by decide +kernel
theorem dX3_init_94 : decode cX3_init 94 = .ok (.multianewarray 15 2, 4) := by decide +kernel
theorem dX3_init_98 : decode cX3_init 98 = .ok (.putfield 26, 3) := by decide +kernel
theorem dX3_init_101 : decode cX3_init 101 = .ok (.aload_n 0, 1) := by decide +kernel
theorem dX3_init_102 : decode cX3_init 102 = .ok (.bipush 10, 2) := by decide +kernel
theorem dX3_init_104 : decode cX3_init 104 = .ok (.newarray .int, 2) := by decide +kernel
theorem dX3_init_106 : decode cX3_init 106 = .ok (.dup, 1) := by decide +kernel
theorem dX3_init_107 : decode cX3_init 107 = .ok (.iconst 0, 1) := by decide +kernel
theorem dX3_init_108 : decode cX3_init 108 = .ok (.iconst (-1), 1) := by decide +kernel
theorem dX3_init_109 : decode cX3_init 109 = .ok (.iastore, 1) := by decide +kernel
theorem dX3_init_110 : decode cX3_init 110 = .ok (.dup, 1) := by decide +kernel
theorem dX3_init_111 : decode cX3_init 111 = .ok (.iconst 1, 1) := by decide +kernel
theorem dX3_init_112 : decode cX3_init 112 = .ok (.iconst (-1), 1) := by decide +kernel
theorem dX3_init_113 : decode cX3_init 113 = .ok (.iastore, 1) := by decide +kernel
theorem dX3_init_114 : decode cX3_init 114 = .ok (.dup, 1) := by decide +kernel
theorem dX3_init_115 : decode cX3_init 115 = .ok (.iconst 2, 1) := by decide +kernel
theorem dX3_init_116 : decode cX3_init 116 = .ok (.iconst (-1), 1) := by decide +kernel
theorem dX3_init_117 : decode cX3_init 117 = .ok (.iastore, 1) := by decide +kernel
theorem dX3_init_118 : decode cX3_init 118 = .ok (.dup, 1) := by decide +kernel
theorem dX3_init_119 : decode cX3_init 119 = .ok (.iconst 3, 1) := by decide +kernel
theorem dX3_init_120 : decode cX3_init 120 = .ok (.iconst (-1), 1) := by decide +kernel
theorem dX3_init_121 : decode cX3_init 121 = .ok (.iastore, 1) := by decide +kernel
theorem dX3_init_122 : decode cX3_init 122 = .ok (.dup, 1) := by decide +kernel
theorem dX3_init_123 : decode cX3_init 123 = .ok (.iconst 4, 1) := by decide +kernel
theorem dX3_init_124 : decode cX3_init 124 = .ok (.iconst (-1), 1) := by decide +kernel
theorem dX3_init_125 : decode cX3_init 125 = .ok (.iastore, 1) := by decide +kernel
theorem dX3_init_126 : decode cX3_init 126 = .ok (.dup, 1) := by decide +kernel
theorem dX3_init_127 : decode cX3_init 127 = .ok (.iconst 5, 1) := by decide +kernel
theorem dX3_init_128 : decode cX3_init 128 = .ok (.iconst (-1), 1) := by decide +kernel
theorem dX3_init_129 : decode cX3_init 129 = .ok (.iastore, 1) := by decide +kernel
theorem dX3_init_130 : decode cX3_init 130 = .ok (.dup, 1) := by decide +kernel
theorem dX3_init_131 : decode cX3_init 131 = .ok (.bipush 6, 2) := by decide +kernel
theorem dX3_init_133 : decode cX3_init 133 = .ok (.iconst (-1), 1) := by decide +kernel
theorem dX3_init_134 : decode cX3_init 134 = .ok (.iastore, 1) := by decide +kernel
theorem dX3_init_135 : decode cX3_init 135 = .ok (.dup, 1) := by decide +kernel
theorem dX3_init_136 : decode cX3_init 136 = .ok (.bipush 7, 2) := by decide +kernel
theorem dX3_init_138 : decode cX3_init 138 = .ok (.iconst (-1), 1) := by decide +kernel
theorem dX3_init_139 : decode cX3_init 139 = .ok (.iastore, 1) := by decide +kernel
theorem dX3_init_140 : decode cX3_init 140 = .ok (.dup, 1) := by decide +kernel
theorem dX3_init_141 : decode cX3_init 141 = .ok (.bipush 8, 2) := by decide +kernel
theorem dX3_init_143 : decode cX3_init 143 = .ok (.iconst (-1), 1) := by decide +kernel
theorem dX3_init_144 : decode cX3_init 144 = .ok (.iastore, 1) := by decide +kernel
theorem dX3_init_145 : decode cX3_init 145 = .ok (.dup, 1) := by decide +kernel
theorem dX3_init_146 : decode cX3_init 146 = .ok (.bipush 9, 2) := by decide +kernel
theorem dX3_init_148 : decode cX3_init 148 = .ok (.iconst (-1), 1) := by decide +kernel
theorem dX3_init_149 : decode cX3_init 149 = .ok (.iastore, 1) := by decide +kernel
theorem dX3_init_150 : decode cX3_init 150 = .ok (.putfield 29, 3) := by decide +kernel
theorem dX3_init_153 : decode cX3_init 153 = .ok (.aload_n 0, 1) := by decide +kernel
theorem dX3_init_154 : decode cX3_init 154 = .ok (.bipush 10, 2) := by decide +kernel
theorem dX3_init_156 : decode cX3_init 156 = .ok (.bipush 10, 2) := by decide +kernel
theorem dX3_init_158 : decode cX3_init 158 = .ok (.multianewarray 15 2, 4) := by decide +kernel
theorem dX3_init_162 : decode cX3_init 162 = .ok (.putfield 32, 3) := by decide +kernel
theorem dX3_init_165 : decode cX3_init 165 = .ok (.iconst 0, 1) := by decide +kernel
theorem dX3_init_166 : decode cX3_init 166 = .ok (.istore_n 1, 1) := by decide +kernel
theorem dX3_init_167 : decode cX3_init 167 = .ok (.iload_n 1, 1) := by decide +kernel
theorem dX3_init_168 : decode cX3_init 168 = .ok (.bipush 10, 2) := by decide +kernel
theorem dX3_init_170 : decode cX3_init 170 = .ok (.if_icmp .ge 42, 3) := by decide +kernel
theorem dX3_init_173 : decode cX3_init 173 = .ok (.iconst 0, 1) := by decide +kernel
theorem dX3_init_174 : decode cX3_init 174 = .ok (.istore_n 2, 1) := by decide +kernel
theorem dX3_init_175 : decode cX3_init 175 = .ok (.iload_n 2, 1) := by decide +kernel
theorem dX3_init_176 : decode cX3_init 176 = .ok (.bipush 10, 2) := by decide +kernel
theorem dX3_init_178 : decode cX3_init 178 = .ok (.if_icmp .ge 28, 3) := by decide +kernel
theorem dX3_init_181 : decode cX3_init 181 = .ok (.aload_n 0, 1) := by decide +kernel
theorem dX3_init_182 : decode cX3_init 182 = .ok (.getfield 32, 3) := by decide +kernel
theorem dX3_init_185 : decode cX3_init 185 = .ok (.iload_n 1, 1) := by decide +kernel
theorem dX3_init_186 : decode cX3_init 186 = .ok (.aaload, 1) := by decide +kernel
theorem dX3_init_187 : decode cX3_init 187 = .ok (.iload_n 2, 1) := by decide +kernel
theorem dX3_init_188 : decode cX3_init 188 = .ok (.iload_n 1, 1) := by decide +kernel
theorem dX3_init_189 : decode cX3_init 189 = .ok (.iload_n 2, 1) := by decide +kernel
theorem dX3_init_190 : decode cX3_init 190 = .ok (.if_icmp .ne 7, 3) := by decide +kernel
theorem dX3_init_193 : decode cX3_init 193 = .ok (.iconst 0, 1) := by decide +kernel
theorem dX3_init_194 : decode cX3_init 194 = .ok (.goto 5, 3) := by decide +kernel
theorem dX3_init_197 : decode cX3_init 197 = .ok (.bipush 10, 2) := by decide +kernel
theorem dX3_init_199 : decode cX3_init 199 = .ok (.iastore, 1) := by decide +kernel
theorem dX3_init_200 : decode cX3_init 200 = .ok (.iinc 2 1, 3) := by decide +kernel
theorem dX3_init_203 : decode cX3_init 203 = .ok (.goto (-28), 3) := by decide +kernel
theorem dX3_init_206 : decode cX3_init 206 = .ok (.iinc 1 1, 3) := by decide +kernel
theorem dX3_init_209 : decode cX3_init 209 = .ok (.goto (-42), 3) := by decide +kernel
theorem dX3_init_212 : decode cX3_init 212 = .ok (.return_, 1) := by decide +kernel
theorem dX4_init_0 : decode cX4_init 0 = .ok (.aload_n 0, 1) := by decide +kernel
theorem dX4_init_1 : decode cX4_init 1 = .ok (.invokespecial 3, 3) := by decide +kernel
theorem dX4_init_4 : decode cX4_init 4 = .ok (.aload_n 0, 1) := by decide +kernel
theorem dX4_init_5 : decode cX4_init 5 = .ok (.bipush 60, 2) := by decide +kernel
theorem dX4_init_7 : decode cX4_init 7 = .ok (.newarray .int, 2) := by decide +kernel
theorem dX4_init_9 : decode cX4_init 9 = .ok (.putfield 9, 3) := by decide +kernel
theorem dX4_init_12 : decode cX4_init 12 = .ok (.aload_n 0, 1) := by decide +kernel
theorem dX4_init_13 : decode cX4_init 13 = .ok (.bipush 60, 2) := by decide +kernel
theorem dX4_init_15 : decode cX4_init 15 = .ok (.newarray .int, 2) := by decide +kernel
theorem dX4_init_17 : decode cX4_init 17 = .ok (.putfield 15, 3) := by decide +kernel
theorem dX4_init_20 : decode cX4_init 20 = .ok (.aload_n 0, 1) := by decide +kernel
theorem dX4_init_21 : decode cX4_init 21 = .ok (.bipush 60, 2) := by decide +kernel
theorem dX4_init_23 : decode cX4_init 23 = .ok (.newarray .int, 2) := by decide +kernel
theorem dX4_init_25 : decode cX4_init 25 = .ok (.putfield 18, 3) := by decide +kernel
theorem dX4_init_28 : decode cX4_init 28 = .ok (.aload_n 0, 1) := by decide +kernel
theorem dX4_init_29 : decode cX4_init 29 = .ok (.iconst 0, 1) := by decide +kernel
theorem dX4_init_30 : decode cX4_init 30 = .ok (.putfield 21, 3) := by decide +kernel
theorem dX4_init_33 : decode cX4_init 33 = .ok (.return_, 1) := by decide +kernel
theorem dX5_init_0 : decode cX5_init 0 = .ok (.aload_n 0, 1) := by decide +kernel
theorem dX5_init_1 : decode cX5_init 1 = .ok (.invokespecial 3, 3) := by decide +kernel
theorem dX5_init_4 : decode cX5_init 4 = .ok (.aload_n 0, 1) := by decide +kernel
theorem dX5_init_5 : decode cX5_init 5 = .ok (.new 9, 3) := by decide +kernel
theorem dX5_init_8 : decode cX5_init 8 = .ok (.dup, 1) := by decide +kernel
theorem dX5_init_9 : decode cX5_init 9 = .ok (.invokespecial 11, 3) := by decide +kernel
theorem dX5_init_12 : decode cX5_init 12 = .ok (.putfield 12, 3) := by decide +kernel
theorem dX5_init_15 : decode cX5_init 15 = .ok (.aload_n 0, 1) := by decide +kernel
theorem dX5_init_16 : decode cX5_init 16 = .ok (.new 18, 3) := by decide +kernel
theorem dX5_init_19 : decode cX5_init 19 = .ok (.dup, 1) := by decide +kernel
theorem dX5_init_20 : decode cX5_init 20 = .ok (.invokespecial 20, 3) := by decide +kernel
theorem dX5_init_23 : decode cX5_init 23 = .ok (.putfield 21, 3) := by decide +kernel
theorem dX5_init_26 : decode cX5_init 26 = .ok (.aload_n 0, 1) := by decide +kernel
theorem dX5_init_27 : decode cX5_init 27 = .ok (.new 18, 3) := by decide +kernel
theorem dX5_init_30 : decode cX5_init 30 = .ok (.dup, 1) := by decide +kernel
theorem dX5_init_31 : decode cX5_init 31 = .ok (.invokespecial 20, 3) := by decide +kernel
theorem dX5_init_34 : decode cX5_init 34 = .ok (.putfield 25, 3) := by decide +kernel
theorem dX5_init_37 : decode cX5_init 37 = .ok (.aload_n 0, 1) := by decide +kernel
theorem dX5_init_38 : decode cX5_init 38 = .ok (.new 18, 3) := by decide +kernel
theorem dX5_init_41 : decode cX5_init 41 = .ok (.dup, 1) := by decide +kernel
theorem dX5_init_42 : decode cX5_init 42 = .ok (.invokespecial 20, 3) := by decide +kernel
theorem dX5_init_45 : decode cX5_init 45 = .ok (.putfield 28, 3) := by decide +kernel
theorem dX5_init_48 : decode cX5_init 48 = .ok (.aload_n 0, 1) := by decide +kernel
theorem dX5_init_49 : decode cX5_init 49 = .ok (.bipush 12, 2) := by decide +kernel
theorem dX5_init_51 : decode cX5_init 51 = .ok (.newarray .int, 2) := by decide +kernel
theorem dX5_init_53 : decode cX5_init 53 = .ok (.putfield 31, 3) := by decide +kernel
theorem dX5_init_56 : decode cX5_init 56 = .ok (.aload_n 0, 1) := by decide +kernel
theorem dX5_init_57 : decode cX5_init 57 = .ok (.iconst 0, 1) := by decide +kernel
theorem dX5_init_58 : decode cX5_init 58 = .ok (.putfield 35, 3) := by decide +kernel
theorem dX5_init_61 : decode cX5_init 61 = .ok (.aload_n 0, 1) := by decide +kernel
theorem dX5_init_62 : decode cX5_init 62 = .ok (.iconst 0, 1) := by decide +kernel
theorem dX5_init_63 : decode cX5_init 63 = .ok (.putfield 39, 3) := by decide +kernel
theorem dX5_init_66 : decode cX5_init 66 = .ok (.aload_n 0, 1) := by decide +kernel
theorem dX5_init_67 : decode cX5_init 67 = .ok (.iconst 0, 1) := by decide +kernel
theorem dX5_init_68 : decode cX5_init 68 = .ok (.putfield 42, 3) := by decide +kernel
theorem dX5_init_71 : decode cX5_init 71 = .ok (.return_, 1) := by decide +kernel
theorem dX6_init_0 : decode cX6_init 0 = .ok (.aload_n 0, 1) := by decide +kernel
theorem dX6_init_1 : decode cX6_init 1 = .ok (.invokespecial 3, 3) := by decide +kernel
theorem dX6_init_4 : decode cX6_init 4 = .ok (.aload_n 0, 1) := by decide +kernel
theorem dX6_init_5 : decode cX6_init 5 = .ok (.iconst 0, 1) := by decide +kernel
theorem dX6_init_6 : decode cX6_init 6 = .ok (.putfield 9, 3) := by decide +kernel
theorem dX6_init_9 : decode cX6_init 9 = .ok (.aload_n 0, 1) := by decide +kernel
theorem dX6_init_10 : decode cX6_init 10 = .ok (.bipush 64, 2) := by decide +kernel
theorem dX6_init_12 : decode cX6_init 12 = .ok (.newarray .int, 2) := by decide +kernel
theorem dX6_init_14 : decode cX6_init 14 = .ok (.putfield 15, 3) := by decide +kernel
theorem dX6_init_17 : decode cX6_init 17 = .ok (.aload_n 0, 1) := by decide +kernel
theorem dX6_init_18 : decode cX6_init 18 = .ok (.bipush 64, 2) := by decide +kernel
theorem dX6_init_20 : decode cX6_init 20 = .ok (.newarray .int, 2) := by decide +kernel
theorem dX6_init_22 : decode cX6_init 22 = .ok (.putfield 19, 3) := by decide +kernel
theorem dX6_init_25 : decode cX6_init 25 = .ok (.aload_n 0, 1) := by decide +kernel
theorem dX6_init_26 : decode cX6_init 26 = .ok (.bipush 8, 2) := by decide +kernel
theorem dX6_init_28 : decode cX6_init 28 = .ok (.newarray .int, 2) := by decide +kernel
theorem dX6_init_30 : decode cX6_init 30 = .ok (.putfield 22, 3) := by decide +kernel
theorem dX6_init_33 : decode cX6_init 33 = .ok (.aload_n 0, 1) := by decide +kernel
theorem dX6_init_34 : decode cX6_init 34 = .ok (.bipush 8, 2) := by decide +kernel
theorem dX6_init_36 : decode cX6_init 36 = .ok (.newarray .int, 2) := by decide +kernel
theorem dX6_init_38 : decode cX6_init 38 = .ok (.putfield 25, 3) := by decide +kernel
theorem dX6_init_41 : decode cX6_init 41 = .ok (.aload_n 0, 1) := by decide +kernel
theorem dX6_init_42 : decode cX6_init 42 = .ok (.bipush 8, 2) := by decide +kernel
theorem dX6_init_44 : decode cX6_init 44 = .ok (.newarray .int, 2) := by decide +kernel
theorem dX6_init_46 : decode cX6_init 46 = .ok (.putfield 28, 3) := by decide +kernel
theorem dX6_init_49 : decode cX6_init 49 = .ok (.aload_n 0, 1) := by decide +kernel
theorem dX6_init_50 : decode cX6_init 50 = .ok (.sipush 256, 3) := by decide +kernel
theorem dX6_init_53 : decode cX6_init 53 = .ok (.newarray .int, 2) := by decide +kernel
theorem dX6_init_55 : decode cX6_init 55 = .ok (.putfield 31, 3) := by decide +kernel
theorem dX6_init_58 : decode cX6_init 58 = .ok (.aload_n 0, 1) := by decide +kernel
theorem dX6_init_59 : decode cX6_init 59 = .ok (.bipush 64, 2) := by decide +kernel
theorem dX6_init_61 : decode cX6_init 61 = .ok (.newarray .boolean, 2) := by decide +kernel
theorem dX6_init_63 : decode cX6_init 63 = .ok (.putfield 34, 3) := by decide +kernel
theorem dX6_init_66 : decode cX6_init 66 = .ok (.aload_n 0, 1) := by decide +kernel
theorem dX6_init_67 : decode cX6_init 67 = .ok (.bipush 64, 2) := by decide +kernel
theorem dX6_init_69 : decode cX6_init 69 = .ok (.newarray .long, 2) := by decide +kernel
theorem dX6_init_71 : decode cX6_init 71 = .ok (.putfield 38, 3) := by decide +kernel
theorem dX6_init_74 : decode cX6_init 74 = .ok (.aload_n 0, 1) := by decide +kernel
theorem dX6_init_75 : decode cX6_init 75 = .ok (.iconst (-1), 1) := by decide +kernel
theorem dX6_init_76 : decode cX6_init 76 = .ok (.putfield 42, 3) := by decide +kernel
theorem dX6_init_79 : decode cX6_init 79 = .ok (.return_, 1) := by decide +kernel
theorem dX7_init_0 : decode cX7_init 0 = .ok (.aload_n 0, 1) := by decide +kernel
theorem dX7_init_1 : decode cX7_init 1 = .ok (.invokespecial 3, 3) := by decide +kernel
theorem dX7_init_4 : decode cX7_init 4 = .ok (.aload_n 0, 1) := by decide +kernel
theorem dX7_init_5 : decode cX7_init 5 = .ok (.sipush 301, 3) := by decide +kernel
theorem dX7_init_8 : decode cX7_init 8 = .ok (.newarray .int, 2) := by decide +kernel
theorem dX7_init_10 : decode cX7_init 10 = .ok (.putfield 9, 3) := by decide +kernel
theorem dX7_init_13 : decode cX7_init 13 = .ok (.aload_n 0, 1) := by decide +kernel
theorem dX7_init_14 : decode cX7_init 14 = .ok (.sipush 301, 3) := by decide +kernel
theorem dX7_init_17 : decode cX7_init 17 = .ok (.newarray .int, 2) := by decide +kernel
theorem dX7_init_19 : decode cX7_init 19 = .ok (.putfield 15, 3) := by decide +kernel
theorem dX7_init_22 : decode cX7_init 22 = .ok (.aload_n 0, 1) := by decide +kernel
theorem dX7_init_23 : decode cX7_init 23 = .ok (.iconst 0, 1) := by decide +kernel
theorem dX7_init_24 : decode cX7_init 24 = .ok (.putfield 18, 3) := by decide +kernel
theorem dX7_init_27 : decode cX7_init 27 = .ok (.aload_n 0, 1) := by decide +kernel
theorem dX7_init_28 : decode cX7_init 28 = .ok (.iconst 0, 1) := by decide +kernel
theorem dX7_init_29 : decode cX7_init 29 = .ok (.putfield 22, 3) := by decide +kernel
theorem dX7_init_32 : decode cX7_init 32 = .ok (.aload_n 0, 1) := by decide +kernel
theorem dX7_init_33 : decode cX7_init 33 = .ok (.iconst 0, 1) := by decide +kernel
theorem dX7_init_34 : decode cX7_init 34 = .ok (.putfield 25, 3) := by decide +kernel
theorem dX7_init_37 : decode cX7_init 37 = .ok (.aload_n 0, 1) := by decide +kernel
theorem dX7_init_38 : decode cX7_init 38 = .ok (.iconst 0, 1) := by decide +kernel
theorem dX7_init_39 : decode cX7_init 39 = .ok (.putfield 29, 3) := by decide +kernel
theorem dX7_init_42 : decode cX7_init 42 = .ok (.aload_n 0, 1) := by decide +kernel
theorem dX7_init_43 : decode cX7_init 43 = .ok (.iconst 0, 1) := by decide +kernel
theorem dX7_init_44 : decode cX7_init 44 = .ok (.putfield 32, 3) := by decide +kernel
theorem dX7_init_47 : decode cX7_init 47 = .ok (.return_, 1) := by decide +kernel
theorem dX8_init_0 : decode cX8_init 0 = .ok (.aload_n 0, 1) := by decide +kernel
theorem dX8_init_1 : decode cX8_init 1 = .ok (.invokespecial 3, 3) := by decide +kernel
theorem dX8_init_4 : decode cX8_init 4 = .ok (.aload_n 0, 1) := by decide +kernel
theorem dX8_init_5 : decode cX8_init 5 = .ok (.bipush 9, 2) := by decide +kernel
theorem dX8_init_7 : decode cX8_init 7 = .ok (.newarray .int, 2) := by decide +kernel
theorem dX8_init_9 : decode cX8_init 9 = .ok (.putfield 11, 3) := by decide +kernel
theorem dX8_init_12 : decode cX8_init 12 = .ok (.aload_n 0, 1) := by decide +kernel
theorem dX8_init_13 : decode cX8_init 13 = .ok (.bipush 9, 2) := by decide +kernel
theorem dX8_init_15 : decode cX8_init 15 = .ok (.newarray .int, 2) := by decide +kernel
theorem dX8_init_17 : decode cX8_init 17 = .ok (.putfield 15, 3) := by decide +kernel
theorem dX8_init_20 : decode cX8_init 20 = .ok (.aload_n 0, 1) := by decide +kernel
theorem dX8_init_21 : decode cX8_init 21 = .ok (.bipush 9, 2) := by decide +kernel
theorem dX8_init_23 : decode cX8_init 23 = .ok (.newarray .int, 2) := by decide +kernel
theorem dX8_init_25 : decode cX8_init 25 = .ok (.putfield 18, 3) := by decide +kernel
theorem dX8_init_28 : decode cX8_init 28 = .ok (.aload_n 0, 1) := by decide +kernel
theorem dX8_init_29 : decode cX8_init 29 = .ok (.iconst 0, 1) := by decide +kernel
theorem dX8_init_30 : decode cX8_init 30 = .ok (.newarray .int, 2) := by decide +kernel
theorem dX8_init_32 : decode cX8_init 32 = .ok (.putfield 21, 3) := by decide +kernel
theorem dX8_init_35 : decode cX8_init 35 = .ok (.aload_n 0, 1) := by decide +kernel
theorem dX8_init_36 : decode cX8_init 36 = .ok (.iconst 0, 1) := by decide +kernel
theorem dX8_init_37 : decode cX8_init 37 = .ok (.putfield 24, 3) := by decide +kernel
theorem dX8_init_40 : decode cX8_init 40 = .ok (.aload_n 0, 1) := by decide +kernel
theorem dX8_init_41 : decode cX8_init 41 = .ok (.iconst 0, 1) := by decide +kernel
theorem dX8_init_42 : decode cX8_init 42 = .ok (.putfield 28, 3) := by decide +kernel
theorem dX8_init_45 : decode cX8_init 45 = .ok (.return_, 1) := by decide +kernel
theorem dX9_init_0 : decode cX9_init 0 = .ok (.aload_n 0, 1) := by decide +kernel
theorem dX9_init_1 : decode cX9_init 1 = .ok (.invokespecial 3, 3) := by decide +kernel
theorem dX9_init_4 : decode cX9_init 4 = .ok (.aload_n 0, 1) := by decide +kernel
theorem dX9_init_5 : decode cX9_init 5 = .ok (.sipush 420, 3) := by decide +kernel
theorem dX9_init_8 : decode cX9_init 8 = .ok (.newarray .int, 2) := by decide +kernel
theorem dX9_init_10 : decode cX9_init 10 = .ok (.putfield 9, 3) := by decide +kernel
theorem dX9_init_13 : decode cX9_init 13 = .ok (.aload_n 0, 1) := by decide +kernel
theorem dX9_init_14 : decode cX9_init 14 = .ok (.iconst 0, 1) := by decide +kernel
theorem dX9_init_15 : decode cX9_init 15 = .ok (.putfield 15, 3) := by decide +kernel
theorem dX9_init_18 : decode cX9_init 18 = .ok (.return_, 1) := by decide +kernel
theorem fl_Jx4a65c_9_5000 : xF RJx4a65c 9 5000 1 (.array (.object "java/lang/Object")) false := ⟨by decide, RJx4a65c, TJx4a65c, 3, tyJx4a65c, "java/util/ArrayList", rfl, inlJx4a65c, tyJx4a65c_ok, nmJx4a65c, by decide, rfl, rfl, m_5_0, Or.inl rfl⟩
theorem fl_Jxc12de_7_5000 : xF RJxc12de 7 5000 0 .int false := ⟨by decide, RJx4a65c, TJx4a65c, 3, tyJx4a65c, "java/util/AbstractList", rfl, inlJx4a65c, tyJx4a65c_ok, nmJx4a65c, by decide, rfl, rfl, m_5_5, Or.inl rfl⟩
theorem fl_X11_10_5012 : xF RX11 10 5012 0 (.object "PaperBoys$Tape") true := ⟨by decide, RX11, TX11, 18, tyX11, "PaperBoys", rfl, inlX11, tyX11_ok, nmX11, by decide, rfl, rfl, m_1_16, Or.inl rfl⟩
theorem fl_X11_19_5012 : xF RX11 19 5012 1 (.object "PaperBoys$Market") true := ⟨by decide, RX11, TX11, 18, tyX11, "PaperBoys", rfl, inlX11, tyX11_ok, nmX11, by decide, rfl, rfl, m_1_20, Or.inl rfl⟩
theorem fl_X11_23_6 : xF RX11 23 6 0 (.object "PaperBoys$City") true := ⟨by decide, RX5, TX5, 8, tyX5, "PaperBoys$Market", rfl, inlX5, tyX5_ok, nmX5, by decide, rfl, rfl, m_1_21, Or.inl rfl⟩
theorem fl_X11_27_5012 : xF RX11 27 5012 2 (.object "PaperBoys$City") true := ⟨by decide, RX11, TX11, 18, tyX11, "PaperBoys", rfl, inlX11, tyX11_ok, nmX11, by decide, rfl, rfl, m_1_22, Or.inl rfl⟩
theorem fl_X11_31_5012 : xF RX11 31 5012 3 (.object "PaperBoys$Ledger") true := ⟨by decide, RX11, TX11, 18, tyX11, "PaperBoys", rfl, inlX11, tyX11_ok, nmX11, by decide, rfl, rfl, m_2_2, Or.inl rfl⟩
theorem fl_X11_38_5012 : xF RX11 38 5012 4 (.object "java/util/ArrayList") true := ⟨by decide, RX11, TX11, 18, tyX11, "PaperBoys", rfl, inlX11, tyX11_ok, nmX11, by decide, rfl, rfl, m_2_6, Or.inl rfl⟩
theorem fl_X11_45_5012 : xF RX11 45 5012 5 (.object "PaperBoys$Terms") true := ⟨by decide, RX11, TX11, 18, tyX11, "PaperBoys", rfl, inlX11, tyX11_ok, nmX11, by decide, rfl, rfl, m_2_10, Or.inl rfl⟩
theorem fl_X11_52_5012 : xF RX11 52 5012 6 (.object "PaperBoys$Reader") true := ⟨by decide, RX11, TX11, 18, tyX11, "PaperBoys", rfl, inlX11, tyX11_ok, nmX11, by decide, rfl, rfl, m_2_14, Or.inl rfl⟩
theorem fl_X11_56_5012 : xF RX11 56 5012 7 (.object "PaperBoys$Terms") false := ⟨by decide, RX11, TX11, 18, tyX11, "PaperBoys", rfl, inlX11, tyX11_ok, nmX11, by decide, rfl, rfl, m_2_15, Or.inl rfl⟩
theorem fl_X11_62_5012 : xF RX11 62 5012 8 (.object "PaperBoys$Chances") true := ⟨by decide, RX11, TX11, 18, tyX11, "PaperBoys", rfl, inlX11, tyX11_ok, nmX11, by decide, rfl, rfl, m_2_19, Or.inl rfl⟩
theorem fl_X11_69_5012 : xF RX11 69 5012 9 (.object "PaperBoys$Route") true := ⟨by decide, RX11, TX11, 18, tyX11, "PaperBoys", rfl, inlX11, tyX11_ok, nmX11, by decide, rfl, rfl, m_2_23, Or.inl rfl⟩
theorem fl_X11_76_5012 : xF RX11 76 5012 10 (.object "PaperBoys$Parting") false := ⟨by decide, RX11, TX11, 18, tyX11, "PaperBoys", rfl, inlX11, tyX11_ok, nmX11, by decide, rfl, rfl, m_3_3, Or.inl rfl⟩
theorem fl_X11_80_5012 : xF RX11 80 5012 11 (.object "PaperBoys$Parting") false := ⟨by decide, RX11, TX11, 18, tyX11, "PaperBoys", rfl, inlX11, tyX11_ok, nmX11, by decide, rfl, rfl, m_3_4, Or.inl rfl⟩
theorem fl_X11_83_5012 : xF RX11 83 5012 12 .int false := ⟨by decide, RX11, TX11, 18, tyX11, "PaperBoys", rfl, inlX11, tyX11_ok, nmX11, by decide, rfl, rfl, m_3_5, Or.inl rfl⟩
theorem fl_X11_87_5012 : xF RX11 87 5012 13 .int false := ⟨by decide, RX11, TX11, 18, tyX11, "PaperBoys", rfl, inlX11, tyX11_ok, nmX11, by decide, rfl, rfl, m_3_6, Or.inl rfl⟩
theorem fl_X11_90_5012 : xF RX11 90 5012 14 .int false := ⟨by decide, RX11, TX11, 18, tyX11, "PaperBoys", rfl, inlX11, tyX11_ok, nmX11, by decide, rfl, rfl, m_3_7, Or.inl rfl⟩
theorem fl_X11_93_5012 : xF RX11 93 5012 15 .int false := ⟨by decide, RX11, TX11, 18, tyX11, "PaperBoys", rfl, inlX11, tyX11_ok, nmX11, by decide, rfl, rfl, m_3_8, Or.inl rfl⟩
theorem fl_X11_96_5012 : xF RX11 96 5012 16 .int false := ⟨by decide, RX11, TX11, 18, tyX11, "PaperBoys", rfl, inlX11, tyX11_ok, nmX11, by decide, rfl, rfl, m_3_9, Or.inl rfl⟩
theorem fl_X11_99_5012 : xF RX11 99 5012 17 .int false := ⟨by decide, RX11, TX11, 18, tyX11, "PaperBoys", rfl, inlX11, tyX11_ok, nmX11, by decide, rfl, rfl, m_3_10, Or.inl rfl⟩
theorem fl_X12_102_5013 : xF RX12 102 5013 52 (.array .int) true := ⟨by decide, RX12, TX12, 91, tyX12, "PaperBoysModel", rfl, inlX12, tyX12_ok, nmX12, by decide, rfl, rfl, m_9_8, Or.inl rfl⟩
theorem fl_X12_105_5013 : xF RX12 105 5013 53 (.array .int) true := ⟨by decide, RX12, TX12, 91, tyX12, "PaperBoysModel", rfl, inlX12, tyX12_ok, nmX12, by decide, rfl, rfl, m_9_9, Or.inl rfl⟩
theorem fl_X12_108_5013 : xF RX12 108 5013 54 (.array .int) true := ⟨by decide, RX12, TX12, 91, tyX12, "PaperBoysModel", rfl, inlX12, tyX12_ok, nmX12, by decide, rfl, rfl, m_9_10, Or.inl rfl⟩
theorem fl_X12_111_5013 : xF RX12 111 5013 55 (.array .int) true := ⟨by decide, RX12, TX12, 91, tyX12, "PaperBoysModel", rfl, inlX12, tyX12_ok, nmX12, by decide, rfl, rfl, m_9_11, Or.inl rfl⟩
theorem fl_X12_114_5013 : xF RX12 114 5013 56 (.array .int) true := ⟨by decide, RX12, TX12, 91, tyX12, "PaperBoysModel", rfl, inlX12, tyX12_ok, nmX12, by decide, rfl, rfl, m_9_12, Or.inl rfl⟩
theorem fl_X12_117_5013 : xF RX12 117 5013 57 (.array .int) true := ⟨by decide, RX12, TX12, 91, tyX12, "PaperBoysModel", rfl, inlX12, tyX12_ok, nmX12, by decide, rfl, rfl, m_9_13, Or.inl rfl⟩
theorem fl_X12_120_5013 : xF RX12 120 5013 59 .int false := ⟨by decide, RX12, TX12, 91, tyX12, "PaperBoysModel", rfl, inlX12, tyX12_ok, nmX12, by decide, rfl, rfl, m_9_14, Or.inl rfl⟩
theorem fl_X12_123_5013 : xF RX12 123 5013 60 (.array .int) true := ⟨by decide, RX12, TX12, 91, tyX12, "PaperBoysModel", rfl, inlX12, tyX12_ok, nmX12, by decide, rfl, rfl, m_9_15, Or.inl rfl⟩
theorem fl_X12_126_5013 : xF RX12 126 5013 61 (.array .int) true := ⟨by decide, RX12, TX12, 91, tyX12, "PaperBoysModel", rfl, inlX12, tyX12_ok, nmX12, by decide, rfl, rfl, m_9_16, Or.inl rfl⟩
theorem fl_X12_129_5013 : xF RX12 129 5013 62 (.array .boolean) true := ⟨by decide, RX12, TX12, 91, tyX12, "PaperBoysModel", rfl, inlX12, tyX12_ok, nmX12, by decide, rfl, rfl, m_9_17, Or.inl rfl⟩
theorem fl_X12_132_5013 : xF RX12 132 5013 63 (.array .boolean) true := ⟨by decide, RX12, TX12, 91, tyX12, "PaperBoysModel", rfl, inlX12, tyX12_ok, nmX12, by decide, rfl, rfl, m_9_18, Or.inl rfl⟩
theorem fl_X12_135_5013 : xF RX12 135 5013 64 (.array .int) true := ⟨by decide, RX12, TX12, 91, tyX12, "PaperBoysModel", rfl, inlX12, tyX12_ok, nmX12, by decide, rfl, rfl, m_9_19, Or.inl rfl⟩
theorem fl_X12_138_5013 : xF RX12 138 5013 65 (.array .int) true := ⟨by decide, RX12, TX12, 91, tyX12, "PaperBoysModel", rfl, inlX12, tyX12_ok, nmX12, by decide, rfl, rfl, m_9_20, Or.inl rfl⟩
theorem fl_X12_13_5013 : xF RX12 13 5013 4 (.array .int) true := ⟨by decide, RX12, TX12, 91, tyX12, "PaperBoysModel", rfl, inlX12, tyX12_ok, nmX12, by decide, rfl, rfl, m_8_3, Or.inl rfl⟩
theorem fl_X12_141_5013 : xF RX12 141 5013 66 (.array .int) true := ⟨by decide, RX12, TX12, 91, tyX12, "PaperBoysModel", rfl, inlX12, tyX12_ok, nmX12, by decide, rfl, rfl, m_9_21, Or.inl rfl⟩
theorem fl_X12_144_5013 : xF RX12 144 5013 67 (.array .int) true := ⟨by decide, RX12, TX12, 91, tyX12, "PaperBoysModel", rfl, inlX12, tyX12_ok, nmX12, by decide, rfl, rfl, m_9_22, Or.inl rfl⟩
theorem fl_X12_147_5013 : xF RX12 147 5013 68 (.array .int) true := ⟨by decide, RX12, TX12, 91, tyX12, "PaperBoysModel", rfl, inlX12, tyX12_ok, nmX12, by decide, rfl, rfl, m_9_23, Or.inl rfl⟩
theorem fl_X12_150_5013 : xF RX12 150 5013 71 .int false := ⟨by decide, RX12, TX12, 91, tyX12, "PaperBoysModel", rfl, inlX12, tyX12_ok, nmX12, by decide, rfl, rfl, m_10_0, Or.inl rfl⟩
theorem fl_X12_153_5013 : xF RX12 153 5013 72 (.array .int) true := ⟨by decide, RX12, TX12, 91, tyX12, "PaperBoysModel", rfl, inlX12, tyX12_ok, nmX12, by decide, rfl, rfl, m_10_1, Or.inl rfl⟩
theorem fl_X12_156_5013 : xF RX12 156 5013 73 (.array .int) true := ⟨by decide, RX12, TX12, 91, tyX12, "PaperBoysModel", rfl, inlX12, tyX12_ok, nmX12, by decide, rfl, rfl, m_10_2, Or.inl rfl⟩
theorem fl_X12_159_5013 : xF RX12 159 5013 74 (.array .int) true := ⟨by decide, RX12, TX12, 91, tyX12, "PaperBoysModel", rfl, inlX12, tyX12_ok, nmX12, by decide, rfl, rfl, m_10_3, Or.inl rfl⟩
theorem fl_X12_162_5013 : xF RX12 162 5013 75 (.array .int) true := ⟨by decide, RX12, TX12, 91, tyX12, "PaperBoysModel", rfl, inlX12, tyX12_ok, nmX12, by decide, rfl, rfl, m_10_4, Or.inl rfl⟩
theorem fl_X12_165_5013 : xF RX12 165 5013 76 (.array .int) true := ⟨by decide, RX12, TX12, 91, tyX12, "PaperBoysModel", rfl, inlX12, tyX12_ok, nmX12, by decide, rfl, rfl, m_10_5, Or.inl rfl⟩
theorem fl_X12_168_5013 : xF RX12 168 5013 77 (.array .boolean) true := ⟨by decide, RX12, TX12, 91, tyX12, "PaperBoysModel", rfl, inlX12, tyX12_ok, nmX12, by decide, rfl, rfl, m_10_6, Or.inl rfl⟩
theorem fl_X12_16_5013 : xF RX12 16 5013 5 (.array .int) true := ⟨by decide, RX12, TX12, 91, tyX12, "PaperBoysModel", rfl, inlX12, tyX12_ok, nmX12, by decide, rfl, rfl, m_8_4, Or.inl rfl⟩
theorem fl_X12_171_5013 : xF RX12 171 5013 80 (.array .int) true := ⟨by decide, RX12, TX12, 91, tyX12, "PaperBoysModel", rfl, inlX12, tyX12_ok, nmX12, by decide, rfl, rfl, m_10_7, Or.inl rfl⟩
theorem fl_X12_174_5013 : xF RX12 174 5013 81 (.array .int) true := ⟨by decide, RX12, TX12, 91, tyX12, "PaperBoysModel", rfl, inlX12, tyX12_ok, nmX12, by decide, rfl, rfl, m_10_8, Or.inl rfl⟩
theorem fl_X12_177_5013 : xF RX12 177 5013 82 (.array .int) true := ⟨by decide, RX12, TX12, 91, tyX12, "PaperBoysModel", rfl, inlX12, tyX12_ok, nmX12, by decide, rfl, rfl, m_10_9, Or.inl rfl⟩
theorem fl_X12_180_5013 : xF RX12 180 5013 83 (.array .int) true := ⟨by decide, RX12, TX12, 91, tyX12, "PaperBoysModel", rfl, inlX12, tyX12_ok, nmX12, by decide, rfl, rfl, m_10_10, Or.inl rfl⟩
theorem fl_X12_183_5013 : xF RX12 183 5013 84 (.array .int) true := ⟨by decide, RX12, TX12, 91, tyX12, "PaperBoysModel", rfl, inlX12, tyX12_ok, nmX12, by decide, rfl, rfl, m_10_11, Or.inl rfl⟩
theorem fl_X12_186_5013 : xF RX12 186 5013 85 (.array .int) true := ⟨by decide, RX12, TX12, 91, tyX12, "PaperBoysModel", rfl, inlX12, tyX12_ok, nmX12, by decide, rfl, rfl, m_10_12, Or.inl rfl⟩
theorem fl_X12_189_5013 : xF RX12 189 5013 86 (.array .int) true := ⟨by decide, RX12, TX12, 91, tyX12, "PaperBoysModel", rfl, inlX12, tyX12_ok, nmX12, by decide, rfl, rfl, m_10_13, Or.inl rfl⟩
theorem fl_X12_192_5013 : xF RX12 192 5013 89 .int false := ⟨by decide, RX12, TX12, 91, tyX12, "PaperBoysModel", rfl, inlX12, tyX12_ok, nmX12, by decide, rfl, rfl, m_10_14, Or.inl rfl⟩
theorem fl_X12_195_5013 : xF RX12 195 5013 90 .int false := ⟨by decide, RX12, TX12, 91, tyX12, "PaperBoysModel", rfl, inlX12, tyX12_ok, nmX12, by decide, rfl, rfl, m_10_15, Or.inl rfl⟩
theorem fl_X12_19_5013 : xF RX12 19 5013 6 (.array .int) true := ⟨by decide, RX12, TX12, 91, tyX12, "PaperBoysModel", rfl, inlX12, tyX12_ok, nmX12, by decide, rfl, rfl, m_8_5, Or.inl rfl⟩
theorem fl_X12_22_5013 : xF RX12 22 5013 7 (.array .int) true := ⟨by decide, RX12, TX12, 91, tyX12, "PaperBoysModel", rfl, inlX12, tyX12_ok, nmX12, by decide, rfl, rfl, m_8_6, Or.inl rfl⟩
theorem fl_X12_25_5013 : xF RX12 25 5013 8 (.array .boolean) true := ⟨by decide, RX12, TX12, 91, tyX12, "PaperBoysModel", rfl, inlX12, tyX12_ok, nmX12, by decide, rfl, rfl, m_8_7, Or.inl rfl⟩
theorem fl_X12_29_5013 : xF RX12 29 5013 9 (.array .int) true := ⟨by decide, RX12, TX12, 91, tyX12, "PaperBoysModel", rfl, inlX12, tyX12_ok, nmX12, by decide, rfl, rfl, m_8_8, Or.inl rfl⟩
theorem fl_X12_32_5013 : xF RX12 32 5013 10 (.array .int) true := ⟨by decide, RX12, TX12, 91, tyX12, "PaperBoysModel", rfl, inlX12, tyX12_ok, nmX12, by decide, rfl, rfl, m_8_9, Or.inl rfl⟩
theorem fl_X12_35_5013 : xF RX12 35 5013 11 (.array .int) true := ⟨by decide, RX12, TX12, 91, tyX12, "PaperBoysModel", rfl, inlX12, tyX12_ok, nmX12, by decide, rfl, rfl, m_8_10, Or.inl rfl⟩
theorem fl_X12_38_5013 : xF RX12 38 5013 12 (.array .int) true := ⟨by decide, RX12, TX12, 91, tyX12, "PaperBoysModel", rfl, inlX12, tyX12_ok, nmX12, by decide, rfl, rfl, m_8_11, Or.inl rfl⟩
theorem fl_X12_41_5013 : xF RX12 41 5013 13 (.array .int) true := ⟨by decide, RX12, TX12, 91, tyX12, "PaperBoysModel", rfl, inlX12, tyX12_ok, nmX12, by decide, rfl, rfl, m_8_12, Or.inl rfl⟩
theorem fl_X12_44_5013 : xF RX12 44 5013 14 (.array .int) true := ⟨by decide, RX12, TX12, 91, tyX12, "PaperBoysModel", rfl, inlX12, tyX12_ok, nmX12, by decide, rfl, rfl, m_8_13, Or.inl rfl⟩
theorem fl_X12_47_5013 : xF RX12 47 5013 15 (.array .int) true := ⟨by decide, RX12, TX12, 91, tyX12, "PaperBoysModel", rfl, inlX12, tyX12_ok, nmX12, by decide, rfl, rfl, m_8_14, Or.inl rfl⟩
theorem fl_X12_50_5013 : xF RX12 50 5013 29 (.array .int) true := ⟨by decide, RX12, TX12, 91, tyX12, "PaperBoysModel", rfl, inlX12, tyX12_ok, nmX12, by decide, rfl, rfl, m_8_15, Or.inl rfl⟩
theorem fl_X12_53_5013 : xF RX12 53 5013 30 (.array .int) true := ⟨by decide, RX12, TX12, 91, tyX12, "PaperBoysModel", rfl, inlX12, tyX12_ok, nmX12, by decide, rfl, rfl, m_8_16, Or.inl rfl⟩
theorem fl_X12_56_5013 : xF RX12 56 5013 31 (.array .int) true := ⟨by decide, RX12, TX12, 91, tyX12, "PaperBoysModel", rfl, inlX12, tyX12_ok, nmX12, by decide, rfl, rfl, m_8_17, Or.inl rfl⟩
theorem fl_X12_59_5013 : xF RX12 59 5013 32 (.array .int) true := ⟨by decide, RX12, TX12, 91, tyX12, "PaperBoysModel", rfl, inlX12, tyX12_ok, nmX12, by decide, rfl, rfl, m_8_18, Or.inl rfl⟩
theorem fl_X12_62_5013 : xF RX12 62 5013 33 (.array .int) true := ⟨by decide, RX12, TX12, 91, tyX12, "PaperBoysModel", rfl, inlX12, tyX12_ok, nmX12, by decide, rfl, rfl, m_8_19, Or.inl rfl⟩
theorem fl_X12_65_5013 : xF RX12 65 5013 34 (.array .int) true := ⟨by decide, RX12, TX12, 91, tyX12, "PaperBoysModel", rfl, inlX12, tyX12_ok, nmX12, by decide, rfl, rfl, m_8_20, Or.inl rfl⟩
theorem fl_X12_68_5013 : xF RX12 68 5013 35 (.array .int) true := ⟨by decide, RX12, TX12, 91, tyX12, "PaperBoysModel", rfl, inlX12, tyX12_ok, nmX12, by decide, rfl, rfl, m_8_21, Or.inl rfl⟩
theorem fl_X12_71_5013 : xF RX12 71 5013 36 (.array .int) true := ⟨by decide, RX12, TX12, 91, tyX12, "PaperBoysModel", rfl, inlX12, tyX12_ok, nmX12, by decide, rfl, rfl, m_8_22, Or.inl rfl⟩
theorem fl_X12_74_5013 : xF RX12 74 5013 37 (.array .int) true := ⟨by decide, RX12, TX12, 91, tyX12, "PaperBoysModel", rfl, inlX12, tyX12_ok, nmX12, by decide, rfl, rfl, m_8_23, Or.inl rfl⟩
theorem fl_X12_77_5013 : xF RX12 77 5013 38 (.array .int) true := ⟨by decide, RX12, TX12, 91, tyX12, "PaperBoysModel", rfl, inlX12, tyX12_ok, nmX12, by decide, rfl, rfl, m_9_0, Or.inl rfl⟩
theorem fl_X12_7_5013 : xF RX12 7 5013 1 (.array .int) true := ⟨by decide, RX12, TX12, 91, tyX12, "PaperBoysModel", rfl, inlX12, tyX12_ok, nmX12, by decide, rfl, rfl, m_8_2, Or.inl rfl⟩
theorem fl_X12_80_5013 : xF RX12 80 5013 45 (.array .int) true := ⟨by decide, RX12, TX12, 91, tyX12, "PaperBoysModel", rfl, inlX12, tyX12_ok, nmX12, by decide, rfl, rfl, m_9_1, Or.inl rfl⟩
theorem fl_X12_83_5013 : xF RX12 83 5013 46 (.array .boolean) true := ⟨by decide, RX12, TX12, 91, tyX12, "PaperBoysModel", rfl, inlX12, tyX12_ok, nmX12, by decide, rfl, rfl, m_9_2, Or.inl rfl⟩
theorem fl_X12_86_5013 : xF RX12 86 5013 47 .int false := ⟨by decide, RX12, TX12, 91, tyX12, "PaperBoysModel", rfl, inlX12, tyX12_ok, nmX12, by decide, rfl, rfl, m_9_3, Or.inl rfl⟩
theorem fl_X12_90_5013 : xF RX12 90 5013 48 (.array .int) true := ⟨by decide, RX12, TX12, 91, tyX12, "PaperBoysModel", rfl, inlX12, tyX12_ok, nmX12, by decide, rfl, rfl, m_9_4, Or.inl rfl⟩
theorem fl_X12_93_5013 : xF RX12 93 5013 49 (.array .int) true := ⟨by decide, RX12, TX12, 91, tyX12, "PaperBoysModel", rfl, inlX12, tyX12_ok, nmX12, by decide, rfl, rfl, m_9_5, Or.inl rfl⟩
theorem fl_X12_96_5013 : xF RX12 96 5013 50 (.array .int) true := ⟨by decide, RX12, TX12, 91, tyX12, "PaperBoysModel", rfl, inlX12, tyX12_ok, nmX12, by decide, rfl, rfl, m_9_6, Or.inl rfl⟩
theorem fl_X12_99_5013 : xF RX12 99 5013 51 (.array .int) true := ⟨by decide, RX12, TX12, 91, tyX12, "PaperBoysModel", rfl, inlX12, tyX12_ok, nmX12, by decide, rfl, rfl, m_9_7, Or.inl rfl⟩
theorem fl_X2_15_5003 : xF RX2 15 5003 1 (.array .int) true := ⟨by decide, RX2, TX2, 4, tyX2, "PaperBoys$Chances", rfl, inlX2, tyX2_ok, nmX2, by decide, rfl, rfl, m_6_20, Or.inl rfl⟩
theorem fl_X2_18_5003 : xF RX2 18 5003 2 .int false := ⟨by decide, RX2, TX2, 4, tyX2, "PaperBoys$Chances", rfl, inlX2, tyX2_ok, nmX2, by decide, rfl, rfl, m_6_21, Or.inl rfl⟩
theorem fl_X2_22_5003 : xF RX2 22 5003 3 .long false := ⟨by decide, RX2, TX2, 4, tyX2, "PaperBoys$Chances", rfl, inlX2, tyX2_ok, nmX2, by decide, rfl, rfl, m_6_22, Or.inl rfl⟩
theorem fl_X2_9_5003 : xF RX2 9 5003 0 (.array .int) true := ⟨by decide, RX2, TX2, 4, tyX2, "PaperBoys$Chances", rfl, inlX2, tyX2_ok, nmX2, by decide, rfl, rfl, m_6_19, Or.inl rfl⟩
theorem fl_X3_17_5004 : xF RX3 17 5004 1 (.array (.array .int)) true := ⟨by decide, RX3, TX3, 7, tyX3, "PaperBoys$City", rfl, inlX3, tyX3_ok, nmX3, by decide, rfl, rfl, m_4_14, Or.inl rfl⟩
theorem fl_X3_20_5004 : xF RX3 20 5004 2 (.array .int) true := ⟨by decide, RX3, TX3, 7, tyX3, "PaperBoys$City", rfl, inlX3, tyX3_ok, nmX3, by decide, rfl, rfl, m_4_15, Or.inl rfl⟩
theorem fl_X3_23_5004 : xF RX3 23 5004 3 (.array .int) true := ⟨by decide, RX3, TX3, 7, tyX3, "PaperBoys$City", rfl, inlX3, tyX3_ok, nmX3, by decide, rfl, rfl, m_4_16, Or.inl rfl⟩
theorem fl_X3_26_5004 : xF RX3 26 5004 4 (.array (.array .int)) true := ⟨by decide, RX3, TX3, 7, tyX3, "PaperBoys$City", rfl, inlX3, tyX3_ok, nmX3, by decide, rfl, rfl, m_4_17, Or.inl rfl⟩
theorem fl_X3_29_5004 : xF RX3 29 5004 5 (.array .int) true := ⟨by decide, RX3, TX3, 7, tyX3, "PaperBoys$City", rfl, inlX3, tyX3_ok, nmX3, by decide, rfl, rfl, m_4_18, Or.inl rfl⟩
theorem fl_X3_32_5004 : xF RX3 32 5004 6 (.array (.array .int)) true := ⟨by decide, RX3, TX3, 7, tyX3, "PaperBoys$City", rfl, inlX3, tyX3_ok, nmX3, by decide, rfl, rfl, m_4_19, Or.inl rfl⟩
theorem fl_X3_9_5004 : xF RX3 9 5004 0 (.array .int) true := ⟨by decide, RX3, TX3, 7, tyX3, "PaperBoys$City", rfl, inlX3, tyX3_ok, nmX3, by decide, rfl, rfl, m_4_12, Or.inl rfl⟩
theorem fl_X4_15_5005 : xF RX4 15 5005 1 (.array .int) true := ⟨by decide, RX4, TX4, 4, tyX4, "PaperBoys$Ledger", rfl, inlX4, tyX4_ok, nmX4, by decide, rfl, rfl, m_5_15, Or.inl rfl⟩
theorem fl_X4_18_5005 : xF RX4 18 5005 2 (.array .int) true := ⟨by decide, RX4, TX4, 4, tyX4, "PaperBoys$Ledger", rfl, inlX4, tyX4_ok, nmX4, by decide, rfl, rfl, m_5_16, Or.inl rfl⟩
theorem fl_X4_21_5005 : xF RX4 21 5005 3 .int false := ⟨by decide, RX4, TX4, 4, tyX4, "PaperBoys$Ledger", rfl, inlX4, tyX4_ok, nmX4, by decide, rfl, rfl, m_5_17, Or.inl rfl⟩
theorem fl_X4_9_5005 : xF RX4 9 5005 0 (.array .int) true := ⟨by decide, RX4, TX4, 4, tyX4, "PaperBoys$Ledger", rfl, inlX4, tyX4_ok, nmX4, by decide, rfl, rfl, m_5_14, Or.inl rfl⟩
theorem fl_X5_12_5006 : xF RX5 12 5006 0 (.object "PaperBoys$City") true := ⟨by decide, RX5, TX5, 8, tyX5, "PaperBoys$Market", rfl, inlX5, tyX5_ok, nmX5, by decide, rfl, rfl, m_3_23, Or.inl rfl⟩
theorem fl_X5_21_5006 : xF RX5 21 5006 1 (.object "java/util/ArrayList") true := ⟨by decide, RX5, TX5, 8, tyX5, "PaperBoys$Market", rfl, inlX5, tyX5_ok, nmX5, by decide, rfl, rfl, m_4_1, Or.inl rfl⟩
theorem fl_X5_25_5006 : xF RX5 25 5006 2 (.object "java/util/ArrayList") true := ⟨by decide, RX5, TX5, 8, tyX5, "PaperBoys$Market", rfl, inlX5, tyX5_ok, nmX5, by decide, rfl, rfl, m_4_2, Or.inl rfl⟩
theorem fl_X5_28_5006 : xF RX5 28 5006 3 (.object "java/util/ArrayList") true := ⟨by decide, RX5, TX5, 8, tyX5, "PaperBoys$Market", rfl, inlX5, tyX5_ok, nmX5, by decide, rfl, rfl, m_4_3, Or.inl rfl⟩
theorem fl_X5_31_5006 : xF RX5 31 5006 4 (.array .int) true := ⟨by decide, RX5, TX5, 8, tyX5, "PaperBoys$Market", rfl, inlX5, tyX5_ok, nmX5, by decide, rfl, rfl, m_4_4, Or.inl rfl⟩
theorem fl_X5_35_5006 : xF RX5 35 5006 5 .int false := ⟨by decide, RX5, TX5, 8, tyX5, "PaperBoys$Market", rfl, inlX5, tyX5_ok, nmX5, by decide, rfl, rfl, m_4_5, Or.inl rfl⟩
theorem fl_X5_39_5006 : xF RX5 39 5006 6 .int false := ⟨by decide, RX5, TX5, 8, tyX5, "PaperBoys$Market", rfl, inlX5, tyX5_ok, nmX5, by decide, rfl, rfl, m_4_6, Or.inl rfl⟩
theorem fl_X5_42_5006 : xF RX5 42 5006 7 .int false := ⟨by decide, RX5, TX5, 8, tyX5, "PaperBoys$Market", rfl, inlX5, tyX5_ok, nmX5, by decide, rfl, rfl, m_4_7, Or.inl rfl⟩
theorem fl_X6_15_5007 : xF RX6 15 5007 1 (.array .int) true := ⟨by decide, RX6, TX6, 10, tyX6, "PaperBoys$Parting", rfl, inlX6, tyX6_ok, nmX6, by decide, rfl, rfl, m_7_12, Or.inl rfl⟩
theorem fl_X6_19_5007 : xF RX6 19 5007 2 (.array .int) true := ⟨by decide, RX6, TX6, 10, tyX6, "PaperBoys$Parting", rfl, inlX6, tyX6_ok, nmX6, by decide, rfl, rfl, m_7_13, Or.inl rfl⟩
theorem fl_X6_22_5007 : xF RX6 22 5007 3 (.array .int) true := ⟨by decide, RX6, TX6, 10, tyX6, "PaperBoys$Parting", rfl, inlX6, tyX6_ok, nmX6, by decide, rfl, rfl, m_7_14, Or.inl rfl⟩
theorem fl_X6_25_5007 : xF RX6 25 5007 4 (.array .int) true := ⟨by decide, RX6, TX6, 10, tyX6, "PaperBoys$Parting", rfl, inlX6, tyX6_ok, nmX6, by decide, rfl, rfl, m_7_15, Or.inl rfl⟩
theorem fl_X6_28_5007 : xF RX6 28 5007 5 (.array .int) true := ⟨by decide, RX6, TX6, 10, tyX6, "PaperBoys$Parting", rfl, inlX6, tyX6_ok, nmX6, by decide, rfl, rfl, m_7_16, Or.inl rfl⟩
theorem fl_X6_31_5007 : xF RX6 31 5007 6 (.array .int) true := ⟨by decide, RX6, TX6, 10, tyX6, "PaperBoys$Parting", rfl, inlX6, tyX6_ok, nmX6, by decide, rfl, rfl, m_7_17, Or.inl rfl⟩
theorem fl_X6_34_5007 : xF RX6 34 5007 7 (.array .boolean) true := ⟨by decide, RX6, TX6, 10, tyX6, "PaperBoys$Parting", rfl, inlX6, tyX6_ok, nmX6, by decide, rfl, rfl, m_7_19, Or.inl rfl⟩
theorem fl_X6_38_5007 : xF RX6 38 5007 8 (.array .long) true := ⟨by decide, RX6, TX6, 10, tyX6, "PaperBoys$Parting", rfl, inlX6, tyX6_ok, nmX6, by decide, rfl, rfl, m_7_20, Or.inl rfl⟩
theorem fl_X6_42_5007 : xF RX6 42 5007 9 .int false := ⟨by decide, RX6, TX6, 10, tyX6, "PaperBoys$Parting", rfl, inlX6, tyX6_ok, nmX6, by decide, rfl, rfl, m_7_21, Or.inl rfl⟩
theorem fl_X6_9_5007 : xF RX6 9 5007 0 .int false := ⟨by decide, RX6, TX6, 10, tyX6, "PaperBoys$Parting", rfl, inlX6, tyX6_ok, nmX6, by decide, rfl, rfl, m_7_11, Or.inl rfl⟩
theorem fl_X7_15_5008 : xF RX7 15 5008 1 (.array .int) true := ⟨by decide, RX7, TX7, 7, tyX7, "PaperBoys$Reader", rfl, inlX7, tyX7_ok, nmX7, by decide, rfl, rfl, m_6_10, Or.inl rfl⟩
theorem fl_X7_18_5008 : xF RX7 18 5008 2 .int false := ⟨by decide, RX7, TX7, 7, tyX7, "PaperBoys$Reader", rfl, inlX7, tyX7_ok, nmX7, by decide, rfl, rfl, m_6_11, Or.inl rfl⟩
theorem fl_X7_22_5008 : xF RX7 22 5008 3 .int false := ⟨by decide, RX7, TX7, 7, tyX7, "PaperBoys$Reader", rfl, inlX7, tyX7_ok, nmX7, by decide, rfl, rfl, m_6_12, Or.inl rfl⟩
theorem fl_X7_25_5008 : xF RX7 25 5008 4 .boolean false := ⟨by decide, RX7, TX7, 7, tyX7, "PaperBoys$Reader", rfl, inlX7, tyX7_ok, nmX7, by decide, rfl, rfl, m_6_13, Or.inl rfl⟩
theorem fl_X7_29_5008 : xF RX7 29 5008 5 .int false := ⟨by decide, RX7, TX7, 7, tyX7, "PaperBoys$Reader", rfl, inlX7, tyX7_ok, nmX7, by decide, rfl, rfl, m_6_14, Or.inl rfl⟩
theorem fl_X7_32_5008 : xF RX7 32 5008 6 .int false := ⟨by decide, RX7, TX7, 7, tyX7, "PaperBoys$Reader", rfl, inlX7, tyX7_ok, nmX7, by decide, rfl, rfl, m_6_15, Or.inl rfl⟩
theorem fl_X7_9_5008 : xF RX7 9 5008 0 (.array .int) true := ⟨by decide, RX7, TX7, 7, tyX7, "PaperBoys$Reader", rfl, inlX7, tyX7_ok, nmX7, by decide, rfl, rfl, m_6_9, Or.inl rfl⟩
theorem fl_X8_11_5009 : xF RX8 11 5009 0 (.array .int) true := ⟨by decide, RX8, TX8, 6, tyX8, "PaperBoys$Route", rfl, inlX8, tyX8_ok, nmX8, by decide, rfl, rfl, m_7_2, Or.inl rfl⟩
theorem fl_X8_15_5009 : xF RX8 15 5009 1 (.array .int) true := ⟨by decide, RX8, TX8, 6, tyX8, "PaperBoys$Route", rfl, inlX8, tyX8_ok, nmX8, by decide, rfl, rfl, m_7_3, Or.inl rfl⟩
theorem fl_X8_18_5009 : xF RX8 18 5009 2 (.array .int) true := ⟨by decide, RX8, TX8, 6, tyX8, "PaperBoys$Route", rfl, inlX8, tyX8_ok, nmX8, by decide, rfl, rfl, m_7_4, Or.inl rfl⟩
theorem fl_X8_21_5009 : xF RX8 21 5009 3 (.array .int) false := ⟨by decide, RX8, TX8, 6, tyX8, "PaperBoys$Route", rfl, inlX8, tyX8_ok, nmX8, by decide, rfl, rfl, m_7_5, Or.inl rfl⟩
theorem fl_X8_24_5009 : xF RX8 24 5009 4 .int false := ⟨by decide, RX8, TX8, 6, tyX8, "PaperBoys$Route", rfl, inlX8, tyX8_ok, nmX8, by decide, rfl, rfl, m_7_6, Or.inl rfl⟩
theorem fl_X8_28_5009 : xF RX8 28 5009 5 .int false := ⟨by decide, RX8, TX8, 6, tyX8, "PaperBoys$Route", rfl, inlX8, tyX8_ok, nmX8, by decide, rfl, rfl, m_7_7, Or.inl rfl⟩
theorem fl_X9_15_5010 : xF RX9 15 5010 1 .int false := ⟨by decide, RX9, TX9, 2, tyX9, "PaperBoys$Tape", rfl, inlX9, tyX9_ok, nmX9, by decide, rfl, rfl, m_3_16, Or.inl rfl⟩
theorem fl_X9_9_5010 : xF RX9 9 5010 0 (.array .int) true := ⟨by decide, RX9, TX9, 2, tyX9, "PaperBoys$Tape", rfl, inlX9, tyX9_ok, nmX9, by decide, rfl, rfl, m_3_15, Or.inl rfl⟩
theorem li_Jx4a65c_1 : xLI RJx4a65c 1 yJxc12de_init_da8c8 cJxc12de_init_da8c8 1 0 := ⟨Or.inl m_5_1, m_5_2, m_5_3, m_5_4, rfl, by decide +kernel⟩
theorem li_Jxc12de_1 : xLI RJxc12de 1 yJxa1e45_init_da8c8 cJxa1e45_init_da8c8 1 0 := ⟨Or.inl m_5_6, m_5_7, m_5_8, m_5_9, rfl, by decide +kernel⟩
theorem li_X11_18 : xLI RX11 18 yX5_init cX5_init 1 0 := ⟨Or.inr (by decide), m_3_17, m_1_19, m_3_18, rfl, by decide +kernel⟩
theorem li_X11_30 : xLI RX11 30 yX4_init cX4_init 1 0 := ⟨Or.inr (by decide), m_5_11, m_2_1, m_5_12, rfl, by decide +kernel⟩
theorem li_X11_37 : xLI RX11 37 yJx4a65c_init_da8c8 cJx4a65c_init_da8c8 1 0 := ⟨Or.inl m_5_18, m_4_21, m_2_5, m_4_22, rfl, by decide +kernel⟩
theorem li_X11_51 : xLI RX11 51 yX7_init cX7_init 1 0 := ⟨Or.inr (by decide), m_6_6, m_2_13, m_6_7, rfl, by decide +kernel⟩
theorem li_X11_61 : xLI RX11 61 yX2_init cX2_init 1 0 := ⟨Or.inr (by decide), m_6_16, m_2_18, m_6_17, rfl, by decide +kernel⟩
theorem li_X11_68 : xLI RX11 68 yX8_init cX8_init 1 0 := ⟨Or.inr (by decide), m_6_23, m_2_22, m_7_0, rfl, by decide +kernel⟩
theorem li_X11_75 : xLI RX11 75 yX6_init cX6_init 1 0 := ⟨Or.inr (by decide), m_7_8, m_3_2, m_7_9, rfl, by decide +kernel⟩
theorem li_X11_9 : xLI RX11 9 yX9_init cX9_init 1 0 := ⟨Or.inr (by decide), m_3_11, m_1_15, m_3_12, rfl, by decide +kernel⟩
theorem li_X5_11 : xLI RX5 11 yX3_init cX3_init 3 0 := ⟨Or.inl m_4_8, m_4_9, m_3_22, m_4_10, rfl, by decide +kernel⟩
theorem li_X5_20 : xLI RX5 20 yJx4a65c_init_da8c8 cJx4a65c_init_da8c8 1 0 := ⟨Or.inl m_4_20, m_4_21, m_2_5, m_4_22, rfl, by decide +kernel⟩
theorem nw_X11_16 : xNw RX11 16 6 RX5 TX5 8 tyX5 [.null, .null, .null, .null, .null, .int 0, .int 0, .int 0] := ⟨by decide, rfl, inlX5, tyX5_ok, dfX5, m_1_17, m_1_18, m_1_19⟩
theorem nw_X11_28 : xNw RX11 28 5 RX4 TX4 4 tyX4 [.null, .null, .null, .int 0] := ⟨by decide, rfl, inlX4, tyX4_ok, dfX4, m_1_23, m_2_0, m_2_1⟩
theorem nw_X11_35 : xNw RX11 35 0 RJx4a65c TJx4a65c 3 tyJx4a65c [.int 0, .null, .int 0] := ⟨by decide, rfl, inlJx4a65c, tyJx4a65c_ok, dfJx4a65c, m_2_3, m_2_4, m_2_5⟩
theorem nw_X11_49 : xNw RX11 49 8 RX7 TX7 7 tyX7 [.null, .null, .int 0, .int 0, .int 0, .int 0, .int 0] := ⟨by decide, rfl, inlX7, tyX7_ok, dfX7, m_2_11, m_2_12, m_2_13⟩
theorem nw_X11_59 : xNw RX11 59 3 RX2 TX2 4 tyX2 [.null, .null, .int 0, .long 0] := ⟨by decide, rfl, inlX2, tyX2_ok, dfX2, m_2_16, m_2_17, m_2_18⟩
theorem nw_X11_66 : xNw RX11 66 9 RX8 TX8 6 tyX8 [.null, .null, .null, .null, .int 0, .int 0] := ⟨by decide, rfl, inlX8, tyX8_ok, dfX8, m_2_20, m_2_21, m_2_22⟩
theorem nw_X11_7 : xNw RX11 7 10 RX9 TX9 2 tyX9 [.null, .int 0] := ⟨by decide, rfl, inlX9, tyX9_ok, dfX9, m_1_13, m_1_14, m_1_15⟩
theorem nw_X11_73 : xNw RX11 73 7 RX6 TX6 10 tyX6 [.int 0, .null, .null, .null, .null, .null, .null, .null, .null, .int 0] := ⟨by decide, rfl, inlX6, tyX6_ok, dfX6, m_3_0, m_3_1, m_3_2⟩
theorem nw_X5_18 : xNw RX5 18 0 RJx4a65c TJx4a65c 3 tyJx4a65c [.int 0, .null, .int 0] := ⟨by decide, rfl, inlJx4a65c, tyJx4a65c_ok, dfJx4a65c, m_4_0, m_2_4, m_2_5⟩
theorem nw_X5_9 : xNw RX5 9 4 RX3 TX3 7 tyX3 [.null, .null, .null, .null, .null, .null, .null] := ⟨by decide, rfl, inlX3, tyX3_ok, dfX3, m_3_20, m_3_21, m_3_22⟩
section XCT
variable {K : xCx} {E : xEn} {own : String} {cc : ByteArray} {Lw : List (Nat × Nat)} {nL rf rc rs rl : Nat} {pc : Nat} {lv : List (Nat × Value)} {st : List Value} {S : xT} {g : xG} {cells slots : Nat}
theorem X_sealT {q τ : Nat} (hq0 : E.2.2.2.1 q = none) (hs : S q = some (5000 + τ % 100, 0)) (hci : τ < 5000) (hf : ∀ k, xok S (xsl τ k) (g q k)) (hno : ∀ a t n k, S a = some (t, n) → (t < 10000 ∨ k < n) → a ≠ q → ∀ c, xsl t k = c → (c.1 = 0 ∨ c.1 = 3 ∨ c.1 = 4 ∨ c.1 = 9) ∨ c.2.1 ≠ ((5000 + τ % 100 : Nat) : Int)) (hself : ∀ k, (xsl τ k).2.1 ≠ ((5000 + τ % 100 : Nat) : Int))
    (kk : ∀ S1 : xT, S1 = xset S q (τ, 0) → S1 q = some (τ, 0) → (∀ b, b ≠ q → S1 b = S b) → X K E pc lv st S1 g cells slots) : X K E pc lv st S g cells slots := by
  have up : ∀ (c : Nat × Int × Int) (v : Value), ((c.1 = 0 ∨ c.1 = 3 ∨ c.1 = 4 ∨ c.1 = 9) ∨ c.2.1 ≠ ((5000 + τ % 100 : Nat) : Int)) → (c.1 = 8 → True) → xok S c v → xok (xset S q (τ, 0)) c v := by
    intro c v hc _ hv
    obtain ⟨c0, c1, c2⟩ := c
    unfold xok at hv ⊢
    dsimp only at hv hc ⊢
    have key : ∀ (b : Nat) (p : Nat × Nat), S b = some p → p.1 ≠ 5000 + τ % 100 → xset S q (τ, 0) b = some p := by
      intro b p hb hp
      have e : b ≠ q := fun e => by rw [e, hs] at hb; cases hb; exact hp rfl
      rw [xset_o e]; exact hb
    split at hv <;> try exact hv
    · obtain ⟨b, e, hb⟩ := hv
      refine ⟨b, e, key b _ hb ?_⟩
      rcases hc with hc | hc
      · simp at hc
      · show c1.toNat ≠ _; intro e9; apply hc; omega
    · rcases hv with hv | ⟨b, n, e, hb⟩
      · exact Or.inl hv
      · refine Or.inr ⟨b, n, e, key b _ hb ?_⟩
        rcases hc with hc | hc
        · simp at hc
        · show c1.toNat ≠ _; intro e9; apply hc; omega
    · obtain ⟨b, n, e, hb⟩ := hv
      refine ⟨b, n, e, key b _ hb ?_⟩
      rcases hc with hc | hc
      · simp at hc
      · show c1.toNat ≠ _; intro e9; apply hc; omega
    · obtain ⟨b, n, e, hb⟩ := hv
      refine ⟨b, n, e, ?_⟩
      rcases hb with hb | hb
      · refine Or.inl (key b _ hb ?_)
        rcases hc with hc | hc
        · simp at hc
        · show c1.toNat ≠ _; intro e9; apply hc; omega
      · exact Or.inr (key b _ hb (by show 20003 ≠ _; omega))
  intro H locs ls h1 h2 h3 h4 h5 h6
  refine kk _ rfl (xset_s _ _ _) (fun b hb => xset_o hb) H locs ls ?_ ?_ ?_ h4 h5 h6
  · intro b t' n' hb'
    by_cases e : b = q
    · subst e
      rw [xset_s] at hb'
      cases hb'
      obtain ⟨w1, w2⟩ := h1 b _ _ hs
      refine ⟨by rcases w1 with w1 | w1 <;> omega, ?_⟩
      obtain ⟨r, g1, g2⟩ := xat_o w2 (by omega)
      have hm : (5000 + τ % 100) % 100 = τ % 100 := by omega
      rw [hm] at g1 g2
      exact Or.inl ⟨by omega, r, g1, g2⟩
    · rw [xset_o e] at hb'
      exact h1 b t' n' hb'
  · intro b t' n' hb' k hk
    by_cases e : b = q
    · subst e
      rw [xset_s] at hb'
      cases hb'
      exact up _ _ (Or.inr (hself k)) (fun _ => trivial) (hf k)
    · rw [xset_o e] at hb'
      exact up _ _ (hno b t' n' k hb' hk e _ rfl) (fun _ => trivial) (h2 b t' n' hb' k hk)
  · intro b p hb
    have e : b ≠ q := fun e => by rw [e, hq0] at hb; cases hb
    rw [xset_o e]
    exact h3 b p hb
theorem X_multi (hK : xK K E own cc Lw nL rf rc rs rl) {idx N M : Nat} {lo hi : Int} (tg tr : Nat) (hw : Cond.classLink own idx "[[I" ∈ wsL_law) (hwi : Cond.arrayClass .int ∈ wsL_law) (h4 : 10000 ≤ tg ∧ tg < 20000 ∧ tg % 100 = 4) (h0 : 10000 ≤ tr ∧ tr < 20000 ∧ tr % 100 = 0) (hsg : ∀ k, xsl tg k = (1, (tr : Int), (M : Int))) (hsr : ∀ k, xsl tr k = (0, lo, hi)) (hlo : lo ≤ 0 ∧ 0 ≤ hi) (hb : N ≤ 1000 ∧ M ≤ 1000) (hc : cells + (1 + N) ≤ rc) (hs : slots + (N + N * M) ≤ rs) (hd : decode cc pc = .ok (.multianewarray idx 2, 4))
    (kk : ∀ (q : Nat) (S1 : xT) (g1 : xG), S q = none → xLe S S1 → xNw2 S S1 [tg, tr] → xM [] S g g1 → S1 q = some (tg, N) → xGr S1 g1 q tr N M → X K E (pc + 4) lv (.ref q :: st) S1 g1 (cells + (1 + N)) (slots + (N + N * M))) : X K E pc lv (.int (iI (M : Int)) :: .int (iI (N : Int)) :: st) S g cells slots := by
  intro H locs ls h1 h2 h3 hm4 h5 h6
  have hn : ¬ iI (N : Int) < 0 := by rw [← iI_0, iI_lt (by omega) (by omega)]; omega
  have hm : ¬ iI (M : Int) < 0 := by rw [← iI_0, iI_lt (by omega) (by omega)]; omega
  have eN : (iI (N : Int)).toNatClampNeg = N := by rw [iI_clamp (by omega) (by omega)]; omega
  have eM : (iI (M : Int)).toNatClampNeg = M := by rw [iI_clamp (by omega) (by omega)]; omega
  intro T hT Xs
  obtain ⟨vm₁, cA, comp, -, fA, fC, -, -, X', step⟩ := Xs.multianewarray2F (ty := .int) hK.1 hK.2.2.2.1 (hK.2.2.2.2.1 _ hw) (va_AOA.use (hK.2.2.2.2.2.2.2.1).1.2.1) (hK.2.2.2.2.1 _ hwi) (g := F0 K.2.2.2.2.2.1 pc ls (.int (iI (M : Int)) :: .int (iI (N : Int)) :: st)) rfl (by rw [hK.2.1]; exact hd) rfl hn hm (by rw [eN]; omega) (by rw [eM]; show M * 4 ≤ _; omega) (by rw [eM]; omega) rfl rfl (by rw [eN, hK.2.2.2.2.2.2.2.2.2.2.1]; exact hc) (by rw [eN, eM, hK.2.2.2.2.2.2.2.2.2.2.2.1]; exact hs)
  have e4 : cA = E.2.1 4 := Option.some.inj (fA.symm.trans ((hK.2.2.2.2.2.1).2 4 _ rfl).2)
  have e0 : comp = E.2.1 0 := Option.some.inj (fC.symm.trans ((hK.2.2.2.2.2.1).2 0 _ rfl).2)
  subst e4
  subst e0
  rw [eN, eM] at X' step
  generalize hF : Jvm.Free.Multi.fill (T.setVm vm₁) (E.2.1 4) (E.2.1 0) N M (defaultValue .int) N = F at X' step
  have hTh : (T.setVm vm₁).heap = H := hT
  obtain ⟨f1, f2, -, -⟩ := Jvm.Free.Multi.fill_facts (T.setVm vm₁) (E.2.1 4) (E.2.1 0) N M (defaultValue .int) N
  rw [hF, hTh] at f1 f2
  have hold : ∀ x : Nat, x < H.size → F.heap[x]? = H[x]? := fun x hx => by
    have := Jvm.Free.Multi.fill_old (T.setVm vm₁) (E.2.1 4) (E.2.1 0) N M (defaultValue .int) (a := x) (by rw [hTh]; exact hx) N
    rw [hF, hTh] at this
    exact this
  have hrow : ∀ j : Nat, j < N → F.heap[H.size + 1 + j]? = some (arrV (E.2.1 0) M (fun _ => .int 0)) := fun j hj => by
    have := Jvm.Free.Multi.fill_inner (T.setVm vm₁) (E.2.1 4) (E.2.1 0) N M (defaultValue .int) N j hj
    rw [hF, hTh] at this
    rw [this]
    congr 1
    show ({ cls := E.2.1 0, slots := Array.replicate M (Value.int 0), vm := .none } : Cell) = _
    rw [arrV_new]
  rw [vr_outer] at f2
  have hfr : ∀ a, H.size ≤ a → S a = none := fun a ha => by
    cases h9 : S a with
    | none => rfl
    | some p => exact absurd ((h1 a p.1 p.2 h9).2.lt) (by omega)
  have hb0 : E.2.2.1 ≤ H.size := Nat.le_trans hK.2.2.2.2.2.2.1 h5.1
  obtain ⟨S1, hS1⟩ : ∃ S1 : xT, S1 = fun a => if a = H.size then some (tg, N) else if H.size < a ∧ a ≤ H.size + N then some (tr, M) else S a := ⟨_, rfl⟩
  obtain ⟨g1, hg1⟩ : ∃ g1 : xG, g1 = fun a => if a = H.size then (fun j => va_rf (if j < N then some (H.size + 1 + j) else none)) else if H.size < a ∧ a ≤ H.size + N then (fun _ => .int 0) else g a := ⟨_, rfl⟩
  have s0 : S1 H.size = some (tg, N) := by rw [hS1]; exact if_pos rfl
  have s1 : ∀ a, H.size < a → a ≤ H.size + N → S1 a = some (tr, M) := fun a q1 q2 => by rw [hS1]; show (if a = H.size then _ else _) = _; rw [if_neg (by omega), if_pos ⟨q1, q2⟩]
  have s2 : ∀ a, ¬ (H.size ≤ a ∧ a ≤ H.size + N) → S1 a = S a := fun a q => by rw [hS1]; show (if a = H.size then _ else _) = _; rw [if_neg (by omega), if_neg (by omega)]
  have t0 : g1 H.size = fun j => va_rf (if j < N then some (H.size + 1 + j) else none) := by rw [hg1]; exact if_pos rfl
  have t1 : ∀ a, H.size < a → a ≤ H.size + N → g1 a = fun _ => .int 0 := fun a q1 q2 => by rw [hg1]; show (if a = H.size then _ else _) = _; rw [if_neg (by omega), if_pos ⟨q1, q2⟩]
  have t2 : ∀ a, ¬ (H.size ≤ a ∧ a ≤ H.size + N) → g1 a = g a := fun a q => by rw [hg1]; show (if a = H.size then _ else _) = _; rw [if_neg (by omega), if_neg (by omega)]
  have hle : xLe S S1 := fun a p hp => by
    have : ¬ H.size ≤ a := fun q => by rw [hfr a q] at hp; cases hp
    rw [s2 a (by omega)]; exact hp
  have hnw : xNw2 S S1 [tg, tr] := fun a t n hp => by
    by_cases q : H.size ≤ a ∧ a ≤ H.size + N
    · by_cases e : a = H.size
      · rw [e, s0] at hp; cases hp; exact Or.inr (by simp)
      · rw [s1 a (by omega) q.2] at hp; cases hp; exact Or.inr (by simp)
    · rw [s2 a q] at hp; exact Or.inl hp
  have hmm : xM [] S g g1 := fun a t n k hp _ => by
    have : ¬ H.size ≤ a := fun q => by rw [hfr a q] at hp; cases hp
    rw [t2 a (by omega)]
  have hR1 : xR E.1 E.2.1 E.2.2.1 S1 g1 F.heap := fun a t n hp => by
    by_cases q : H.size ≤ a ∧ a ≤ H.size + N
    · by_cases e : a = H.size
      · subst e
        rw [s0] at hp; cases hp
        refine ⟨Or.inl hb0, Or.inr ⟨h4.1, Or.inl ⟨h4.2.1, ?_⟩⟩⟩
        rw [t0, h4.2.2]; exact f2
      · rw [s1 a (by omega) q.2] at hp; cases hp
        refine ⟨Or.inl (by omega), Or.inr ⟨h0.1, Or.inl ⟨h0.2.1, ?_⟩⟩⟩
        rw [t1 a (by omega) q.2, h0.2.2]
        have := hrow (a - H.size - 1) (by omega)
        rw [show H.size + 1 + (a - H.size - 1) = a by omega] at this
        exact this
    · rw [s2 a q] at hp
      have hlt := (h1 a t n hp).2.lt
      rw [t2 a q]
      exact ⟨(h1 a t n hp).1, (h1 a t n hp).2.kept (hold a hlt)⟩
  have hW1 : xW S1 g1 := fun a t n hp k hk => by
    by_cases q : H.size ≤ a ∧ a ≤ H.size + N
    · by_cases e : a = H.size
      · subst e
        rw [s0] at hp; cases hp
        rw [t0, hsg]
        have hk' : k < N := by omega
        show xok S1 (1, (tr : Int), (M : Int)) (va_rf (if k < N then some (H.size + 1 + k) else none))
        rw [if_pos hk']
        exact ⟨H.size + 1 + k, rfl, by show S1 _ = some ((tr : Int).toNat, (M : Int).toNat); rw [s1 _ (by omega) (by omega)]; rfl⟩
      · rw [s1 a (by omega) q.2] at hp; cases hp
        rw [t1 a (by omega) q.2, hsr]
        exact ⟨0, rfl, hlo.1, hlo.2⟩
    · rw [s2 a q] at hp
      rw [t2 a q]
      exact (h2 a t n hp k hk).mono hle
  have hx4 : xM E.2.2.2.2.2.1 E.2.2.2.1 E.2.2.2.2.1 g1 := fun a t n k hp hq => by
    rw [hmm a t n k (h3 _ _ hp) (List.not_mem_nil)]
    exact hm4 a t n k hp hq
  have hx5 : va_S (fun q => E.2.2.1 ≤ q) K.2.2.2.2.1.heap F.heap locs := ⟨Nat.le_trans h5.1 (by omega), fun x w1 w2 => (hold x (Nat.lt_of_lt_of_le w1 h5.1)).trans (h5.2.1 x w1 w2), h5.2.2⟩
  have hq0 : S H.size = none := hfr _ (Nat.le_refl _)
  have hgr : xGr S1 g1 H.size tr N M := fun j hj => by
    refine ⟨H.size + 1 + j, ?_, s1 _ (by omega) (by omega), fun k => by rw [t1 _ (by omega) (by omega)], fun j' hj' e => ?_⟩
    · rw [t0]
      show va_rf (if j < N then some (H.size + 1 + j) else none) = _
      rw [if_pos hj]; rfl
    · have e' : va_rf (if j' < N then some (H.size + 1 + j') else none) = Value.ref (H.size + 1 + j) := by rw [← e, t0]
      rw [if_pos hj'] at e'
      have e2 : Value.ref (H.size + 1 + j') = Value.ref (H.size + 1 + j) := e'
      injection e2 with e3
      have e4 : (H.size + 1 + j' : Nat) = H.size + 1 + j := e3
      omega
  obtain ⟨t, a1, b1⟩ := kk H.size S1 g1 hq0 hle hnw hmm s0 hgr F.heap locs ls hR1 hW1 (h3.tr hle) hx4 hx5 h6 F rfl (by
    rw [show cells + (1 + N) = cells + 1 + N by omega, show slots + (N + N * M) = slots + N + N * M by omega]; exact X')
  refine ⟨t, step t ?_, b1⟩
  rw [hT]
  exact a1
end XCT
theorem xL1.add {S S1 : xT} {g : xG} {q e tl td te cap : Nat} (habs : ∀ a n, S a ≠ some (tl, n)) (hS : S1 = xset S q (tl, 0)) (h1 : g q 1 = .ref e) (he : S e = some (20003, 0)) (hne : e ≠ q) (h2 : g q 2 = .int (iI 0)) : xL1 S1 g tl td te cap := by
  have key : ∀ a n, S1 a = some (tl, n) → a = q := fun a n h => by
    by_cases e : a = q
    · exact e
    · rw [hS, xset_o e] at h; exact absurd h (habs a n)
  refine ⟨fun a n a' n' w1 w2 => (key a n w1).trans (key a' n' w2).symm, fun a n h => ?_⟩
  rw [key a n h]
  exact ⟨e, 0, 0, h1, Or.inr ⟨by rw [hS, xset_o hne]; exact he, rfl⟩, by decide, h2, by omega, by omega, by omega, fun k hk => by omega⟩
def xAb (S : xT) : Prop := ∀ a t n, S a = some (t, n) → t ≠ 0 ∧ t ≠ 100 ∧ t ≠ 200 ∧ t ≠ 300
theorem xAb.ls {S : xT} {g : xG} (h : xAb S) : xLs S g :=
  ⟨⟨fun a n _ _ w _ => absurd rfl (h a _ n w).1, fun a n w => absurd rfl (h a _ n w).1⟩, ⟨fun a n _ _ w _ => absurd rfl (h a _ n w).2.1, fun a n w => absurd rfl (h a _ n w).2.1⟩, ⟨fun a n _ _ w _ => absurd rfl (h a _ n w).2.2.1, fun a n w => absurd rfl (h a _ n w).2.2.1⟩, ⟨fun a n _ _ w _ => absurd rfl (h a _ n w).2.2.2, fun a n w => absurd rfl (h a _ n w).2.2.2⟩⟩
theorem xab_n {S S1 : xT} {ts : List Nat} {tl : Nat} (h : ∀ a n, S a ≠ some (tl, n)) (hw : xNw2 S S1 ts) (ht : tl ∉ ts) : ∀ a n, S1 a ≠ some (tl, n) := fun a n e => (hw a tl n e).elim (h a n) ht
theorem xLs_add_0 {S S1 : xT} {g : xG} {q e : Nat} (h : xLs S g) (habs : ∀ a n, S a ≠ some (0, n)) (hq : S q = some (5000, 0)) (hS : S1 = xset S q (0, 0)) (h1 : g q 1 = .ref e) (he : S e = some (20003, 0)) (hne : e ≠ q) (h2 : g q 2 = .int (iI 0)) : xLs S1 g := ⟨(xL1.add habs hS h1 he hne h2), (h.2.1.seal hq hS (by decide) (by decide) (by decide) (by decide)), (h.2.2.1.seal hq hS (by decide) (by decide) (by decide) (by decide)), (h.2.2.2.seal hq hS (by decide) (by decide) (by decide) (by decide))⟩
theorem xLs_add_100 {S S1 : xT} {g : xG} {q e : Nat} (h : xLs S g) (habs : ∀ a n, S a ≠ some (100, n)) (hq : S q = some (5000, 0)) (hS : S1 = xset S q (100, 0)) (h1 : g q 1 = .ref e) (he : S e = some (20003, 0)) (hne : e ≠ q) (h2 : g q 2 = .int (iI 0)) : xLs S1 g := ⟨(h.1.seal hq hS (by decide) (by decide) (by decide) (by decide)), (xL1.add habs hS h1 he hne h2), (h.2.2.1.seal hq hS (by decide) (by decide) (by decide) (by decide)), (h.2.2.2.seal hq hS (by decide) (by decide) (by decide) (by decide))⟩
theorem xLs_add_200 {S S1 : xT} {g : xG} {q e : Nat} (h : xLs S g) (habs : ∀ a n, S a ≠ some (200, n)) (hq : S q = some (5000, 0)) (hS : S1 = xset S q (200, 0)) (h1 : g q 1 = .ref e) (he : S e = some (20003, 0)) (hne : e ≠ q) (h2 : g q 2 = .int (iI 0)) : xLs S1 g := ⟨(h.1.seal hq hS (by decide) (by decide) (by decide) (by decide)), (h.2.1.seal hq hS (by decide) (by decide) (by decide) (by decide)), (xL1.add habs hS h1 he hne h2), (h.2.2.2.seal hq hS (by decide) (by decide) (by decide) (by decide))⟩
theorem xLs_add_300 {S S1 : xT} {g : xG} {q e : Nat} (h : xLs S g) (habs : ∀ a n, S a ≠ some (300, n)) (hq : S q = some (5000, 0)) (hS : S1 = xset S q (300, 0)) (h1 : g q 1 = .ref e) (he : S e = some (20003, 0)) (hne : e ≠ q) (h2 : g q 2 = .int (iI 0)) : xLs S1 g := ⟨(h.1.seal hq hS (by decide) (by decide) (by decide) (by decide)), (h.2.1.seal hq hS (by decide) (by decide) (by decide) (by decide)), (h.2.2.1.seal hq hS (by decide) (by decide) (by decide) (by decide)), (xL1.add habs hS h1 he hne h2)⟩
theorem xnone {S S' : xT} {c : Nat} (h : xLe S S') (hc : S' c = none) : S c = none := by
  cases h9 : S c with
  | none => rfl
  | some p => rw [h c p h9] at hc; cases hc
def xPj (S : xT) (g : xG) (a : Nat) : Prop := ∃ (p q c d : Nat), g a 10 = .ref p ∧ g a 11 = .ref q ∧ p ≠ q ∧ S p = some (7, 0) ∧ S q = some (7, 0) ∧ g p 3 = .ref c ∧ g q 3 = .ref d ∧ c ≠ d ∧ S c = some (12300, 8) ∧ S d = some (12300, 8) ∧ g p 0 = .int (iI 0)
theorem xPi_of {S S1 : xT} {g : xG} {a : Nat} (h : xPj S g a) (hq : S a = some (5000 + 12, 0)) (hS : S1 = xset S a (12, 0)) : xPi S1 g a := by
  obtain ⟨p, q, c, d, h2, h3, h4, h5, h6, h7, h8, h9, h10, h11, h12⟩ := h
  have ho : ∀ b, b ≠ a → S1 b = S b := fun b hb => by rw [hS]; exact xset_o hb
  exact ⟨p, q, c, d, 0, by rw [hS]; exact xset_s _ _ _, h2, h3, h4, xhs_seal ho hq h5 (by decide), xhs_seal ho hq h6 (by decide), h7, h8, h9, xhs_seal ho hq h10 (by decide), xhs_seal ho hq h11 (by decide), h12, by omega, by omega, fun k q1 q2 => by omega⟩
def xRaw (S : xT) (g : xG) (a ci : Nat) (ks : List Nat) : Prop := ∀ k, k ∈ ks → xok S (xsl ci k) (g a k)
theorem xRaw.add {S : xT} {g : xG} {a ci k : Nat} {ks : List Nat} (h : xRaw S g a ci ks) (hv : xok S (xsl ci k) (g a k)) : xRaw S g a ci (k :: ks) := fun j hj => by
  rcases List.mem_cons.mp hj with e | e
  · rw [e]; exact hv
  · exact h j e
theorem xRaw.put {S : xT} {g g1 : xG} {a ci k : Nat} {ks : List Nat} {v : Value} (h : xRaw S g a ci ks) (hg : g1 = xup g a k v) (hv : xok S (xsl ci k) v) : xRaw S g1 a ci (k :: ks) := fun j hj => by
  by_cases e : j = k
  · rw [e, xs_s hg]; exact hv
  · rw [xs_k hg e]; exact h j ((List.mem_cons.mp hj).resolve_left e)
theorem xRaw.u {S : xT} {g g1 : xG} {a ci b k : Nat} {ks : List Nat} {v : Value} (h : xRaw S g a ci ks) (hg : g1 = xup g b k v) (hb : a ≠ b) : xRaw S g1 a ci ks := fun j hj => by
  rw [xs_a hg hb]; exact h j hj
theorem xRaw.n {S S0 : xT} {g g1 : xG} {a ci q : Nat} {p : Nat × Nat} {ks : List Nat} {f : Nat → Value} (h : xRaw S g a ci ks) (hg : g1 = xrow g q f) (hs : S0 a = some p) (hq : S0 q = none) : xRaw S g1 a ci ks := fun j hj => by
  rw [xs_n hg hs hq]; exact h j hj
theorem xRaw.m {S S0 : xT} {g g1 : xG} {a ci t n : Nat} {ks : List Nat} {L : List (Nat × Nat)} (h : xRaw S g a ci ks) (hm : xM L S0 g g1) (hs : S0 a = some (t, n)) (hL : ∀ x ∈ L, x.1 ≠ t) : xRaw S g1 a ci ks := fun j hj => by
  rw [hm a t n j hs (fun q => hL _ q (xky_1 t j))]; exact h j hj
theorem xRaw.all {S : xT} {g : xG} {a ci N : Nat} {ks : List Nat} (h : xRaw S g a ci ks) (hk : ∀ k, k < N → k ∈ ks) (h9 : ∀ k, xsl ci (k + N) = (9, 0, 0)) : ∀ k : Nat, xok S (xsl ci k) (g a k) := fun k => by
  by_cases e : k < N
  · exact h k (hk k e)
  · have := h9 (k - N)
    rw [show k - N + N = k by omega] at this
    exact xk9 this
def xCy (S : xT) (g : xG) (ct : Nat) : Prop := ∃ c wt ld wg : Nat, g ct 0 = .ref c ∧ S c = some (10700, 400) ∧ (∀ i : Int, xv g c i = 0) ∧ g ct 2 = .ref wt ∧ S wt = some (11000, 4) ∧ (∀ i : Int, 0 ≤ i → i < 4 → xv g wt i = 100) ∧ g ct 3 = .ref ld ∧ S ld = some (11100, 6) ∧ (∀ i : Int, 0 ≤ i → i < 6 → xv g ld i = 100) ∧ g ct 4 = .ref wg ∧ S wg = some (11304, 10) ∧ xGr S g wg 11200 10 4
def xMy (S : xT) (g : xG) (m : Nat) : Prop := ∃ wt ld mw : Nat, g m 13 = .ref wt ∧ S wt = some (15000, 4) ∧ (∀ i : Int, 0 ≤ i → i < 4 → xv g wt i = 100) ∧ g m 14 = .ref ld ∧ S ld = some (15100, 6) ∧ (∀ i : Int, 0 ≤ i → i < 6 → xv g ld i = 100) ∧ g m 12 = .ref mw ∧ S mw = some (14900, 40) ∧ ∀ i : Int, xv g mw i = 0
def xSk (S : xT) (g : xG) (a : Nat) : Prop := ∃ l m b : Nat, g a 3 = .ref l ∧ S l = some (5, 0) ∧ g l 3 = .int (iI 0) ∧ g a 1 = .ref m ∧ S m = some (6, 0) ∧ g m 1 = .ref b ∧ S b = some (0, 0) ∧ g b 2 = .int (iI 0) ∧ g a 12 = .int (iI 0)
def xTp (S : xT) (g : xG) (a : Nat) : Prop := ∃ w : Nat, g a 0 = .ref w ∧ S w = some (10, 0) ∧ g w 1 = .int (iI 0)
def xMj (S : xT) (g : xG) (a : Nat) : Prop := g a 2 = .int (iI 0) ∧ (∃ h : Nat, g a 74 = .ref h ∧ S h = some (18300, 8)) ∧ g a 78 = .int (iI 0) ∧ g a 79 = .int (iI 0) ∧ (∃ lo cf ct p : Nat, g a 29 = .ref lo ∧ S lo = some (15300, 11) ∧ g a 33 = .ref cf ∧ S cf = some (15700, 176) ∧ g a 34 = .ref ct ∧ S ct = some (15800, 176) ∧ g a 35 = .ref p ∧ S p = some (15900, 1320)) ∧ g a 39 = .int (iI 0)
theorem xMj.mp {S S1 : xT} {g : xG} {a : Nat} (h : xMj S g a) (hq : S a = some (5000 + 13, 0)) (hS : S1 = xset S a (13, 0)) : xMp S1 g a ∧ xTw S1 g a := by
  obtain ⟨h1, ⟨w, h2, h3⟩, h4, h5, ⟨lo, cf, ct, p, k1, k2, k3, k4, k5, k6, k7, k8⟩, h6⟩ := h
  have ho : ∀ b, b ≠ a → S1 b = S b := fun b hb => by rw [hS]; exact xset_o hb
  have hs : S1 a = some (13, 0) := by rw [hS]; exact xset_s _ _ _
  exact ⟨⟨w, 0, 0, hs, h2, xhs_seal ho hq h3 (by decide), h4, by omega, by omega, h5, by omega, by omega, fun e => by omega⟩, ⟨lo, cf, ct, p, 0, hs, k1, xhs_seal ho hq k2 (by decide), k3, xhs_seal ho hq k4 (by decide), k5, xhs_seal ho hq k6 (by decide), k7, xhs_seal ho hq k8 (by decide), h6, by omega, by omega, fun t q1 q2 => by omega⟩⟩
set_option maxHeartbeats 4000000 in
set_option maxRecDepth 100000 in
theorem c_Jxa1e45_init_da8c8 (l : Launch) (D : va_G) (kA : Nat → ClassId) (b0 : Nat) (t0 : Nat → Nat) (S : xT) (g : xG) (a0 : Nat) (hs_a0 : S a0 = some (5000, 0)) : xMu l yJxa1e45_init_da8c8 cJxa1e45_init_da8c8 1 none 1 0 0 12 D kA b0 t0 [] [.ref a0] S g (fun (r : Option Value) (S1 : xT) (g1 : xG) (dc ds : Nat) => xNw2 S S1 [] ∧ r = none ∧ (dc = 0 ∧ ds = 0)) := by
  refine xEnterUV (by decide) (by simp [lg_sl, Value.category]) [(0, .ref a0)] rfl ?_
  intro K E hK hret hS0 _ hini ht
  subst ht
  refine X_aloadn hK (i := 0) 0 dJxa1e45_init_da8c8_0 rfl rfl ?_
  refine X_oinit hK ⟨m_5_10, m_1_11, m_1_12⟩ ⟨by decide, by simp [Value.category]⟩ dJxa1e45_init_da8c8_1 ?_
  exact hret _ _ _ _ _ _ dJxa1e45_init_da8c8_4 ⟨xNw2.rf, rfl, (by omega)⟩ (by omega) (by omega)

set_option maxHeartbeats 4000000 in
set_option maxRecDepth 100000 in
theorem c_Jxc12de_init_da8c8 (l : Launch) (D : va_G) (kA : Nat → ClassId) (b0 : Nat) (t0 : Nat → Nat) (S : xT) (g : xG) (a0 : Nat) (hs_a0 : S a0 = some (5000, 0)) : xMu l yJxc12de_init_da8c8 cJxc12de_init_da8c8 1 none 2 0 0 32 D kA b0 t0 [(5000, 0)] [.ref a0] S g (fun (r : Option Value) (S1 : xT) (g1 : xG) (dc ds : Nat) => xNw2 S S1 [] ∧ r = none ∧ (dc = 0 ∧ ds = 0) ∧ (g1 a0 0 = .int (iI 0))) := by
  refine xEnterUV (by decide) (by simp [lg_sl, Value.category]) [(0, .ref a0)] rfl ?_
  intro K E hK hret hS0 _ hini ht
  subst ht
  refine X_aloadn hK (i := 0) 0 dJxc12de_init_da8c8_0 rfl rfl ?_
  refine X_callIU hK [] [] li_Jxc12de_1 (c_Jxa1e45_init_da8c8 _ _ _ _ _ S g a0 hs_a0) dJxc12de_init_da8c8_1 rfl rfl (by simp [Value.category]) (by decide) (by omega) (by omega) (by decide) (fun r1 S3 g2 dcr1 dsr1 pr1 qr1 hg2 => ?_)
  obtain ⟨wr1, rfl, k4⟩ := pr1
  refine X_st [] rfl ?_
  refine X_aloadn hK (i := 0) 0 dJxc12de_init_da8c8_4 rfl rfl ?_
  refine X_iconst hK dJxc12de_init_da8c8_5 ?_
  refine X_putv hK fl_Jxc12de_7_5000 (qr1 _ _ hs_a0) (by decide) (xokr 0 0 (by decide)) rfl rfl dJxc12de_init_da8c8_6 (fun g5 hg5 => ?_)
  exact hret _ _ _ _ _ _ dJxc12de_init_da8c8_9 ⟨(xNw2.tr xNw2.rf wr1 (by decide)), rfl, (by omega), ((xs_s hg5).trans (by congr 2 <;> omega))⟩ (by omega) (by omega)

set_option maxHeartbeats 4000000 in
set_option maxRecDepth 100000 in
theorem c_Jx4a65c_init_da8c8 (l : Launch) (D : va_G) (kA : Nat → ClassId) (b0 : Nat) (t0 : Nat → Nat) (S : xT) (g : xG) (a0 : Nat) (hs_a0 : S a0 = some (5000, 0)) (hp0 : g a0 2 = .int (iI 0)) : xMu l yJx4a65c_init_da8c8 cJx4a65c_init_da8c8 1 none 3 0 0 52 D kA b0 t0 [(5000, 0), (5000, 1)] [.ref a0] S g (fun (r : Option Value) (S1 : xT) (g1 : xG) (dc ds : Nat) => xNw2 S S1 [] ∧ r = none ∧ (dc = 0 ∧ ds = 0) ∧ (g1 a0 0 = .int (iI 0)) ∧ (g1 a0 1 = .ref (t0 0)) ∧ (g1 a0 2 = .int (iI 0))) := by
  refine xEnterUV (by decide) (by simp [lg_sl, Value.category]) [(0, .ref a0)] rfl ?_
  intro K E hK hret hS0 _ hini ht
  subst ht
  refine X_aloadn hK (i := 0) 0 dJx4a65c_init_da8c8_0 rfl rfl ?_
  refine X_callIU hK [] [] li_Jx4a65c_1 (c_Jxc12de_init_da8c8 _ _ _ _ _ S g a0 hs_a0) dJx4a65c_init_da8c8_1 rfl rfl (by simp [Value.category]) (by decide) (by omega) (by omega) (by decide) (fun r1 S3 g2 dcr1 dsr1 pr1 qr1 hg2 => ?_)
  obtain ⟨wr1, rfl, k4, k5⟩ := pr1
  refine X_st [] rfl ?_
  refine X_aloadn hK (i := 0) 0 dJx4a65c_init_da8c8_4 rfl rfl ?_
  refine X_getE hK m_4_23 dJx4a65c_init_da8c8_5 ?_
  refine X_putv hK fl_Jx4a65c_9_5000 (qr1 _ _ hs_a0) (by decide) (xokr 0 1 (by decide)) rfl rfl dJx4a65c_init_da8c8_8 (fun g6 hg6 => ?_)
  exact hret _ _ _ _ _ _ dJx4a65c_init_da8c8_11 ⟨(xNw2.tr xNw2.rf wr1 (by decide)), rfl, (by omega), (((xs_k hg6 (by decide)).trans k5).trans (by congr 2 <;> omega)), (xs_s hg6), (((xs_k hg6 (by decide)).trans ((hg2 a0 5000 0 2 hs_a0 (by decide)).trans hp0)).trans (by congr 2 <;> omega))⟩ (by omega) (by omega)

set_option maxHeartbeats 4000000 in
set_option maxRecDepth 100000 in
theorem c_X9_init (l : Launch) (D : va_G) (kA : Nat → ClassId) (b0 : Nat) (t0 : Nat → Nat) (S : xT) (g : xG) (a0 : Nat) (hs_a0 : S a0 = some (5010, 0)) : xMu l yX9_init cX9_init 1 none 1 1 420 12 D kA b0 t0 [(5010, 0), (5010, 1)] [.ref a0] S g (fun (r : Option Value) (S1 : xT) (g1 : xG) (dc ds : Nat) => xNw2 S S1 [13500] ∧ r = none ∧ (g1 a0 1 = .int (iI 0)) ∧ (dc ≤ 1 ∧ ds ≤ 420) ∧ (∀ k9 : Nat, xok S1 (xsl 10 k9) (g1 a0 k9))) := by
  refine xEnterUV (by decide) (by simp [lg_sl, Value.category]) [(0, .ref a0)] rfl ?_
  intro K E hK hret hS0 _ hini ht
  subst ht
  refine X_aloadn hK (i := 0) 0 dX9_init_0 rfl rfl ?_
  refine X_oinit hK ⟨m_3_13, m_1_11, m_1_12⟩ ⟨by decide, by simp [Value.category]⟩ dX9_init_1 ?_
  refine X_aloadn hK (i := 0) 0 dX9_init_4 rfl rfl ?_
  refine X_sipush hK dX9_init_5 (by decide) ?_
  refine X_newa hK (ty := .int) 13500 0 (.int 0) rfl (fun _ => rfl) rfl (by decide) m_3_14 (by omega) ⟨by show _ * 4 ≤ _; omega, by omega⟩ (by omega) (by omega) (fun _ _ h9 => h9) (fun S9 k9 => by rw [sl_13500]; exact ⟨0, rfl, by decide, by decide⟩) dX9_init_8 (fun b1 S2 g3 zb1 nb1 hSb1 hg3 qb1 hs_b1 => ?_)
  refine X_putF hK fl_X9_9_5010 (fun T9 N9 C9 h9 => by cases (Option.some.inj (h9.symm.trans (rfl : vwCl[10]? = some (RX9, TX9, 2)))); rfl) (hini rfl) (qb1 _ _ hs_a0) (Or.inr (by decide)) (xokr 10 0 (by decide)) rfl rfl dX9_init_10 (fun g4 hg4 => ?_)
  refine X_aloadn hK (i := 0) 0 dX9_init_13 rfl rfl ?_
  refine X_iconst hK dX9_init_14 ?_
  refine X_putv hK fl_X9_15_5010 (qb1 _ _ hs_a0) (by decide) (xokr 10 1 (by decide)) rfl rfl dX9_init_15 (fun g5 hg5 => ?_)
  exact hret _ _ _ _ _ _ dX9_init_18 ⟨(xNw2.tr xNw2.rf (hSb1 ▸ xNw2.set (by decide)) (fun _ h => h)), rfl, ((xs_s hg5).trans (by congr 2 <;> omega)), (by omega), (fun k9 => match k9 with | 0 => xk1 13500 420 sl_10_0 ((xs_k hg5 (by decide)).trans (xs_s hg4)) hs_b1 | 1 => xk0 sl_10_1 (xs_s hg5) (by omega) (by omega) | n9 + 2 => xk9 (by rfl))⟩ (by omega) (by omega)

set_option maxHeartbeats 4000000 in
set_option maxRecDepth 100000 in
theorem c_X4_init (l : Launch) (D : va_G) (kA : Nat → ClassId) (b0 : Nat) (t0 : Nat → Nat) (S : xT) (g : xG) (a0 : Nat) (hs_a0 : S a0 = some (5005, 0)) : xMu l yX4_init cX4_init 1 none 1 3 180 12 D kA b0 t0 [(5005, 0), (5005, 1), (5005, 2), (5005, 3)] [.ref a0] S g (fun (r : Option Value) (S1 : xT) (g1 : xG) (dc ds : Nat) => xNw2 S S1 [11700, 11800, 11900] ∧ r = none ∧ (g1 a0 3 = .int (iI 0)) ∧ (dc ≤ 3 ∧ ds ≤ 180) ∧ (∀ k9 : Nat, xok S1 (xsl 5 k9) (g1 a0 k9))) := by
  refine xEnterUV (by decide) (by simp [lg_sl, Value.category]) [(0, .ref a0)] rfl ?_
  intro K E hK hret hS0 _ hini ht
  subst ht
  refine X_aloadn hK (i := 0) 0 dX4_init_0 rfl rfl ?_
  refine X_oinit hK ⟨m_5_13, m_1_11, m_1_12⟩ ⟨by decide, by simp [Value.category]⟩ dX4_init_1 ?_
  refine X_aloadn hK (i := 0) 0 dX4_init_4 rfl rfl ?_
  refine X_bipush hK dX4_init_5 (by decide) ?_
  refine X_newa hK (ty := .int) 11700 0 (.int 0) rfl (fun _ => rfl) rfl (by decide) m_3_14 (by omega) ⟨by show _ * 4 ≤ _; omega, by omega⟩ (by omega) (by omega) (fun _ _ h9 => h9) (fun S9 k9 => by rw [sl_11700]; exact ⟨0, rfl, by decide, by decide⟩) dX4_init_7 (fun b1 S2 g3 zb1 nb1 hSb1 hg3 qb1 hs_b1 => ?_)
  refine X_putF hK fl_X4_9_5005 (fun T9 N9 C9 h9 => by cases (Option.some.inj (h9.symm.trans (rfl : vwCl[5]? = some (RX4, TX4, 4)))); rfl) (hini rfl) (qb1 _ _ hs_a0) (Or.inr (by decide)) (xokr 5 0 (by decide)) rfl rfl dX4_init_9 (fun g4 hg4 => ?_)
  refine X_aloadn hK (i := 0) 0 dX4_init_12 rfl rfl ?_
  refine X_bipush hK dX4_init_13 (by decide) ?_
  refine X_newa hK (ty := .int) 11800 0 (.int 0) rfl (fun _ => rfl) rfl (by decide) m_3_14 (by omega) ⟨by show _ * 4 ≤ _; omega, by omega⟩ (by omega) (by omega) (fun _ _ h9 => h9) (fun S9 k9 => by rw [sl_11800]; exact ⟨0, rfl, by decide, by decide⟩) dX4_init_15 (fun b5 S6 g7 zb5 nb5 hSb5 hg7 qb5 hs_b5 => ?_)
  refine X_putF hK fl_X4_15_5005 (fun T9 N9 C9 h9 => by cases (Option.some.inj (h9.symm.trans (rfl : vwCl[5]? = some (RX4, TX4, 4)))); rfl) (hini rfl) (qb5 _ _ (qb1 _ _ hs_a0)) (Or.inr (by decide)) (xokr 5 1 (by decide)) rfl rfl dX4_init_17 (fun g8 hg8 => ?_)
  refine X_aloadn hK (i := 0) 0 dX4_init_20 rfl rfl ?_
  refine X_bipush hK dX4_init_21 (by decide) ?_
  refine X_newa hK (ty := .int) 11900 0 (.int 0) rfl (fun _ => rfl) rfl (by decide) m_3_14 (by omega) ⟨by show _ * 4 ≤ _; omega, by omega⟩ (by omega) (by omega) (fun _ _ h9 => h9) (fun S9 k9 => by rw [sl_11900]; exact ⟨0, rfl, by decide, by decide⟩) dX4_init_23 (fun b9 S10 g11 zb9 nb9 hSb9 hg11 qb9 hs_b9 => ?_)
  refine X_putF hK fl_X4_18_5005 (fun T9 N9 C9 h9 => by cases (Option.some.inj (h9.symm.trans (rfl : vwCl[5]? = some (RX4, TX4, 4)))); rfl) (hini rfl) (qb9 _ _ (qb5 _ _ (qb1 _ _ hs_a0))) (Or.inr (by decide)) (xokr 5 2 (by decide)) rfl rfl dX4_init_25 (fun g12 hg12 => ?_)
  refine X_aloadn hK (i := 0) 0 dX4_init_28 rfl rfl ?_
  refine X_iconst hK dX4_init_29 ?_
  refine X_putv hK fl_X4_21_5005 (qb9 _ _ (qb5 _ _ (qb1 _ _ hs_a0))) (by decide) (xokr 5 3 (by decide)) rfl rfl dX4_init_30 (fun g13 hg13 => ?_)
  exact hret _ _ _ _ _ _ dX4_init_33 ⟨(xNw2.tr (xNw2.tr (xNw2.tr xNw2.rf (hSb1 ▸ xNw2.set (by decide)) (fun _ h => h)) (hSb5 ▸ xNw2.set (by decide)) (fun _ h => h)) (hSb9 ▸ xNw2.set (by decide)) (fun _ h => h)), rfl, ((xs_s hg13).trans (by congr 2 <;> omega)), (by omega), (fun k9 => match k9 with | 0 => xk1 11700 60 sl_5_0 ((xs_k hg13 (by decide)).trans ((xs_k hg12 (by decide)).trans ((xs_n hg11 (qb5 _ _ (qb1 _ _ hs_a0)) nb9).trans ((xs_k hg8 (by decide)).trans ((xs_n hg7 (qb1 _ _ hs_a0) nb5).trans (xs_s hg4)))))) (qb9 _ _ (qb5 _ _ hs_b1)) | 1 => xk1 11800 60 sl_5_1 ((xs_k hg13 (by decide)).trans ((xs_k hg12 (by decide)).trans ((xs_n hg11 (qb5 _ _ (qb1 _ _ hs_a0)) nb9).trans (xs_s hg8)))) (qb9 _ _ hs_b5) | 2 => xk1 11900 60 sl_5_2 ((xs_k hg13 (by decide)).trans (xs_s hg12)) hs_b9 | 3 => xk0 sl_5_3 (xs_s hg13) (by omega) (by omega) | n9 + 4 => xk9 (by rfl))⟩ (by omega) (by omega)

set_option maxHeartbeats 4000000 in
set_option maxRecDepth 100000 in
theorem c_X7_init (l : Launch) (D : va_G) (kA : Nat → ClassId) (b0 : Nat) (t0 : Nat → Nat) (S : xT) (g : xG) (a0 : Nat) (hs_a0 : S a0 = some (5008, 0)) : xMu l yX7_init cX7_init 1 none 1 2 602 12 D kA b0 t0 [(5008, 0), (5008, 1), (5008, 2), (5008, 3), (5008, 4), (5008, 5), (5008, 6)] [.ref a0] S g (fun (r : Option Value) (S1 : xT) (g1 : xG) (dc ds : Nat) => xNw2 S S1 [12900, 13000] ∧ r = none ∧ (∀ k9 : Nat, xok S1 (xsl 8 k9) (g1 a0 k9)) ∧ (dc ≤ 2 ∧ ds ≤ 602)) := by
  refine xEnterUV (by decide) (by simp [lg_sl, Value.category]) [(0, .ref a0)] rfl ?_
  intro K E hK hret hS0 _ hini ht
  subst ht
  refine X_aloadn hK (i := 0) 0 dX7_init_0 rfl rfl ?_
  refine X_oinit hK ⟨m_6_8, m_1_11, m_1_12⟩ ⟨by decide, by simp [Value.category]⟩ dX7_init_1 ?_
  refine X_aloadn hK (i := 0) 0 dX7_init_4 rfl rfl ?_
  refine X_sipush hK dX7_init_5 (by decide) ?_
  refine X_newa hK (ty := .int) 12900 0 (.int 0) rfl (fun _ => rfl) rfl (by decide) m_3_14 (by omega) ⟨by show _ * 4 ≤ _; omega, by omega⟩ (by omega) (by omega) (fun _ _ h9 => h9) (fun S9 k9 => by rw [sl_12900]; exact ⟨0, rfl, by decide, by decide⟩) dX7_init_8 (fun b1 S2 g3 zb1 nb1 hSb1 hg3 qb1 hs_b1 => ?_)
  refine X_putF hK fl_X7_9_5008 (fun T9 N9 C9 h9 => by cases (Option.some.inj (h9.symm.trans (rfl : vwCl[8]? = some (RX7, TX7, 7)))); rfl) (hini rfl) (qb1 _ _ hs_a0) (Or.inr (by decide)) (xokr 8 0 (by decide)) rfl rfl dX7_init_10 (fun g4 hg4 => ?_)
  refine X_aloadn hK (i := 0) 0 dX7_init_13 rfl rfl ?_
  refine X_sipush hK dX7_init_14 (by decide) ?_
  refine X_newa hK (ty := .int) 13000 0 (.int 0) rfl (fun _ => rfl) rfl (by decide) m_3_14 (by omega) ⟨by show _ * 4 ≤ _; omega, by omega⟩ (by omega) (by omega) (fun _ _ h9 => h9) (fun S9 k9 => by rw [sl_13000]; exact ⟨0, rfl, by decide, by decide⟩) dX7_init_17 (fun b5 S6 g7 zb5 nb5 hSb5 hg7 qb5 hs_b5 => ?_)
  refine X_putF hK fl_X7_15_5008 (fun T9 N9 C9 h9 => by cases (Option.some.inj (h9.symm.trans (rfl : vwCl[8]? = some (RX7, TX7, 7)))); rfl) (hini rfl) (qb5 _ _ (qb1 _ _ hs_a0)) (Or.inr (by decide)) (xokr 8 1 (by decide)) rfl rfl dX7_init_19 (fun g8 hg8 => ?_)
  refine X_aloadn hK (i := 0) 0 dX7_init_22 rfl rfl ?_
  refine X_iconst hK dX7_init_23 ?_
  refine X_putv hK fl_X7_18_5008 (qb5 _ _ (qb1 _ _ hs_a0)) (by decide) (xokr 8 2 (by decide)) rfl rfl dX7_init_24 (fun g9 hg9 => ?_)
  refine X_aloadn hK (i := 0) 0 dX7_init_27 rfl rfl ?_
  refine X_iconst hK dX7_init_28 ?_
  refine X_putv hK fl_X7_22_5008 (qb5 _ _ (qb1 _ _ hs_a0)) (by decide) (xokr 8 3 (by decide)) rfl rfl dX7_init_29 (fun g10 hg10 => ?_)
  refine X_aloadn hK (i := 0) 0 dX7_init_32 rfl rfl ?_
  refine X_iconst hK dX7_init_33 ?_
  refine X_putv hK fl_X7_25_5008 (qb5 _ _ (qb1 _ _ hs_a0)) (by decide) (xokr 8 4 (by decide)) (b01 (by omega) (by omega)).1 (b01 (by omega) (by omega)).2 dX7_init_34 (fun g11 hg11 => ?_)
  refine X_aloadn hK (i := 0) 0 dX7_init_37 rfl rfl ?_
  refine X_iconst hK dX7_init_38 ?_
  refine X_putv hK fl_X7_29_5008 (qb5 _ _ (qb1 _ _ hs_a0)) (by decide) (xokr 8 5 (by decide)) rfl rfl dX7_init_39 (fun g12 hg12 => ?_)
  refine X_aloadn hK (i := 0) 0 dX7_init_42 rfl rfl ?_
  refine X_iconst hK dX7_init_43 ?_
  refine X_putv hK fl_X7_32_5008 (qb5 _ _ (qb1 _ _ hs_a0)) (by decide) (xokr 8 6 (by decide)) rfl rfl dX7_init_44 (fun g13 hg13 => ?_)
  exact hret _ _ _ _ _ _ dX7_init_47 ⟨(xNw2.tr (xNw2.tr xNw2.rf (hSb1 ▸ xNw2.set (by decide)) (fun _ h => h)) (hSb5 ▸ xNw2.set (by decide)) (fun _ h => h)), rfl, (fun k9 => match k9 with | 0 => xk1 12900 301 sl_8_0 ((xs_k hg13 (by decide)).trans ((xs_k hg12 (by decide)).trans ((xs_k hg11 (by decide)).trans ((xs_k hg10 (by decide)).trans ((xs_k hg9 (by decide)).trans ((xs_k hg8 (by decide)).trans ((xs_n hg7 (qb1 _ _ hs_a0) nb5).trans (xs_s hg4)))))))) (qb5 _ _ hs_b1) | 1 => xk1 13000 301 sl_8_1 ((xs_k hg13 (by decide)).trans ((xs_k hg12 (by decide)).trans ((xs_k hg11 (by decide)).trans ((xs_k hg10 (by decide)).trans ((xs_k hg9 (by decide)).trans (xs_s hg8)))))) hs_b5 | 2 => xk0 sl_8_2 ((xs_k hg13 (by decide)).trans ((xs_k hg12 (by decide)).trans ((xs_k hg11 (by decide)).trans ((xs_k hg10 (by decide)).trans (xs_s hg9))))) (by omega) (by omega) | 3 => xk0 sl_8_3 ((xs_k hg13 (by decide)).trans ((xs_k hg12 (by decide)).trans ((xs_k hg11 (by decide)).trans (xs_s hg10)))) (by omega) (by omega) | 4 => xk0 sl_8_4 ((xs_k hg13 (by decide)).trans ((xs_k hg12 (by decide)).trans (xs_s hg11))) (by omega) (by omega) | 5 => xk0 sl_8_5 ((xs_k hg13 (by decide)).trans (xs_s hg12)) (by omega) (by omega) | 6 => xk0 sl_8_6 (xs_s hg13) (by omega) (by omega) | n9 + 7 => xk9 (by rfl)), (by omega)⟩ (by omega) (by omega)

set_option maxHeartbeats 4000000 in
set_option maxRecDepth 100000 in
theorem c_X2_init (l : Launch) (D : va_G) (kA : Nat → ClassId) (b0 : Nat) (t0 : Nat → Nat) (S : xT) (g : xG) (a0 : Nat) (hs_a0 : S a0 = some (5003, 0)) : xMu l yX2_init cX2_init 1 none 1 2 48 12 D kA b0 t0 [(5003, 0), (5003, 1), (5003, 2), (5003, 3)] [.ref a0] S g (fun (r : Option Value) (S1 : xT) (g1 : xG) (dc ds : Nat) => xNw2 S S1 [10500, 10600] ∧ r = none ∧ (∀ k9 : Nat, xok S1 (xsl 3 k9) (g1 a0 k9)) ∧ (dc ≤ 2 ∧ ds ≤ 48)) := by
  refine xEnterUV (by decide) (by simp [lg_sl, Value.category]) [(0, .ref a0)] rfl ?_
  intro K E hK hret hS0 _ hini ht
  subst ht
  refine X_aloadn hK (i := 0) 0 dX2_init_0 rfl rfl ?_
  refine X_oinit hK ⟨m_6_18, m_1_11, m_1_12⟩ ⟨by decide, by simp [Value.category]⟩ dX2_init_1 ?_
  refine X_aloadn hK (i := 0) 0 dX2_init_4 rfl rfl ?_
  refine X_bipush hK dX2_init_5 (by decide) ?_
  refine X_newa hK (ty := .int) 10500 0 (.int 0) rfl (fun _ => rfl) rfl (by decide) m_3_14 (by omega) ⟨by show _ * 4 ≤ _; omega, by omega⟩ (by omega) (by omega) (fun _ _ h9 => h9) (fun S9 k9 => by rw [sl_10500]; exact ⟨0, rfl, by decide, by decide⟩) dX2_init_7 (fun b1 S2 g3 zb1 nb1 hSb1 hg3 qb1 hs_b1 => ?_)
  refine X_putF hK fl_X2_9_5003 (fun T9 N9 C9 h9 => by cases (Option.some.inj (h9.symm.trans (rfl : vwCl[3]? = some (RX2, TX2, 4)))); rfl) (hini rfl) (qb1 _ _ hs_a0) (Or.inr (by decide)) (xokr 3 0 (by decide)) rfl rfl dX2_init_9 (fun g4 hg4 => ?_)
  refine X_aloadn hK (i := 0) 0 dX2_init_12 rfl rfl ?_
  refine X_bipush hK dX2_init_13 (by decide) ?_
  refine X_newa hK (ty := .int) 10600 0 (.int 0) rfl (fun _ => rfl) rfl (by decide) m_3_14 (by omega) ⟨by show _ * 4 ≤ _; omega, by omega⟩ (by omega) (by omega) (fun _ _ h9 => h9) (fun S9 k9 => by rw [sl_10600]; exact ⟨0, rfl, by decide, by decide⟩) dX2_init_15 (fun b5 S6 g7 zb5 nb5 hSb5 hg7 qb5 hs_b5 => ?_)
  refine X_putF hK fl_X2_15_5003 (fun T9 N9 C9 h9 => by cases (Option.some.inj (h9.symm.trans (rfl : vwCl[3]? = some (RX2, TX2, 4)))); rfl) (hini rfl) (qb5 _ _ (qb1 _ _ hs_a0)) (Or.inr (by decide)) (xokr 3 1 (by decide)) rfl rfl dX2_init_17 (fun g8 hg8 => ?_)
  refine X_aloadn hK (i := 0) 0 dX2_init_20 rfl rfl ?_
  refine X_iconst hK dX2_init_21 ?_
  refine X_putv hK fl_X2_18_5003 (qb5 _ _ (qb1 _ _ hs_a0)) (by decide) (xokr 3 2 (by decide)) rfl rfl dX2_init_22 (fun g9 hg9 => ?_)
  refine X_aloadn hK (i := 0) 0 dX2_init_25 rfl rfl ?_
  refine X_lconst hK dX2_init_26 (fun y10 => ?_)
  refine X_putv hK fl_X2_22_5003 (qb5 _ _ (qb1 _ _ hs_a0)) (by decide) (xokr 3 3 (by decide)) rfl rfl dX2_init_27 (fun g11 hg11 => ?_)
  exact hret _ _ _ _ _ _ dX2_init_30 ⟨(xNw2.tr (xNw2.tr xNw2.rf (hSb1 ▸ xNw2.set (by decide)) (fun _ h => h)) (hSb5 ▸ xNw2.set (by decide)) (fun _ h => h)), rfl, (fun k9 => match k9 with | 0 => xk1 10500 24 sl_3_0 ((xs_k hg11 (by decide)).trans ((xs_k hg9 (by decide)).trans ((xs_k hg8 (by decide)).trans ((xs_n hg7 (qb1 _ _ hs_a0) nb5).trans (xs_s hg4))))) (qb5 _ _ hs_b1) | 1 => xk1 10600 24 sl_3_1 ((xs_k hg11 (by decide)).trans ((xs_k hg9 (by decide)).trans (xs_s hg8))) hs_b5 | 2 => xk0 sl_3_2 ((xs_k hg11 (by decide)).trans (xs_s hg9)) (by omega) (by omega) | 3 => xk3 sl_3_3 (xs_s hg11) | n9 + 4 => xk9 (by rfl)), (by omega)⟩ (by omega) (by omega)

set_option maxHeartbeats 4000000 in
set_option maxRecDepth 100000 in
theorem c_X8_init (l : Launch) (D : va_G) (kA : Nat → ClassId) (b0 : Nat) (t0 : Nat → Nat) (S : xT) (g : xG) (a0 : Nat) (hs_a0 : S a0 = some (5009, 0)) (hp0 : xSi S t0) : xMu l yX8_init cX8_init 1 none 1 4 27 12 D kA b0 t0 [(5009, 0), (5009, 1), (5009, 2), (5009, 3), (5009, 4), (5009, 5)] [.ref a0] S g (fun (r : Option Value) (S1 : xT) (g1 : xG) (dc ds : Nat) => xNw2 S S1 [13100, 13200, 13300, 13400] ∧ r = none ∧ (xSi S1 t0) ∧ (dc ≤ 4 ∧ ds ≤ 27) ∧ (∀ k9 : Nat, xok S1 (xsl 9 k9) (g1 a0 k9))) := by
  refine xEnterUV (by decide) (by simp [lg_sl, Value.category]) [(0, .ref a0)] rfl ?_
  intro K E hK hret hS0 _ hini ht
  subst ht
  refine X_aloadn hK (i := 0) 0 dX8_init_0 rfl rfl ?_
  refine X_oinit hK ⟨m_7_1, m_1_11, m_1_12⟩ ⟨by decide, by simp [Value.category]⟩ dX8_init_1 ?_
  refine X_aloadn hK (i := 0) 0 dX8_init_4 rfl rfl ?_
  refine X_bipush hK dX8_init_5 (by decide) ?_
  refine X_newa hK (ty := .int) 13100 0 (.int 0) rfl (fun _ => rfl) rfl (by decide) m_3_14 (by omega) ⟨by show _ * 4 ≤ _; omega, by omega⟩ (by omega) (by omega) (fun _ _ h9 => h9) (fun S9 k9 => by rw [sl_13100]; exact ⟨0, rfl, by decide, by decide⟩) dX8_init_7 (fun b1 S2 g3 zb1 nb1 hSb1 hg3 qb1 hs_b1 => ?_)
  refine X_putF hK fl_X8_11_5009 (fun T9 N9 C9 h9 => by cases (Option.some.inj (h9.symm.trans (rfl : vwCl[9]? = some (RX8, TX8, 6)))); rfl) (hini rfl) (qb1 _ _ hs_a0) (Or.inr (by decide)) (xokr 9 0 (by decide)) rfl rfl dX8_init_9 (fun g4 hg4 => ?_)
  refine X_aloadn hK (i := 0) 0 dX8_init_12 rfl rfl ?_
  refine X_bipush hK dX8_init_13 (by decide) ?_
  refine X_newa hK (ty := .int) 13200 0 (.int 0) rfl (fun _ => rfl) rfl (by decide) m_3_14 (by omega) ⟨by show _ * 4 ≤ _; omega, by omega⟩ (by omega) (by omega) (fun _ _ h9 => h9) (fun S9 k9 => by rw [sl_13200]; exact ⟨0, rfl, by decide, by decide⟩) dX8_init_15 (fun b5 S6 g7 zb5 nb5 hSb5 hg7 qb5 hs_b5 => ?_)
  refine X_putF hK fl_X8_15_5009 (fun T9 N9 C9 h9 => by cases (Option.some.inj (h9.symm.trans (rfl : vwCl[9]? = some (RX8, TX8, 6)))); rfl) (hini rfl) (qb5 _ _ (qb1 _ _ hs_a0)) (Or.inr (by decide)) (xokr 9 1 (by decide)) rfl rfl dX8_init_17 (fun g8 hg8 => ?_)
  refine X_aloadn hK (i := 0) 0 dX8_init_20 rfl rfl ?_
  refine X_bipush hK dX8_init_21 (by decide) ?_
  refine X_newa hK (ty := .int) 13300 0 (.int 0) rfl (fun _ => rfl) rfl (by decide) m_3_14 (by omega) ⟨by show _ * 4 ≤ _; omega, by omega⟩ (by omega) (by omega) (fun _ _ h9 => h9) (fun S9 k9 => by rw [sl_13300]; exact ⟨0, rfl, by decide, by decide⟩) dX8_init_23 (fun b9 S10 g11 zb9 nb9 hSb9 hg11 qb9 hs_b9 => ?_)
  refine X_putF hK fl_X8_18_5009 (fun T9 N9 C9 h9 => by cases (Option.some.inj (h9.symm.trans (rfl : vwCl[9]? = some (RX8, TX8, 6)))); rfl) (hini rfl) (qb9 _ _ (qb5 _ _ (qb1 _ _ hs_a0))) (Or.inr (by decide)) (xokr 9 2 (by decide)) rfl rfl dX8_init_25 (fun g12 hg12 => ?_)
  refine X_aloadn hK (i := 0) 0 dX8_init_28 rfl rfl ?_
  refine X_iconst hK dX8_init_29 ?_
  refine X_newa hK (ty := .int) 13400 0 (.int 0) rfl (fun _ => rfl) rfl (by decide) m_3_14 (by omega) ⟨by show _ * 4 ≤ _; omega, by omega⟩ (by omega) (by omega) (fun _ _ h9 => h9) (fun S9 k9 => by rw [sl_13400]; exact ⟨0, rfl, by decide, by decide⟩) dX8_init_30 (fun b13 S14 g15 zb13 nb13 hSb13 hg15 qb13 hs_b13 => ?_)
  have hk16 := (qb13 _ _ (qb9 _ _ (qb5 _ _ (qb1 _ _ hs_a0))))
  refine X_putv hK fl_X8_21_5009 hk16 (by decide) (xokr 9 3 (by decide)) rfl rfl dX8_init_32 (fun g17 hg17 => ?_)
  refine X_aloadn hK (i := 0) 0 dX8_init_35 rfl rfl ?_
  refine X_iconst hK dX8_init_36 ?_
  refine X_putv hK fl_X8_24_5009 hk16 (by decide) (xokr 9 4 (by decide)) rfl rfl dX8_init_37 (fun g18 hg18 => ?_)
  refine X_aloadn hK (i := 0) 0 dX8_init_40 rfl rfl ?_
  refine X_iconst hK dX8_init_41 ?_
  refine X_putv hK fl_X8_28_5009 hk16 (by decide) (xokr 9 5 (by decide)) rfl rfl dX8_init_42 (fun g19 hg19 => ?_)
  exact hret _ _ _ _ _ _ dX8_init_45 ⟨(xNw2.tr (xNw2.tr (xNw2.tr (xNw2.tr xNw2.rf (hSb1 ▸ xNw2.set (by decide)) (fun _ h => h)) (hSb5 ▸ xNw2.set (by decide)) (fun _ h => h)) (hSb9 ▸ xNw2.set (by decide)) (fun _ h => h)) (hSb13 ▸ xNw2.set (by decide)) (fun _ h => h)), rfl, (⟨fun c9 m9 hc9 => (xNw2.one hSb13 c9 _ m9 hc9).elim ((xSi.nw (xSi.nw (xSi.nw hp0 (xNw2.one hSb1) (by decide)) (xNw2.one hSb5) (by decide)) (xNw2.one hSb9) (by decide)).1 c9 m9) (fun q9 => absurd q9 (by decide)), xSn_set (xSi.nw (xSi.nw (xSi.nw hp0 (xNw2.one hSb1) (by decide)) (xNw2.one hSb5) (by decide)) (xNw2.one hSb9) (by decide)).2 hSb13 (by omega)⟩ : xSi _ _), (by omega), (fun k9 => match k9 with | 0 => xk1 13100 9 sl_9_0 ((xs_k hg19 (by decide)).trans ((xs_k hg18 (by decide)).trans ((xs_k hg17 (by decide)).trans ((xs_n hg15 (qb9 _ _ (qb5 _ _ (qb1 _ _ hs_a0))) nb13).trans ((xs_k hg12 (by decide)).trans ((xs_n hg11 (qb5 _ _ (qb1 _ _ hs_a0)) nb9).trans ((xs_k hg8 (by decide)).trans ((xs_n hg7 (qb1 _ _ hs_a0) nb5).trans (xs_s hg4))))))))) (qb13 _ _ (qb9 _ _ (qb5 _ _ hs_b1))) | 1 => xk1 13200 9 sl_9_1 ((xs_k hg19 (by decide)).trans ((xs_k hg18 (by decide)).trans ((xs_k hg17 (by decide)).trans ((xs_n hg15 (qb9 _ _ (qb5 _ _ (qb1 _ _ hs_a0))) nb13).trans ((xs_k hg12 (by decide)).trans ((xs_n hg11 (qb5 _ _ (qb1 _ _ hs_a0)) nb9).trans (xs_s hg8))))))) (qb13 _ _ (qb9 _ _ hs_b5)) | 2 => xk1 13300 9 sl_9_2 ((xs_k hg19 (by decide)).trans ((xs_k hg18 (by decide)).trans ((xs_k hg17 (by decide)).trans ((xs_n hg15 (qb9 _ _ (qb5 _ _ (qb1 _ _ hs_a0))) nb13).trans (xs_s hg12))))) (qb13 _ _ hs_b9) | 3 => xk7 13400 sl_9_3 ((xs_k hg19 (by decide)).trans ((xs_k hg18 (by decide)).trans (xs_s hg17))) hs_b13 | 4 => xk0 sl_9_4 ((xs_k hg19 (by decide)).trans (xs_s hg18)) (by omega) (by omega) | 5 => xk0 sl_9_5 (xs_s hg19) (by omega) (by omega) | n9 + 6 => xk9 (by rfl))⟩ (by omega) (by omega)

set_option maxHeartbeats 4000000 in
set_option maxRecDepth 100000 in
theorem c_X6_init (l : Launch) (D : va_G) (kA : Nat → ClassId) (b0 : Nat) (t0 : Nat → Nat) (S : xT) (g : xG) (a0 : Nat) (hs_a0 : S a0 = some (5007, 0)) : xMu l yX6_init cX6_init 1 none 1 8 536 12 D kA b0 t0 [(5007, 0), (5007, 1), (5007, 2), (5007, 3), (5007, 4), (5007, 5), (5007, 6), (5007, 7), (5007, 8), (5007, 9)] [.ref a0] S g (fun (r : Option Value) (S1 : xT) (g1 : xG) (dc ds : Nat) => xNw2 S S1 [12100, 12200, 12300, 12400, 12500, 12600, 12701, 12802] ∧ r = none ∧ (g1 a0 0 = .int (iI 0)) ∧ (∃ c : Nat, g1 a0 3 = .ref c ∧ S c = none ∧ S1 c = some (12300, 8)) ∧ (dc ≤ 8 ∧ ds ≤ 536) ∧ (∀ k9 : Nat, xok S1 (xsl 7 k9) (g1 a0 k9))) := by
  refine xEnterUV (by decide) (by simp [lg_sl, Value.category]) [(0, .ref a0)] rfl ?_
  intro K E hK hret hS0 _ hini ht
  subst ht
  refine X_aloadn hK (i := 0) 0 dX6_init_0 rfl rfl ?_
  refine X_oinit hK ⟨m_7_10, m_1_11, m_1_12⟩ ⟨by decide, by simp [Value.category]⟩ dX6_init_1 ?_
  refine X_aloadn hK (i := 0) 0 dX6_init_4 rfl rfl ?_
  refine X_iconst hK dX6_init_5 ?_
  refine X_putv hK fl_X6_9_5007 hs_a0 (by decide) (xokr 7 0 (by decide)) rfl rfl dX6_init_6 (fun g1 hg1 => ?_)
  refine X_aloadn hK (i := 0) 0 dX6_init_9 rfl rfl ?_
  refine X_bipush hK dX6_init_10 (by decide) ?_
  refine X_newa hK (ty := .int) 12100 0 (.int 0) rfl (fun _ => rfl) rfl (by decide) m_3_14 (by omega) ⟨by show _ * 4 ≤ _; omega, by omega⟩ (by omega) (by omega) (fun _ _ h9 => h9) (fun S9 k9 => by rw [sl_12100]; exact ⟨0, rfl, by decide, by decide⟩) dX6_init_12 (fun b2 S3 g4 zb2 nb2 hSb2 hg4 qb2 hs_b2 => ?_)
  refine X_putF hK fl_X6_15_5007 (fun T9 N9 C9 h9 => by cases (Option.some.inj (h9.symm.trans (rfl : vwCl[7]? = some (RX6, TX6, 10)))); rfl) (hini rfl) (qb2 _ _ hs_a0) (Or.inr (by decide)) (xokr 7 1 (by decide)) rfl rfl dX6_init_14 (fun g5 hg5 => ?_)
  refine X_aloadn hK (i := 0) 0 dX6_init_17 rfl rfl ?_
  refine X_bipush hK dX6_init_18 (by decide) ?_
  refine X_newa hK (ty := .int) 12200 0 (.int 0) rfl (fun _ => rfl) rfl (by decide) m_3_14 (by omega) ⟨by show _ * 4 ≤ _; omega, by omega⟩ (by omega) (by omega) (fun _ _ h9 => h9) (fun S9 k9 => by rw [sl_12200]; exact ⟨0, rfl, by decide, by decide⟩) dX6_init_20 (fun b6 S7 g8 zb6 nb6 hSb6 hg8 qb6 hs_b6 => ?_)
  refine X_putF hK fl_X6_19_5007 (fun T9 N9 C9 h9 => by cases (Option.some.inj (h9.symm.trans (rfl : vwCl[7]? = some (RX6, TX6, 10)))); rfl) (hini rfl) (qb6 _ _ (qb2 _ _ hs_a0)) (Or.inr (by decide)) (xokr 7 2 (by decide)) rfl rfl dX6_init_22 (fun g9 hg9 => ?_)
  refine X_aloadn hK (i := 0) 0 dX6_init_25 rfl rfl ?_
  refine X_bipush hK dX6_init_26 (by decide) ?_
  refine X_newa hK (ty := .int) 12300 0 (.int 0) rfl (fun _ => rfl) rfl (by decide) m_3_14 (by omega) ⟨by show _ * 4 ≤ _; omega, by omega⟩ (by omega) (by omega) (fun _ _ h9 => h9) (fun S9 k9 => by rw [sl_12300]; exact ⟨0, rfl, by decide, by decide⟩) dX6_init_28 (fun b10 S11 g12 zb10 nb10 hSb10 hg12 qb10 hs_b10 => ?_)
  refine X_putF hK fl_X6_22_5007 (fun T9 N9 C9 h9 => by cases (Option.some.inj (h9.symm.trans (rfl : vwCl[7]? = some (RX6, TX6, 10)))); rfl) (hini rfl) (qb10 _ _ (qb6 _ _ (qb2 _ _ hs_a0))) (Or.inr (by decide)) (xokr 7 3 (by decide)) rfl rfl dX6_init_30 (fun g13 hg13 => ?_)
  refine X_aloadn hK (i := 0) 0 dX6_init_33 rfl rfl ?_
  refine X_bipush hK dX6_init_34 (by decide) ?_
  refine X_newa hK (ty := .int) 12400 0 (.int 0) rfl (fun _ => rfl) rfl (by decide) m_3_14 (by omega) ⟨by show _ * 4 ≤ _; omega, by omega⟩ (by omega) (by omega) (fun _ _ h9 => h9) (fun S9 k9 => by rw [sl_12400]; exact ⟨0, rfl, by decide, by decide⟩) dX6_init_36 (fun b14 S15 g16 zb14 nb14 hSb14 hg16 qb14 hs_b14 => ?_)
  have hk17 := (qb14 _ _ (qb10 _ _ (qb6 _ _ (qb2 _ _ hs_a0))))
  refine X_putF hK fl_X6_25_5007 (fun T9 N9 C9 h9 => by cases (Option.some.inj (h9.symm.trans (rfl : vwCl[7]? = some (RX6, TX6, 10)))); rfl) (hini rfl) hk17 (Or.inr (by decide)) (xokr 7 4 (by decide)) rfl rfl dX6_init_38 (fun g18 hg18 => ?_)
  refine X_aloadn hK (i := 0) 0 dX6_init_41 rfl rfl ?_
  refine X_bipush hK dX6_init_42 (by decide) ?_
  refine X_newa hK (ty := .int) 12500 0 (.int 0) rfl (fun _ => rfl) rfl (by decide) m_3_14 (by omega) ⟨by show _ * 4 ≤ _; omega, by omega⟩ (by omega) (by omega) (fun _ _ h9 => h9) (fun S9 k9 => by rw [sl_12500]; exact ⟨0, rfl, by decide, by decide⟩) dX6_init_44 (fun b19 S20 g21 zb19 nb19 hSb19 hg21 qb19 hs_b19 => ?_)
  have hk22 := (qb19 _ _ (qb14 _ _ (qb10 _ _ (qb6 _ _ hs_b2))))
  refine X_putF hK fl_X6_28_5007 (fun T9 N9 C9 h9 => by cases (Option.some.inj (h9.symm.trans (rfl : vwCl[7]? = some (RX6, TX6, 10)))); rfl) (hini rfl) (qb19 _ _ hk17) (Or.inr (by decide)) (xokr 7 5 (by decide)) rfl rfl dX6_init_46 (fun g23 hg23 => ?_)
  refine X_aloadn hK (i := 0) 0 dX6_init_49 rfl rfl ?_
  refine X_sipush hK dX6_init_50 (by decide) ?_
  refine X_newa hK (ty := .int) 12600 0 (.int 0) rfl (fun _ => rfl) rfl (by decide) m_3_14 (by omega) ⟨by show _ * 4 ≤ _; omega, by omega⟩ (by omega) (by omega) (fun _ _ h9 => h9) (fun S9 k9 => by rw [sl_12600]; exact ⟨0, rfl, by decide, by decide⟩) dX6_init_53 (fun b24 S25 g26 zb24 nb24 hSb24 hg26 qb24 hs_b24 => ?_)
  have hk27 := (qb24 _ _ (qb19 _ _ (qb14 _ _ (qb10 _ _ hs_b6))))
  refine X_putF hK fl_X6_31_5007 (fun T9 N9 C9 h9 => by cases (Option.some.inj (h9.symm.trans (rfl : vwCl[7]? = some (RX6, TX6, 10)))); rfl) (hini rfl) (qb24 _ _ (qb19 _ _ hk17)) (Or.inr (by decide)) (xokr 7 6 (by decide)) rfl rfl dX6_init_55 (fun g28 hg28 => ?_)
  refine X_aloadn hK (i := 0) 0 dX6_init_58 rfl rfl ?_
  refine X_bipush hK dX6_init_59 (by decide) ?_
  refine X_newa hK (ty := .boolean) 12701 1 (.int 0) rfl (fun _ => rfl) rfl (by decide) m_7_18 (by omega) ⟨by show _ * 1 ≤ _; omega, by omega⟩ (by omega) (by omega) (fun _ _ h9 => h9) (fun S9 k9 => by rw [sl_12701]; exact ⟨0, rfl, by decide, by decide⟩) dX6_init_61 (fun b29 S30 g31 zb29 nb29 hSb29 hg31 qb29 hs_b29 => ?_)
  have hk32 := (qb29 _ _ (qb24 _ _ (qb19 _ _ (qb14 _ _ hs_b10))))
  refine X_putF hK fl_X6_34_5007 (fun T9 N9 C9 h9 => by cases (Option.some.inj (h9.symm.trans (rfl : vwCl[7]? = some (RX6, TX6, 10)))); rfl) (hini rfl) (qb29 _ _ (qb24 _ _ (qb19 _ _ hk17))) (Or.inr (by decide)) (xokr 7 7 (by decide)) rfl rfl dX6_init_63 (fun g33 hg33 => ?_)
  refine X_aloadn hK (i := 0) 0 dX6_init_66 rfl rfl ?_
  refine X_bipush hK dX6_init_67 (by decide) ?_
  refine X_newa hK (ty := .long) 12802 2 (.long 0) rfl (fun _ => rfl) rfl (by decide) m_1_6 (by omega) ⟨by show _ * 8 ≤ _; omega, by omega⟩ (by omega) (by omega) (fun _ _ h9 => h9) (fun S9 k9 => by rw [sl_12802]; exact ⟨0, rfl⟩) dX6_init_69 (fun b34 S35 g36 zb34 nb34 hSb34 hg36 qb34 hs_b34 => ?_)
  have hk37 := (qb34 _ _ (qb29 _ _ (qb24 _ _ (qb19 _ _ hk17))))
  have hk38 := (qb34 _ _ (qb29 _ _ (qb24 _ _ (qb19 _ _ hs_b14))))
  refine X_putF hK fl_X6_38_5007 (fun T9 N9 C9 h9 => by cases (Option.some.inj (h9.symm.trans (rfl : vwCl[7]? = some (RX6, TX6, 10)))); rfl) (hini rfl) hk37 (Or.inr (by decide)) (xokr 7 8 (by decide)) rfl rfl dX6_init_71 (fun g39 hg39 => ?_)
  refine X_aloadn hK (i := 0) 0 dX6_init_74 rfl rfl ?_
  refine X_iconst hK dX6_init_75 ?_
  refine X_putv hK fl_X6_42_5007 hk37 (by decide) (xokr 7 9 (by decide)) rfl rfl dX6_init_76 (fun g40 hg40 => ?_)
  exact hret _ _ _ _ _ _ dX6_init_79 ⟨(xNw2.tr (xNw2.tr (xNw2.tr (xNw2.tr (xNw2.tr (xNw2.tr (xNw2.tr (xNw2.tr xNw2.rf (hSb2 ▸ xNw2.set (by decide)) (fun _ h => h)) (hSb6 ▸ xNw2.set (by decide)) (fun _ h => h)) (hSb10 ▸ xNw2.set (by decide)) (fun _ h => h)) (hSb14 ▸ xNw2.set (by decide)) (fun _ h => h)) (hSb19 ▸ xNw2.set (by decide)) (fun _ h => h)) (hSb24 ▸ xNw2.set (by decide)) (fun _ h => h)) (hSb29 ▸ xNw2.set (by decide)) (fun _ h => h)) (hSb34 ▸ xNw2.set (by decide)) (fun _ h => h)), rfl, (((xs_k hg40 (by decide)).trans ((xs_k hg39 (by decide)).trans ((xs_n hg36 (qb29 _ _ (qb24 _ _ (qb19 _ _ hk17))) nb34).trans ((xs_k hg33 (by decide)).trans ((xs_n hg31 (qb24 _ _ (qb19 _ _ hk17)) nb29).trans ((xs_k hg28 (by decide)).trans ((xs_n hg26 (qb19 _ _ hk17) nb24).trans ((xs_k hg23 (by decide)).trans ((xs_n hg21 hk17 nb19).trans ((xs_k hg18 (by decide)).trans ((xs_n hg16 (qb10 _ _ (qb6 _ _ (qb2 _ _ hs_a0))) nb14).trans ((xs_k hg13 (by decide)).trans ((xs_n hg12 (qb6 _ _ (qb2 _ _ hs_a0)) nb10).trans ((xs_k hg9 (by decide)).trans ((xs_n hg8 (qb2 _ _ hs_a0) nb6).trans ((xs_k hg5 (by decide)).trans ((xs_n hg4 hs_a0 nb2).trans (xs_s hg1)))))))))))))))))).trans (by congr 2 <;> omega)), ⟨b10, ((xs_k hg40 (by decide)).trans ((xs_k hg39 (by decide)).trans ((xs_n hg36 (qb29 _ _ (qb24 _ _ (qb19 _ _ hk17))) nb34).trans ((xs_k hg33 (by decide)).trans ((xs_n hg31 (qb24 _ _ (qb19 _ _ hk17)) nb29).trans ((xs_k hg28 (by decide)).trans ((xs_n hg26 (qb19 _ _ hk17) nb24).trans ((xs_k hg23 (by decide)).trans ((xs_n hg21 hk17 nb19).trans ((xs_k hg18 (by decide)).trans ((xs_n hg16 (qb10 _ _ (qb6 _ _ (qb2 _ _ hs_a0))) nb14).trans (xs_s hg13)))))))))))), xnone (xLe.tr qb2 qb6) nb10, (qb34 _ _ hk32)⟩, (by omega), (fun k9 => match k9 with | 0 => xk0 sl_7_0 ((xs_k hg40 (by decide)).trans ((xs_k hg39 (by decide)).trans ((xs_n hg36 (qb29 _ _ (qb24 _ _ (qb19 _ _ hk17))) nb34).trans ((xs_k hg33 (by decide)).trans ((xs_n hg31 (qb24 _ _ (qb19 _ _ hk17)) nb29).trans ((xs_k hg28 (by decide)).trans ((xs_n hg26 (qb19 _ _ hk17) nb24).trans ((xs_k hg23 (by decide)).trans ((xs_n hg21 hk17 nb19).trans ((xs_k hg18 (by decide)).trans ((xs_n hg16 (qb10 _ _ (qb6 _ _ (qb2 _ _ hs_a0))) nb14).trans ((xs_k hg13 (by decide)).trans ((xs_n hg12 (qb6 _ _ (qb2 _ _ hs_a0)) nb10).trans ((xs_k hg9 (by decide)).trans ((xs_n hg8 (qb2 _ _ hs_a0) nb6).trans ((xs_k hg5 (by decide)).trans ((xs_n hg4 hs_a0 nb2).trans (xs_s hg1)))))))))))))))))) (by omega) (by omega) | 1 => xk1 12100 64 sl_7_1 ((xs_k hg40 (by decide)).trans ((xs_k hg39 (by decide)).trans ((xs_n hg36 (qb29 _ _ (qb24 _ _ (qb19 _ _ hk17))) nb34).trans ((xs_k hg33 (by decide)).trans ((xs_n hg31 (qb24 _ _ (qb19 _ _ hk17)) nb29).trans ((xs_k hg28 (by decide)).trans ((xs_n hg26 (qb19 _ _ hk17) nb24).trans ((xs_k hg23 (by decide)).trans ((xs_n hg21 hk17 nb19).trans ((xs_k hg18 (by decide)).trans ((xs_n hg16 (qb10 _ _ (qb6 _ _ (qb2 _ _ hs_a0))) nb14).trans ((xs_k hg13 (by decide)).trans ((xs_n hg12 (qb6 _ _ (qb2 _ _ hs_a0)) nb10).trans ((xs_k hg9 (by decide)).trans ((xs_n hg8 (qb2 _ _ hs_a0) nb6).trans (xs_s hg5)))))))))))))))) (qb34 _ _ (qb29 _ _ (qb24 _ _ hk22))) | 2 => xk1 12200 64 sl_7_2 ((xs_k hg40 (by decide)).trans ((xs_k hg39 (by decide)).trans ((xs_n hg36 (qb29 _ _ (qb24 _ _ (qb19 _ _ hk17))) nb34).trans ((xs_k hg33 (by decide)).trans ((xs_n hg31 (qb24 _ _ (qb19 _ _ hk17)) nb29).trans ((xs_k hg28 (by decide)).trans ((xs_n hg26 (qb19 _ _ hk17) nb24).trans ((xs_k hg23 (by decide)).trans ((xs_n hg21 hk17 nb19).trans ((xs_k hg18 (by decide)).trans ((xs_n hg16 (qb10 _ _ (qb6 _ _ (qb2 _ _ hs_a0))) nb14).trans ((xs_k hg13 (by decide)).trans ((xs_n hg12 (qb6 _ _ (qb2 _ _ hs_a0)) nb10).trans (xs_s hg9)))))))))))))) (qb34 _ _ (qb29 _ _ hk27)) | 3 => xk1 12300 8 sl_7_3 ((xs_k hg40 (by decide)).trans ((xs_k hg39 (by decide)).trans ((xs_n hg36 (qb29 _ _ (qb24 _ _ (qb19 _ _ hk17))) nb34).trans ((xs_k hg33 (by decide)).trans ((xs_n hg31 (qb24 _ _ (qb19 _ _ hk17)) nb29).trans ((xs_k hg28 (by decide)).trans ((xs_n hg26 (qb19 _ _ hk17) nb24).trans ((xs_k hg23 (by decide)).trans ((xs_n hg21 hk17 nb19).trans ((xs_k hg18 (by decide)).trans ((xs_n hg16 (qb10 _ _ (qb6 _ _ (qb2 _ _ hs_a0))) nb14).trans (xs_s hg13)))))))))))) (qb34 _ _ hk32) | 4 => xk1 12400 8 sl_7_4 ((xs_k hg40 (by decide)).trans ((xs_k hg39 (by decide)).trans ((xs_n hg36 (qb29 _ _ (qb24 _ _ (qb19 _ _ hk17))) nb34).trans ((xs_k hg33 (by decide)).trans ((xs_n hg31 (qb24 _ _ (qb19 _ _ hk17)) nb29).trans ((xs_k hg28 (by decide)).trans ((xs_n hg26 (qb19 _ _ hk17) nb24).trans ((xs_k hg23 (by decide)).trans ((xs_n hg21 hk17 nb19).trans (xs_s hg18)))))))))) hk38 | 5 => xk1 12500 8 sl_7_5 ((xs_k hg40 (by decide)).trans ((xs_k hg39 (by decide)).trans ((xs_n hg36 (qb29 _ _ (qb24 _ _ (qb19 _ _ hk17))) nb34).trans ((xs_k hg33 (by decide)).trans ((xs_n hg31 (qb24 _ _ (qb19 _ _ hk17)) nb29).trans ((xs_k hg28 (by decide)).trans ((xs_n hg26 (qb19 _ _ hk17) nb24).trans (xs_s hg23)))))))) (qb34 _ _ (qb29 _ _ (qb24 _ _ hs_b19))) | 6 => xk1 12600 256 sl_7_6 ((xs_k hg40 (by decide)).trans ((xs_k hg39 (by decide)).trans ((xs_n hg36 (qb29 _ _ (qb24 _ _ (qb19 _ _ hk17))) nb34).trans ((xs_k hg33 (by decide)).trans ((xs_n hg31 (qb24 _ _ (qb19 _ _ hk17)) nb29).trans (xs_s hg28)))))) (qb34 _ _ (qb29 _ _ hs_b24)) | 7 => xk1 12701 64 sl_7_7 ((xs_k hg40 (by decide)).trans ((xs_k hg39 (by decide)).trans ((xs_n hg36 (qb29 _ _ (qb24 _ _ (qb19 _ _ hk17))) nb34).trans (xs_s hg33)))) (qb34 _ _ hs_b29) | 8 => xk1 12802 64 sl_7_8 ((xs_k hg40 (by decide)).trans (xs_s hg39)) hs_b34 | 9 => xk0 sl_7_9 (xs_s hg40) (by omega) (by omega) | n9 + 10 => xk9 (by rfl))⟩ (by omega) (by omega)

set_option maxHeartbeats 4000000 in
set_option maxRecDepth 100000 in
theorem c_X3_init (l : Launch) (D : va_G) (kA : Nat → ClassId) (b0 : Nat) (t0 : Nat → Nat) (S : xT) (g : xG) (a0 : Nat) (hs_a0 : S a0 = some (5004, 0)) : xMu l yX3_init cX3_init 3 none 1 31 2184 12 D kA b0 t0 [(5004, 0), (5004, 1), (11000, 0), (5004, 2), (11100, 0), (5004, 3), (5004, 4), (11400, 0), (5004, 5), (5004, 6), (11500, 0)] [.ref a0] S g (fun (r : Option Value) (S1 : xT) (g1 : xG) (dc ds : Nat) => xNw2 S S1 [10700, 10904, 10800, 11000, 11100, 11304, 11200, 11400, 11604, 11500] ∧ r = none ∧ (xCy S1 g1 a0) ∧ (dc ≤ 31 ∧ ds ≤ 2184) ∧ (∀ k9 : Nat, xok S1 (xsl 4 k9) (g1 a0 k9))) := by
  refine xEnterUV (by decide) (by simp [lg_sl, Value.category]) [(0, .ref a0)] rfl ?_
  intro K E hK hret hS0 _ hini ht
  subst ht
  refine X_aloadn hK (i := 0) 0 dX3_init_0 rfl rfl ?_
  refine X_oinit hK ⟨m_4_11, m_1_11, m_1_12⟩ ⟨by decide, by simp [Value.category]⟩ dX3_init_1 ?_
  refine X_aloadn hK (i := 0) 0 dX3_init_4 rfl rfl ?_
  refine X_sipush hK dX3_init_5 (by decide) ?_
  refine X_newa hK (ty := .int) 10700 0 (.int 0) rfl (fun _ => rfl) rfl (by decide) m_3_14 (by omega) ⟨by show _ * 4 ≤ _; omega, by omega⟩ (by omega) (by omega) (fun _ _ h9 => h9) (fun S9 k9 => by rw [sl_10700]; exact ⟨0, rfl, by decide, by decide⟩) dX3_init_8 (fun b1 S2 g3 zb1 nb1 hSb1 hg3 qb1 hs_b1 => ?_)
  refine X_putF hK fl_X3_9_5004 (fun T9 N9 C9 h9 => by cases (Option.some.inj (h9.symm.trans (rfl : vwCl[4]? = some (RX3, TX3, 7)))); rfl) (hini rfl) (qb1 _ _ hs_a0) (Or.inr (by decide)) (xokr 4 0 (by decide)) rfl rfl dX3_init_10 (fun g4 hg4 => ?_)
  refine X_aloadn hK (i := 0) 0 dX3_init_13 rfl rfl ?_
  refine X_iconst hK dX3_init_14 ?_
  refine X_sipush hK dX3_init_15 (by decide) ?_
  refine X_multi hK (N := 4) (M := 400) 10904 10800 m_4_13 m_3_14 (by decide) (by decide) sl_10904 sl_10800 (by decide) (by decide) (by omega) (by omega) dX3_init_18 (fun b5 S6 g7 nb5 qr8 wr8 hg7 hs_b5 grb5 => ?_)
  refine X_putF hK fl_X3_17_5004 (fun T9 N9 C9 h9 => by cases (Option.some.inj (h9.symm.trans (rfl : vwCl[4]? = some (RX3, TX3, 7)))); rfl) (hini rfl) (qr8 _ _ (qb1 _ _ hs_a0)) (Or.inr (by decide)) (xokr 4 1 (by decide)) rfl rfl dX3_init_22 (fun g9 hg9 => ?_)
  refine X_aloadn hK (i := 0) 0 dX3_init_25 rfl rfl ?_
  refine X_iconst hK dX3_init_26 ?_
  refine X_newa hK (ty := .int) 11000 0 (.int 0) rfl (fun _ => rfl) rfl (by decide) m_3_14 (by omega) ⟨by show _ * 4 ≤ _; omega, by omega⟩ (by omega) (by omega) (fun _ _ h9 => h9) (fun S9 k9 => by rw [sl_11000]; exact ⟨0, rfl, by decide, by decide⟩) dX3_init_27 (fun b10 S11 g12 zb10 nb10 hSb10 hg12 qb10 hs_b10 => ?_)
  refine X_dup hK dX3_init_29 rfl ?_
  refine X_iconst hK dX3_init_30 ?_
  refine X_bipush hK dX3_init_31 (by decide) ?_
  refine X_iast hK hs_b10 (by decide) (by decide) sl_11000 (by omega) (by omega) (by omega) (by omega) dX3_init_33 (fun g13 hg13 => ?_)
  refine X_dup hK dX3_init_34 rfl ?_
  refine X_iconst hK dX3_init_35 ?_
  refine X_bipush hK dX3_init_36 (by decide) ?_
  refine X_iast hK hs_b10 (by decide) (by decide) sl_11000 (by omega) (by omega) (by omega) (by omega) dX3_init_38 (fun g14 hg14 => ?_)
  refine X_dup hK dX3_init_39 rfl ?_
  refine X_iconst hK dX3_init_40 ?_
  refine X_bipush hK dX3_init_41 (by decide) ?_
  refine X_iast hK hs_b10 (by decide) (by decide) sl_11000 (by omega) (by omega) (by omega) (by omega) dX3_init_43 (fun g15 hg15 => ?_)
  refine X_dup hK dX3_init_44 rfl ?_
  refine X_iconst hK dX3_init_45 ?_
  refine X_bipush hK dX3_init_46 (by decide) ?_
  refine X_iast hK hs_b10 (by decide) (by decide) sl_11000 (by omega) (by omega) (by omega) (by omega) dX3_init_48 (fun g16 hg16 => ?_)
  refine X_putF hK fl_X3_20_5004 (fun T9 N9 C9 h9 => by cases (Option.some.inj (h9.symm.trans (rfl : vwCl[4]? = some (RX3, TX3, 7)))); rfl) (hini rfl) (qb10 _ _ (qr8 _ _ (qb1 _ _ hs_a0))) (Or.inr (by decide)) (xokr 4 2 (by decide)) rfl rfl dX3_init_49 (fun g17 hg17 => ?_)
  refine X_aloadn hK (i := 0) 0 dX3_init_52 rfl rfl ?_
  refine X_bipush hK dX3_init_53 (by decide) ?_
  refine X_newa hK (ty := .int) 11100 0 (.int 0) rfl (fun _ => rfl) rfl (by decide) m_3_14 (by omega) ⟨by show _ * 4 ≤ _; omega, by omega⟩ (by omega) (by omega) (fun _ _ h9 => h9) (fun S9 k9 => by rw [sl_11100]; exact ⟨0, rfl, by decide, by decide⟩) dX3_init_55 (fun b18 S19 g20 zb18 nb18 hSb18 hg20 qb18 hs_b18 => ?_)
  have hk21 := (qb18 _ _ (qb10 _ _ (qr8 _ _ (qb1 _ _ hs_a0))))
  refine X_dup hK dX3_init_57 rfl ?_
  refine X_iconst hK dX3_init_58 ?_
  refine X_bipush hK dX3_init_59 (by decide) ?_
  refine X_iast hK hs_b18 (by decide) (by decide) sl_11100 (by omega) (by omega) (by omega) (by omega) dX3_init_61 (fun g22 hg22 => ?_)
  refine X_dup hK dX3_init_62 rfl ?_
  refine X_iconst hK dX3_init_63 ?_
  refine X_bipush hK dX3_init_64 (by decide) ?_
  refine X_iast hK hs_b18 (by decide) (by decide) sl_11100 (by omega) (by omega) (by omega) (by omega) dX3_init_66 (fun g23 hg23 => ?_)
  refine X_dup hK dX3_init_67 rfl ?_
  refine X_iconst hK dX3_init_68 ?_
  refine X_bipush hK dX3_init_69 (by decide) ?_
  refine X_iast hK hs_b18 (by decide) (by decide) sl_11100 (by omega) (by omega) (by omega) (by omega) dX3_init_71 (fun g24 hg24 => ?_)
  refine X_dup hK dX3_init_72 rfl ?_
  refine X_iconst hK dX3_init_73 ?_
  refine X_bipush hK dX3_init_74 (by decide) ?_
  refine X_iast hK hs_b18 (by decide) (by decide) sl_11100 (by omega) (by omega) (by omega) (by omega) dX3_init_76 (fun g25 hg25 => ?_)
  refine X_dup hK dX3_init_77 rfl ?_
  refine X_iconst hK dX3_init_78 ?_
  refine X_bipush hK dX3_init_79 (by decide) ?_
  refine X_iast hK hs_b18 (by decide) (by decide) sl_11100 (by omega) (by omega) (by omega) (by omega) dX3_init_81 (fun g26 hg26 => ?_)
  refine X_dup hK dX3_init_82 rfl ?_
  refine X_iconst hK dX3_init_83 ?_
  refine X_bipush hK dX3_init_84 (by decide) ?_
  refine X_iast hK hs_b18 (by decide) (by decide) sl_11100 (by omega) (by omega) (by omega) (by omega) dX3_init_86 (fun g27 hg27 => ?_)
  refine X_putF hK fl_X3_23_5004 (fun T9 N9 C9 h9 => by cases (Option.some.inj (h9.symm.trans (rfl : vwCl[4]? = some (RX3, TX3, 7)))); rfl) (hini rfl) hk21 (Or.inr (by decide)) (xokr 4 3 (by decide)) rfl rfl dX3_init_87 (fun g28 hg28 => ?_)
  refine X_aloadn hK (i := 0) 0 dX3_init_90 rfl rfl ?_
  refine X_bipush hK dX3_init_91 (by decide) ?_
  refine X_iconst hK dX3_init_93 ?_
  refine X_multi hK (N := 10) (M := 4) 11304 11200 m_4_13 m_3_14 (by decide) (by decide) sl_11304 sl_11200 (by decide) (by decide) (by omega) (by omega) dX3_init_94 (fun b29 S30 g31 nb29 qr32 wr32 hg31 hs_b29 grb29 => ?_)
  have hk33 := (qr32 _ _ (qb18 _ _ (qb10 _ _ (qr8 _ _ hs_b1))))
  refine X_putF hK fl_X3_26_5004 (fun T9 N9 C9 h9 => by cases (Option.some.inj (h9.symm.trans (rfl : vwCl[4]? = some (RX3, TX3, 7)))); rfl) (hini rfl) (qr32 _ _ hk21) (Or.inr (by decide)) (xokr 4 4 (by decide)) rfl rfl dX3_init_98 (fun g34 hg34 => ?_)
  refine X_aloadn hK (i := 0) 0 dX3_init_101 rfl rfl ?_
  refine X_bipush hK dX3_init_102 (by decide) ?_
  refine X_newa hK (ty := .int) 11400 0 (.int 0) rfl (fun _ => rfl) rfl (by decide) m_3_14 (by omega) ⟨by show _ * 4 ≤ _; omega, by omega⟩ (by omega) (by omega) (fun _ _ h9 => h9) (fun S9 k9 => by rw [sl_11400]; exact ⟨0, rfl, by decide, by decide⟩) dX3_init_104 (fun b35 S36 g37 zb35 nb35 hSb35 hg37 qb35 hs_b35 => ?_)
  have hk38 := (qb35 _ _ (qr32 _ _ (qb18 _ _ (qb10 _ _ hs_b5))))
  refine X_dup hK dX3_init_106 rfl ?_
  refine X_iconst hK dX3_init_107 ?_
  refine X_iconst hK dX3_init_108 ?_
  refine X_iast hK hs_b35 (by decide) (by decide) sl_11400 (by omega) (by omega) (by omega) (by omega) dX3_init_109 (fun g39 hg39 => ?_)
  refine X_dup hK dX3_init_110 rfl ?_
  refine X_iconst hK dX3_init_111 ?_
  refine X_iconst hK dX3_init_112 ?_
  refine X_iast hK hs_b35 (by decide) (by decide) sl_11400 (by omega) (by omega) (by omega) (by omega) dX3_init_113 (fun g40 hg40 => ?_)
  refine X_dup hK dX3_init_114 rfl ?_
  refine X_iconst hK dX3_init_115 ?_
  refine X_iconst hK dX3_init_116 ?_
  refine X_iast hK hs_b35 (by decide) (by decide) sl_11400 (by omega) (by omega) (by omega) (by omega) dX3_init_117 (fun g41 hg41 => ?_)
  refine X_dup hK dX3_init_118 rfl ?_
  refine X_iconst hK dX3_init_119 ?_
  refine X_iconst hK dX3_init_120 ?_
  refine X_iast hK hs_b35 (by decide) (by decide) sl_11400 (by omega) (by omega) (by omega) (by omega) dX3_init_121 (fun g42 hg42 => ?_)
  refine X_dup hK dX3_init_122 rfl ?_
  refine X_iconst hK dX3_init_123 ?_
  refine X_iconst hK dX3_init_124 ?_
  refine X_iast hK hs_b35 (by decide) (by decide) sl_11400 (by omega) (by omega) (by omega) (by omega) dX3_init_125 (fun g43 hg43 => ?_)
  refine X_dup hK dX3_init_126 rfl ?_
  refine X_iconst hK dX3_init_127 ?_
  refine X_iconst hK dX3_init_128 ?_
  refine X_iast hK hs_b35 (by decide) (by decide) sl_11400 (by omega) (by omega) (by omega) (by omega) dX3_init_129 (fun g44 hg44 => ?_)
  refine X_dup hK dX3_init_130 rfl ?_
  refine X_bipush hK dX3_init_131 (by decide) ?_
  refine X_iconst hK dX3_init_133 ?_
  refine X_iast hK hs_b35 (by decide) (by decide) sl_11400 (by omega) (by omega) (by omega) (by omega) dX3_init_134 (fun g45 hg45 => ?_)
  refine X_dup hK dX3_init_135 rfl ?_
  refine X_bipush hK dX3_init_136 (by decide) ?_
  refine X_iconst hK dX3_init_138 ?_
  refine X_iast hK hs_b35 (by decide) (by decide) sl_11400 (by omega) (by omega) (by omega) (by omega) dX3_init_139 (fun g46 hg46 => ?_)
  refine X_dup hK dX3_init_140 rfl ?_
  refine X_bipush hK dX3_init_141 (by decide) ?_
  refine X_iconst hK dX3_init_143 ?_
  refine X_iast hK hs_b35 (by decide) (by decide) sl_11400 (by omega) (by omega) (by omega) (by omega) dX3_init_144 (fun g47 hg47 => ?_)
  refine X_dup hK dX3_init_145 rfl ?_
  refine X_bipush hK dX3_init_146 (by decide) ?_
  refine X_iconst hK dX3_init_148 ?_
  refine X_iast hK hs_b35 (by decide) (by decide) sl_11400 (by omega) (by omega) (by omega) (by omega) dX3_init_149 (fun g48 hg48 => ?_)
  refine X_putF hK fl_X3_29_5004 (fun T9 N9 C9 h9 => by cases (Option.some.inj (h9.symm.trans (rfl : vwCl[4]? = some (RX3, TX3, 7)))); rfl) (hini rfl) (qb35 _ _ (qr32 _ _ hk21)) (Or.inr (by decide)) (xokr 4 5 (by decide)) rfl rfl dX3_init_150 (fun g49 hg49 => ?_)
  refine X_aloadn hK (i := 0) 0 dX3_init_153 rfl rfl ?_
  refine X_bipush hK dX3_init_154 (by decide) ?_
  refine X_bipush hK dX3_init_156 (by decide) ?_
  refine X_multi hK (N := 10) (M := 10) 11604 11500 m_4_13 m_3_14 (by decide) (by decide) sl_11604 sl_11500 (by decide) (by decide) (by omega) (by omega) dX3_init_158 (fun b50 S51 g52 nb50 qr53 wr53 hg52 hs_b50 grb50 => ?_)
  have hk54 := (qr53 _ _ (qb35 _ _ (qr32 _ _ (qb18 _ _ hs_b10))))
  refine X_putF hK fl_X3_32_5004 (fun T9 N9 C9 h9 => by cases (Option.some.inj (h9.symm.trans (rfl : vwCl[4]? = some (RX3, TX3, 7)))); rfl) (hini rfl) (qr53 _ _ (qb35 _ _ (qr32 _ _ hk21))) (Or.inr (by decide)) (xokr 4 6 (by decide)) rfl rfl dX3_init_162 (fun g55 hg55 => ?_)
  refine X_iconst hK dX3_init_165 ?_
  refine X_istoren hK (i := 1) [(1, .int (iI 0)), (0, .ref a0)] dX3_init_166 rfl (by decide) rfl ?_
  have P575 : ∀ (nP575 : Nat) (g489 : xG) (_ : xM [(11500, 0)] S51 g55 g489) (z488 : Int) (_ : 0 ≤ z488) (_ : z488 ≤ 10) (_ : 26 - z488 < (nP575 : Int)), X K E 167 [(1, .int (iI z488)), (0, .ref a0)] [] S51 g489 (((((((0 + 1) + 5) + 1) + 1) + 11) + 1) + 11) (((((((0 + (400 : Int).toNat) + 1604) + (4 : Int).toNat) + (6 : Int).toNat) + 50) + (10 : Int).toNat) + 110) := by
    intro nP575
    induction nP575 with
    | zero => intro g489 hg489 z488 lz488 uz488 mP575; exact False.elim (by omega)
    | succ nP575 ihP575 =>
      intro g489 hg489 z488 lz488 uz488 mP575
      refine X_iloadn hK (i := 1) 0 dX3_init_167 rfl rfl ?_
      refine X_bipush hK dX3_init_168 (by decide) ?_
      refine X_icmp_ge hK 212 (by omega) (by omega) dX3_init_170 (by decide) (fun c576 => ?_) (fun c576 => ?_)
      · exact hret _ _ _ _ _ _ dX3_init_212 ⟨(xNw2.tr (xNw2.tr (xNw2.tr (xNw2.tr (xNw2.tr (xNw2.tr (xNw2.tr xNw2.rf (hSb1 ▸ xNw2.set (by decide)) (fun _ h => h)) wr8 (by decide)) (hSb10 ▸ xNw2.set (by decide)) (fun _ h => h)) (hSb18 ▸ xNw2.set (by decide)) (fun _ h => h)) wr32 (by decide)) (hSb35 ▸ xNw2.set (by decide)) (fun _ h => h)) wr53 (by decide)), rfl, ⟨b1, b10, b18, b29, ((hg489 a0 5004 0 0 (qr53 _ _ (qb35 _ _ (qr32 _ _ hk21))) (by decide)).trans ((xs_k hg55 (by decide)).trans ((hg52 a0 5004 0 0 (qb35 _ _ (qr32 _ _ hk21)) (by decide)).trans ((xs_k hg49 (by decide)).trans ((xs_a hg48 (xne (qr53 _ _ (qb35 _ _ (qr32 _ _ hk21))) (qr53 _ _ hs_b35) (by decide))).trans ((xs_a hg47 (xne (qr53 _ _ (qb35 _ _ (qr32 _ _ hk21))) (qr53 _ _ hs_b35) (by decide))).trans ((xs_a hg46 (xne (qr53 _ _ (qb35 _ _ (qr32 _ _ hk21))) (qr53 _ _ hs_b35) (by decide))).trans ((xs_a hg45 (xne (qr53 _ _ (qb35 _ _ (qr32 _ _ hk21))) (qr53 _ _ hs_b35) (by decide))).trans ((xs_a hg44 (xne (qr53 _ _ (qb35 _ _ (qr32 _ _ hk21))) (qr53 _ _ hs_b35) (by decide))).trans ((xs_a hg43 (xne (qr53 _ _ (qb35 _ _ (qr32 _ _ hk21))) (qr53 _ _ hs_b35) (by decide))).trans ((xs_a hg42 (xne (qr53 _ _ (qb35 _ _ (qr32 _ _ hk21))) (qr53 _ _ hs_b35) (by decide))).trans ((xs_a hg41 (xne (qr53 _ _ (qb35 _ _ (qr32 _ _ hk21))) (qr53 _ _ hs_b35) (by decide))).trans ((xs_a hg40 (xne (qr53 _ _ (qb35 _ _ (qr32 _ _ hk21))) (qr53 _ _ hs_b35) (by decide))).trans ((xs_a hg39 (xne (qr53 _ _ (qb35 _ _ (qr32 _ _ hk21))) (qr53 _ _ hs_b35) (by decide))).trans ((xs_n hg37 (qr32 _ _ hk21) nb35).trans ((xs_k hg34 (by decide)).trans ((hg31 a0 5004 0 0 hk21 (by decide)).trans ((xs_k hg28 (by decide)).trans ((xs_a hg27 (xne (qr53 _ _ (qb35 _ _ (qr32 _ _ hk21))) (qr53 _ _ (qb35 _ _ (qr32 _ _ hs_b18))) (by decide))).trans ((xs_a hg26 (xne (qr53 _ _ (qb35 _ _ (qr32 _ _ hk21))) (qr53 _ _ (qb35 _ _ (qr32 _ _ hs_b18))) (by decide))).trans ((xs_a hg25 (xne (qr53 _ _ (qb35 _ _ (qr32 _ _ hk21))) (qr53 _ _ (qb35 _ _ (qr32 _ _ hs_b18))) (by decide))).trans ((xs_a hg24 (xne (qr53 _ _ (qb35 _ _ (qr32 _ _ hk21))) (qr53 _ _ (qb35 _ _ (qr32 _ _ hs_b18))) (by decide))).trans ((xs_a hg23 (xne (qr53 _ _ (qb35 _ _ (qr32 _ _ hk21))) (qr53 _ _ (qb35 _ _ (qr32 _ _ hs_b18))) (by decide))).trans ((xs_a hg22 (xne (qr53 _ _ (qb35 _ _ (qr32 _ _ hk21))) (qr53 _ _ (qb35 _ _ (qr32 _ _ hs_b18))) (by decide))).trans ((xs_n hg20 (qb10 _ _ (qr8 _ _ (qb1 _ _ hs_a0))) nb18).trans ((xs_k hg17 (by decide)).trans ((xs_a hg16 (xne (qr53 _ _ (qb35 _ _ (qr32 _ _ hk21))) hk54 (by decide))).trans ((xs_a hg15 (xne (qr53 _ _ (qb35 _ _ (qr32 _ _ hk21))) hk54 (by decide))).trans ((xs_a hg14 (xne (qr53 _ _ (qb35 _ _ (qr32 _ _ hk21))) hk54 (by decide))).trans ((xs_a hg13 (xne (qr53 _ _ (qb35 _ _ (qr32 _ _ hk21))) hk54 (by decide))).trans ((xs_n hg12 (qr8 _ _ (qb1 _ _ hs_a0)) nb10).trans ((xs_k hg9 (by decide)).trans ((hg7 a0 5004 0 0 (qb1 _ _ hs_a0) (by decide)).trans (xs_s hg4)))))))))))))))))))))))))))))))))), (qr53 _ _ (qb35 _ _ hk33)), (by rw [(Eq.trans (Eq.trans (Eq.trans (Eq.trans (Eq.trans (Eq.trans (Eq.trans (Eq.trans (Eq.trans (Eq.trans (Eq.trans (Eq.trans (Eq.trans (Eq.trans (Eq.trans (Eq.trans (Eq.trans (Eq.trans (Eq.trans (Eq.trans (Eq.trans (Eq.trans (Eq.trans (Eq.trans (Eq.trans (Eq.trans (Eq.trans (Eq.trans (Eq.trans (Eq.trans (Eq.trans (Eq.trans (Eq.trans (xv_m hg489 (qr53 _ _ (qb35 _ _ hk33)) (by decide) (by decide)) (xv_a hg55 (xne (qr53 _ _ (qb35 _ _ hk33)) (qr53 _ _ (qb35 _ _ (qr32 _ _ hk21))) (by decide)))) (xv_m hg52 (qb35 _ _ hk33) (by decide) (by decide))) (xv_a hg49 (xne (qr53 _ _ (qb35 _ _ hk33)) (qr53 _ _ (qb35 _ _ (qr32 _ _ hk21))) (by decide)))) (xv_a hg48 (xne (qr53 _ _ (qb35 _ _ hk33)) (qr53 _ _ hs_b35) (by decide)))) (xv_a hg47 (xne (qr53 _ _ (qb35 _ _ hk33)) (qr53 _ _ hs_b35) (by decide)))) (xv_a hg46 (xne (qr53 _ _ (qb35 _ _ hk33)) (qr53 _ _ hs_b35) (by decide)))) (xv_a hg45 (xne (qr53 _ _ (qb35 _ _ hk33)) (qr53 _ _ hs_b35) (by decide)))) (xv_a hg44 (xne (qr53 _ _ (qb35 _ _ hk33)) (qr53 _ _ hs_b35) (by decide)))) (xv_a hg43 (xne (qr53 _ _ (qb35 _ _ hk33)) (qr53 _ _ hs_b35) (by decide)))) (xv_a hg42 (xne (qr53 _ _ (qb35 _ _ hk33)) (qr53 _ _ hs_b35) (by decide)))) (xv_a hg41 (xne (qr53 _ _ (qb35 _ _ hk33)) (qr53 _ _ hs_b35) (by decide)))) (xv_a hg40 (xne (qr53 _ _ (qb35 _ _ hk33)) (qr53 _ _ hs_b35) (by decide)))) (xv_a hg39 (xne (qr53 _ _ (qb35 _ _ hk33)) (qr53 _ _ hs_b35) (by decide)))) (xv_n hg37 hk33 nb35)) (xv_a hg34 (xne (qr53 _ _ (qb35 _ _ hk33)) (qr53 _ _ (qb35 _ _ (qr32 _ _ hk21))) (by decide)))) (xv_m hg31 (qb18 _ _ (qb10 _ _ (qr8 _ _ hs_b1))) (by decide) (by decide))) (xv_a hg28 (xne (qr53 _ _ (qb35 _ _ hk33)) (qr53 _ _ (qb35 _ _ (qr32 _ _ hk21))) (by decide)))) (xv_a hg27 (xne (qr53 _ _ (qb35 _ _ hk33)) (qr53 _ _ (qb35 _ _ (qr32 _ _ hs_b18))) (by decide)))) (xv_a hg26 (xne (qr53 _ _ (qb35 _ _ hk33)) (qr53 _ _ (qb35 _ _ (qr32 _ _ hs_b18))) (by decide)))) (xv_a hg25 (xne (qr53 _ _ (qb35 _ _ hk33)) (qr53 _ _ (qb35 _ _ (qr32 _ _ hs_b18))) (by decide)))) (xv_a hg24 (xne (qr53 _ _ (qb35 _ _ hk33)) (qr53 _ _ (qb35 _ _ (qr32 _ _ hs_b18))) (by decide)))) (xv_a hg23 (xne (qr53 _ _ (qb35 _ _ hk33)) (qr53 _ _ (qb35 _ _ (qr32 _ _ hs_b18))) (by decide)))) (xv_a hg22 (xne (qr53 _ _ (qb35 _ _ hk33)) (qr53 _ _ (qb35 _ _ (qr32 _ _ hs_b18))) (by decide)))) (xv_n hg20 (qb10 _ _ (qr8 _ _ hs_b1)) nb18)) (xv_a hg17 (xne (qr53 _ _ (qb35 _ _ hk33)) (qr53 _ _ (qb35 _ _ (qr32 _ _ hk21))) (by decide)))) (xv_a hg16 (xne (qr53 _ _ (qb35 _ _ hk33)) hk54 (by decide)))) (xv_a hg15 (xne (qr53 _ _ (qb35 _ _ hk33)) hk54 (by decide)))) (xv_a hg14 (xne (qr53 _ _ (qb35 _ _ hk33)) hk54 (by decide)))) (xv_a hg13 (xne (qr53 _ _ (qb35 _ _ hk33)) hk54 (by decide)))) (xv_n hg12 (qr8 _ _ hs_b1) nb10)) (xv_a hg9 (xne (qr53 _ _ (qb35 _ _ hk33)) (qr53 _ _ (qb35 _ _ (qr32 _ _ hk21))) (by decide)))) (xv_m hg7 hs_b1 (by decide) (by decide))) (xv_a hg4 (xne (qr53 _ _ (qb35 _ _ hk33)) (qr53 _ _ (qb35 _ _ (qr32 _ _ hk21))) (by decide))))]; exact (xv_z hg3)), ((hg489 a0 5004 0 2 (qr53 _ _ (qb35 _ _ (qr32 _ _ hk21))) (by decide)).trans ((xs_k hg55 (by decide)).trans ((hg52 a0 5004 0 2 (qb35 _ _ (qr32 _ _ hk21)) (by decide)).trans ((xs_k hg49 (by decide)).trans ((xs_a hg48 (xne (qr53 _ _ (qb35 _ _ (qr32 _ _ hk21))) (qr53 _ _ hs_b35) (by decide))).trans ((xs_a hg47 (xne (qr53 _ _ (qb35 _ _ (qr32 _ _ hk21))) (qr53 _ _ hs_b35) (by decide))).trans ((xs_a hg46 (xne (qr53 _ _ (qb35 _ _ (qr32 _ _ hk21))) (qr53 _ _ hs_b35) (by decide))).trans ((xs_a hg45 (xne (qr53 _ _ (qb35 _ _ (qr32 _ _ hk21))) (qr53 _ _ hs_b35) (by decide))).trans ((xs_a hg44 (xne (qr53 _ _ (qb35 _ _ (qr32 _ _ hk21))) (qr53 _ _ hs_b35) (by decide))).trans ((xs_a hg43 (xne (qr53 _ _ (qb35 _ _ (qr32 _ _ hk21))) (qr53 _ _ hs_b35) (by decide))).trans ((xs_a hg42 (xne (qr53 _ _ (qb35 _ _ (qr32 _ _ hk21))) (qr53 _ _ hs_b35) (by decide))).trans ((xs_a hg41 (xne (qr53 _ _ (qb35 _ _ (qr32 _ _ hk21))) (qr53 _ _ hs_b35) (by decide))).trans ((xs_a hg40 (xne (qr53 _ _ (qb35 _ _ (qr32 _ _ hk21))) (qr53 _ _ hs_b35) (by decide))).trans ((xs_a hg39 (xne (qr53 _ _ (qb35 _ _ (qr32 _ _ hk21))) (qr53 _ _ hs_b35) (by decide))).trans ((xs_n hg37 (qr32 _ _ hk21) nb35).trans ((xs_k hg34 (by decide)).trans ((hg31 a0 5004 0 2 hk21 (by decide)).trans ((xs_k hg28 (by decide)).trans ((xs_a hg27 (xne (qr53 _ _ (qb35 _ _ (qr32 _ _ hk21))) (qr53 _ _ (qb35 _ _ (qr32 _ _ hs_b18))) (by decide))).trans ((xs_a hg26 (xne (qr53 _ _ (qb35 _ _ (qr32 _ _ hk21))) (qr53 _ _ (qb35 _ _ (qr32 _ _ hs_b18))) (by decide))).trans ((xs_a hg25 (xne (qr53 _ _ (qb35 _ _ (qr32 _ _ hk21))) (qr53 _ _ (qb35 _ _ (qr32 _ _ hs_b18))) (by decide))).trans ((xs_a hg24 (xne (qr53 _ _ (qb35 _ _ (qr32 _ _ hk21))) (qr53 _ _ (qb35 _ _ (qr32 _ _ hs_b18))) (by decide))).trans ((xs_a hg23 (xne (qr53 _ _ (qb35 _ _ (qr32 _ _ hk21))) (qr53 _ _ (qb35 _ _ (qr32 _ _ hs_b18))) (by decide))).trans ((xs_a hg22 (xne (qr53 _ _ (qb35 _ _ (qr32 _ _ hk21))) (qr53 _ _ (qb35 _ _ (qr32 _ _ hs_b18))) (by decide))).trans ((xs_n hg20 (qb10 _ _ (qr8 _ _ (qb1 _ _ hs_a0))) nb18).trans (xs_s hg17)))))))))))))))))))))))))), hk54, (x4all (show xv g489 b10 0 = 100 from by rw [(xv_m hg489 hk54 (by decide) (by decide)), (xv_a hg55 (xne hk54 (qr53 _ _ (qb35 _ _ (qr32 _ _ hk21))) (by decide))), (xv_m hg52 (qb35 _ _ (qr32 _ _ (qb18 _ _ hs_b10))) (by decide) (by decide)), (xv_a hg49 (xne hk54 (qr53 _ _ (qb35 _ _ (qr32 _ _ hk21))) (by decide))), (xv_a hg48 (xne hk54 (qr53 _ _ hs_b35) (by decide))), (xv_a hg47 (xne hk54 (qr53 _ _ hs_b35) (by decide))), (xv_a hg46 (xne hk54 (qr53 _ _ hs_b35) (by decide))), (xv_a hg45 (xne hk54 (qr53 _ _ hs_b35) (by decide))), (xv_a hg44 (xne hk54 (qr53 _ _ hs_b35) (by decide))), (xv_a hg43 (xne hk54 (qr53 _ _ hs_b35) (by decide))), (xv_a hg42 (xne hk54 (qr53 _ _ hs_b35) (by decide))), (xv_a hg41 (xne hk54 (qr53 _ _ hs_b35) (by decide))), (xv_a hg40 (xne hk54 (qr53 _ _ hs_b35) (by decide))), (xv_a hg39 (xne hk54 (qr53 _ _ hs_b35) (by decide))), (xv_n hg37 (qr32 _ _ (qb18 _ _ hs_b10)) nb35), (xv_a hg34 (xne hk54 (qr53 _ _ (qb35 _ _ (qr32 _ _ hk21))) (by decide))), (xv_m hg31 (qb18 _ _ hs_b10) (by decide) (by decide)), (xv_a hg28 (xne hk54 (qr53 _ _ (qb35 _ _ (qr32 _ _ hk21))) (by decide))), (xv_a hg27 (xne hk54 (qr53 _ _ (qb35 _ _ (qr32 _ _ hs_b18))) (by decide))), (xv_a hg26 (xne hk54 (qr53 _ _ (qb35 _ _ (qr32 _ _ hs_b18))) (by decide))), (xv_a hg25 (xne hk54 (qr53 _ _ (qb35 _ _ (qr32 _ _ hs_b18))) (by decide))), (xv_a hg24 (xne hk54 (qr53 _ _ (qb35 _ _ (qr32 _ _ hs_b18))) (by decide))), (xv_a hg23 (xne hk54 (qr53 _ _ (qb35 _ _ (qr32 _ _ hs_b18))) (by decide))), (xv_a hg22 (xne hk54 (qr53 _ _ (qb35 _ _ (qr32 _ _ hs_b18))) (by decide))), (xv_n hg20 hs_b10 nb18), (xv_a hg17 (xne hk54 (qr53 _ _ (qb35 _ _ (qr32 _ _ hk21))) (by decide))), (xv_k (i := 0) hg16 (by omega) (by omega) (by omega)), (xv_k (i := 0) hg15 (by omega) (by omega) (by omega)), (xv_k (i := 0) hg14 (by omega) (by omega) (by omega)), xv_s hg13 (by omega)]) (show xv g489 b10 1 = 100 from by rw [(xv_m hg489 hk54 (by decide) (by decide)), (xv_a hg55 (xne hk54 (qr53 _ _ (qb35 _ _ (qr32 _ _ hk21))) (by decide))), (xv_m hg52 (qb35 _ _ (qr32 _ _ (qb18 _ _ hs_b10))) (by decide) (by decide)), (xv_a hg49 (xne hk54 (qr53 _ _ (qb35 _ _ (qr32 _ _ hk21))) (by decide))), (xv_a hg48 (xne hk54 (qr53 _ _ hs_b35) (by decide))), (xv_a hg47 (xne hk54 (qr53 _ _ hs_b35) (by decide))), (xv_a hg46 (xne hk54 (qr53 _ _ hs_b35) (by decide))), (xv_a hg45 (xne hk54 (qr53 _ _ hs_b35) (by decide))), (xv_a hg44 (xne hk54 (qr53 _ _ hs_b35) (by decide))), (xv_a hg43 (xne hk54 (qr53 _ _ hs_b35) (by decide))), (xv_a hg42 (xne hk54 (qr53 _ _ hs_b35) (by decide))), (xv_a hg41 (xne hk54 (qr53 _ _ hs_b35) (by decide))), (xv_a hg40 (xne hk54 (qr53 _ _ hs_b35) (by decide))), (xv_a hg39 (xne hk54 (qr53 _ _ hs_b35) (by decide))), (xv_n hg37 (qr32 _ _ (qb18 _ _ hs_b10)) nb35), (xv_a hg34 (xne hk54 (qr53 _ _ (qb35 _ _ (qr32 _ _ hk21))) (by decide))), (xv_m hg31 (qb18 _ _ hs_b10) (by decide) (by decide)), (xv_a hg28 (xne hk54 (qr53 _ _ (qb35 _ _ (qr32 _ _ hk21))) (by decide))), (xv_a hg27 (xne hk54 (qr53 _ _ (qb35 _ _ (qr32 _ _ hs_b18))) (by decide))), (xv_a hg26 (xne hk54 (qr53 _ _ (qb35 _ _ (qr32 _ _ hs_b18))) (by decide))), (xv_a hg25 (xne hk54 (qr53 _ _ (qb35 _ _ (qr32 _ _ hs_b18))) (by decide))), (xv_a hg24 (xne hk54 (qr53 _ _ (qb35 _ _ (qr32 _ _ hs_b18))) (by decide))), (xv_a hg23 (xne hk54 (qr53 _ _ (qb35 _ _ (qr32 _ _ hs_b18))) (by decide))), (xv_a hg22 (xne hk54 (qr53 _ _ (qb35 _ _ (qr32 _ _ hs_b18))) (by decide))), (xv_n hg20 hs_b10 nb18), (xv_a hg17 (xne hk54 (qr53 _ _ (qb35 _ _ (qr32 _ _ hk21))) (by decide))), (xv_k (i := 1) hg16 (by omega) (by omega) (by omega)), (xv_k (i := 1) hg15 (by omega) (by omega) (by omega)), xv_s hg14 (by omega)]) (show xv g489 b10 2 = 100 from by rw [(xv_m hg489 hk54 (by decide) (by decide)), (xv_a hg55 (xne hk54 (qr53 _ _ (qb35 _ _ (qr32 _ _ hk21))) (by decide))), (xv_m hg52 (qb35 _ _ (qr32 _ _ (qb18 _ _ hs_b10))) (by decide) (by decide)), (xv_a hg49 (xne hk54 (qr53 _ _ (qb35 _ _ (qr32 _ _ hk21))) (by decide))), (xv_a hg48 (xne hk54 (qr53 _ _ hs_b35) (by decide))), (xv_a hg47 (xne hk54 (qr53 _ _ hs_b35) (by decide))), (xv_a hg46 (xne hk54 (qr53 _ _ hs_b35) (by decide))), (xv_a hg45 (xne hk54 (qr53 _ _ hs_b35) (by decide))), (xv_a hg44 (xne hk54 (qr53 _ _ hs_b35) (by decide))), (xv_a hg43 (xne hk54 (qr53 _ _ hs_b35) (by decide))), (xv_a hg42 (xne hk54 (qr53 _ _ hs_b35) (by decide))), (xv_a hg41 (xne hk54 (qr53 _ _ hs_b35) (by decide))), (xv_a hg40 (xne hk54 (qr53 _ _ hs_b35) (by decide))), (xv_a hg39 (xne hk54 (qr53 _ _ hs_b35) (by decide))), (xv_n hg37 (qr32 _ _ (qb18 _ _ hs_b10)) nb35), (xv_a hg34 (xne hk54 (qr53 _ _ (qb35 _ _ (qr32 _ _ hk21))) (by decide))), (xv_m hg31 (qb18 _ _ hs_b10) (by decide) (by decide)), (xv_a hg28 (xne hk54 (qr53 _ _ (qb35 _ _ (qr32 _ _ hk21))) (by decide))), (xv_a hg27 (xne hk54 (qr53 _ _ (qb35 _ _ (qr32 _ _ hs_b18))) (by decide))), (xv_a hg26 (xne hk54 (qr53 _ _ (qb35 _ _ (qr32 _ _ hs_b18))) (by decide))), (xv_a hg25 (xne hk54 (qr53 _ _ (qb35 _ _ (qr32 _ _ hs_b18))) (by decide))), (xv_a hg24 (xne hk54 (qr53 _ _ (qb35 _ _ (qr32 _ _ hs_b18))) (by decide))), (xv_a hg23 (xne hk54 (qr53 _ _ (qb35 _ _ (qr32 _ _ hs_b18))) (by decide))), (xv_a hg22 (xne hk54 (qr53 _ _ (qb35 _ _ (qr32 _ _ hs_b18))) (by decide))), (xv_n hg20 hs_b10 nb18), (xv_a hg17 (xne hk54 (qr53 _ _ (qb35 _ _ (qr32 _ _ hk21))) (by decide))), (xv_k (i := 2) hg16 (by omega) (by omega) (by omega)), xv_s hg15 (by omega)]) (show xv g489 b10 3 = 100 from by rw [(xv_m hg489 hk54 (by decide) (by decide)), (xv_a hg55 (xne hk54 (qr53 _ _ (qb35 _ _ (qr32 _ _ hk21))) (by decide))), (xv_m hg52 (qb35 _ _ (qr32 _ _ (qb18 _ _ hs_b10))) (by decide) (by decide)), (xv_a hg49 (xne hk54 (qr53 _ _ (qb35 _ _ (qr32 _ _ hk21))) (by decide))), (xv_a hg48 (xne hk54 (qr53 _ _ hs_b35) (by decide))), (xv_a hg47 (xne hk54 (qr53 _ _ hs_b35) (by decide))), (xv_a hg46 (xne hk54 (qr53 _ _ hs_b35) (by decide))), (xv_a hg45 (xne hk54 (qr53 _ _ hs_b35) (by decide))), (xv_a hg44 (xne hk54 (qr53 _ _ hs_b35) (by decide))), (xv_a hg43 (xne hk54 (qr53 _ _ hs_b35) (by decide))), (xv_a hg42 (xne hk54 (qr53 _ _ hs_b35) (by decide))), (xv_a hg41 (xne hk54 (qr53 _ _ hs_b35) (by decide))), (xv_a hg40 (xne hk54 (qr53 _ _ hs_b35) (by decide))), (xv_a hg39 (xne hk54 (qr53 _ _ hs_b35) (by decide))), (xv_n hg37 (qr32 _ _ (qb18 _ _ hs_b10)) nb35), (xv_a hg34 (xne hk54 (qr53 _ _ (qb35 _ _ (qr32 _ _ hk21))) (by decide))), (xv_m hg31 (qb18 _ _ hs_b10) (by decide) (by decide)), (xv_a hg28 (xne hk54 (qr53 _ _ (qb35 _ _ (qr32 _ _ hk21))) (by decide))), (xv_a hg27 (xne hk54 (qr53 _ _ (qb35 _ _ (qr32 _ _ hs_b18))) (by decide))), (xv_a hg26 (xne hk54 (qr53 _ _ (qb35 _ _ (qr32 _ _ hs_b18))) (by decide))), (xv_a hg25 (xne hk54 (qr53 _ _ (qb35 _ _ (qr32 _ _ hs_b18))) (by decide))), (xv_a hg24 (xne hk54 (qr53 _ _ (qb35 _ _ (qr32 _ _ hs_b18))) (by decide))), (xv_a hg23 (xne hk54 (qr53 _ _ (qb35 _ _ (qr32 _ _ hs_b18))) (by decide))), (xv_a hg22 (xne hk54 (qr53 _ _ (qb35 _ _ (qr32 _ _ hs_b18))) (by decide))), (xv_n hg20 hs_b10 nb18), (xv_a hg17 (xne hk54 (qr53 _ _ (qb35 _ _ (qr32 _ _ hk21))) (by decide))), xv_s hg16 (by omega)])), ((hg489 a0 5004 0 3 (qr53 _ _ (qb35 _ _ (qr32 _ _ hk21))) (by decide)).trans ((xs_k hg55 (by decide)).trans ((hg52 a0 5004 0 3 (qb35 _ _ (qr32 _ _ hk21)) (by decide)).trans ((xs_k hg49 (by decide)).trans ((xs_a hg48 (xne (qr53 _ _ (qb35 _ _ (qr32 _ _ hk21))) (qr53 _ _ hs_b35) (by decide))).trans ((xs_a hg47 (xne (qr53 _ _ (qb35 _ _ (qr32 _ _ hk21))) (qr53 _ _ hs_b35) (by decide))).trans ((xs_a hg46 (xne (qr53 _ _ (qb35 _ _ (qr32 _ _ hk21))) (qr53 _ _ hs_b35) (by decide))).trans ((xs_a hg45 (xne (qr53 _ _ (qb35 _ _ (qr32 _ _ hk21))) (qr53 _ _ hs_b35) (by decide))).trans ((xs_a hg44 (xne (qr53 _ _ (qb35 _ _ (qr32 _ _ hk21))) (qr53 _ _ hs_b35) (by decide))).trans ((xs_a hg43 (xne (qr53 _ _ (qb35 _ _ (qr32 _ _ hk21))) (qr53 _ _ hs_b35) (by decide))).trans ((xs_a hg42 (xne (qr53 _ _ (qb35 _ _ (qr32 _ _ hk21))) (qr53 _ _ hs_b35) (by decide))).trans ((xs_a hg41 (xne (qr53 _ _ (qb35 _ _ (qr32 _ _ hk21))) (qr53 _ _ hs_b35) (by decide))).trans ((xs_a hg40 (xne (qr53 _ _ (qb35 _ _ (qr32 _ _ hk21))) (qr53 _ _ hs_b35) (by decide))).trans ((xs_a hg39 (xne (qr53 _ _ (qb35 _ _ (qr32 _ _ hk21))) (qr53 _ _ hs_b35) (by decide))).trans ((xs_n hg37 (qr32 _ _ hk21) nb35).trans ((xs_k hg34 (by decide)).trans ((hg31 a0 5004 0 3 hk21 (by decide)).trans (xs_s hg28)))))))))))))))))), (qr53 _ _ (qb35 _ _ (qr32 _ _ hs_b18))), (x6all (show xv g489 b18 0 = 100 from by rw [(xv_m hg489 (qr53 _ _ (qb35 _ _ (qr32 _ _ hs_b18))) (by decide) (by decide)), (xv_a hg55 (xne (qr53 _ _ (qb35 _ _ (qr32 _ _ hs_b18))) (qr53 _ _ (qb35 _ _ (qr32 _ _ hk21))) (by decide))), (xv_m hg52 (qb35 _ _ (qr32 _ _ hs_b18)) (by decide) (by decide)), (xv_a hg49 (xne (qr53 _ _ (qb35 _ _ (qr32 _ _ hs_b18))) (qr53 _ _ (qb35 _ _ (qr32 _ _ hk21))) (by decide))), (xv_a hg48 (xne (qr53 _ _ (qb35 _ _ (qr32 _ _ hs_b18))) (qr53 _ _ hs_b35) (by decide))), (xv_a hg47 (xne (qr53 _ _ (qb35 _ _ (qr32 _ _ hs_b18))) (qr53 _ _ hs_b35) (by decide))), (xv_a hg46 (xne (qr53 _ _ (qb35 _ _ (qr32 _ _ hs_b18))) (qr53 _ _ hs_b35) (by decide))), (xv_a hg45 (xne (qr53 _ _ (qb35 _ _ (qr32 _ _ hs_b18))) (qr53 _ _ hs_b35) (by decide))), (xv_a hg44 (xne (qr53 _ _ (qb35 _ _ (qr32 _ _ hs_b18))) (qr53 _ _ hs_b35) (by decide))), (xv_a hg43 (xne (qr53 _ _ (qb35 _ _ (qr32 _ _ hs_b18))) (qr53 _ _ hs_b35) (by decide))), (xv_a hg42 (xne (qr53 _ _ (qb35 _ _ (qr32 _ _ hs_b18))) (qr53 _ _ hs_b35) (by decide))), (xv_a hg41 (xne (qr53 _ _ (qb35 _ _ (qr32 _ _ hs_b18))) (qr53 _ _ hs_b35) (by decide))), (xv_a hg40 (xne (qr53 _ _ (qb35 _ _ (qr32 _ _ hs_b18))) (qr53 _ _ hs_b35) (by decide))), (xv_a hg39 (xne (qr53 _ _ (qb35 _ _ (qr32 _ _ hs_b18))) (qr53 _ _ hs_b35) (by decide))), (xv_n hg37 (qr32 _ _ hs_b18) nb35), (xv_a hg34 (xne (qr53 _ _ (qb35 _ _ (qr32 _ _ hs_b18))) (qr53 _ _ (qb35 _ _ (qr32 _ _ hk21))) (by decide))), (xv_m hg31 hs_b18 (by decide) (by decide)), (xv_a hg28 (xne (qr53 _ _ (qb35 _ _ (qr32 _ _ hs_b18))) (qr53 _ _ (qb35 _ _ (qr32 _ _ hk21))) (by decide))), (xv_k (i := 0) hg27 (by omega) (by omega) (by omega)), (xv_k (i := 0) hg26 (by omega) (by omega) (by omega)), (xv_k (i := 0) hg25 (by omega) (by omega) (by omega)), (xv_k (i := 0) hg24 (by omega) (by omega) (by omega)), (xv_k (i := 0) hg23 (by omega) (by omega) (by omega)), xv_s hg22 (by omega)]) (show xv g489 b18 1 = 100 from by rw [(xv_m hg489 (qr53 _ _ (qb35 _ _ (qr32 _ _ hs_b18))) (by decide) (by decide)), (xv_a hg55 (xne (qr53 _ _ (qb35 _ _ (qr32 _ _ hs_b18))) (qr53 _ _ (qb35 _ _ (qr32 _ _ hk21))) (by decide))), (xv_m hg52 (qb35 _ _ (qr32 _ _ hs_b18)) (by decide) (by decide)), (xv_a hg49 (xne (qr53 _ _ (qb35 _ _ (qr32 _ _ hs_b18))) (qr53 _ _ (qb35 _ _ (qr32 _ _ hk21))) (by decide))), (xv_a hg48 (xne (qr53 _ _ (qb35 _ _ (qr32 _ _ hs_b18))) (qr53 _ _ hs_b35) (by decide))), (xv_a hg47 (xne (qr53 _ _ (qb35 _ _ (qr32 _ _ hs_b18))) (qr53 _ _ hs_b35) (by decide))), (xv_a hg46 (xne (qr53 _ _ (qb35 _ _ (qr32 _ _ hs_b18))) (qr53 _ _ hs_b35) (by decide))), (xv_a hg45 (xne (qr53 _ _ (qb35 _ _ (qr32 _ _ hs_b18))) (qr53 _ _ hs_b35) (by decide))), (xv_a hg44 (xne (qr53 _ _ (qb35 _ _ (qr32 _ _ hs_b18))) (qr53 _ _ hs_b35) (by decide))), (xv_a hg43 (xne (qr53 _ _ (qb35 _ _ (qr32 _ _ hs_b18))) (qr53 _ _ hs_b35) (by decide))), (xv_a hg42 (xne (qr53 _ _ (qb35 _ _ (qr32 _ _ hs_b18))) (qr53 _ _ hs_b35) (by decide))), (xv_a hg41 (xne (qr53 _ _ (qb35 _ _ (qr32 _ _ hs_b18))) (qr53 _ _ hs_b35) (by decide))), (xv_a hg40 (xne (qr53 _ _ (qb35 _ _ (qr32 _ _ hs_b18))) (qr53 _ _ hs_b35) (by decide))), (xv_a hg39 (xne (qr53 _ _ (qb35 _ _ (qr32 _ _ hs_b18))) (qr53 _ _ hs_b35) (by decide))), (xv_n hg37 (qr32 _ _ hs_b18) nb35), (xv_a hg34 (xne (qr53 _ _ (qb35 _ _ (qr32 _ _ hs_b18))) (qr53 _ _ (qb35 _ _ (qr32 _ _ hk21))) (by decide))), (xv_m hg31 hs_b18 (by decide) (by decide)), (xv_a hg28 (xne (qr53 _ _ (qb35 _ _ (qr32 _ _ hs_b18))) (qr53 _ _ (qb35 _ _ (qr32 _ _ hk21))) (by decide))), (xv_k (i := 1) hg27 (by omega) (by omega) (by omega)), (xv_k (i := 1) hg26 (by omega) (by omega) (by omega)), (xv_k (i := 1) hg25 (by omega) (by omega) (by omega)), (xv_k (i := 1) hg24 (by omega) (by omega) (by omega)), xv_s hg23 (by omega)]) (show xv g489 b18 2 = 100 from by rw [(xv_m hg489 (qr53 _ _ (qb35 _ _ (qr32 _ _ hs_b18))) (by decide) (by decide)), (xv_a hg55 (xne (qr53 _ _ (qb35 _ _ (qr32 _ _ hs_b18))) (qr53 _ _ (qb35 _ _ (qr32 _ _ hk21))) (by decide))), (xv_m hg52 (qb35 _ _ (qr32 _ _ hs_b18)) (by decide) (by decide)), (xv_a hg49 (xne (qr53 _ _ (qb35 _ _ (qr32 _ _ hs_b18))) (qr53 _ _ (qb35 _ _ (qr32 _ _ hk21))) (by decide))), (xv_a hg48 (xne (qr53 _ _ (qb35 _ _ (qr32 _ _ hs_b18))) (qr53 _ _ hs_b35) (by decide))), (xv_a hg47 (xne (qr53 _ _ (qb35 _ _ (qr32 _ _ hs_b18))) (qr53 _ _ hs_b35) (by decide))), (xv_a hg46 (xne (qr53 _ _ (qb35 _ _ (qr32 _ _ hs_b18))) (qr53 _ _ hs_b35) (by decide))), (xv_a hg45 (xne (qr53 _ _ (qb35 _ _ (qr32 _ _ hs_b18))) (qr53 _ _ hs_b35) (by decide))), (xv_a hg44 (xne (qr53 _ _ (qb35 _ _ (qr32 _ _ hs_b18))) (qr53 _ _ hs_b35) (by decide))), (xv_a hg43 (xne (qr53 _ _ (qb35 _ _ (qr32 _ _ hs_b18))) (qr53 _ _ hs_b35) (by decide))), (xv_a hg42 (xne (qr53 _ _ (qb35 _ _ (qr32 _ _ hs_b18))) (qr53 _ _ hs_b35) (by decide))), (xv_a hg41 (xne (qr53 _ _ (qb35 _ _ (qr32 _ _ hs_b18))) (qr53 _ _ hs_b35) (by decide))), (xv_a hg40 (xne (qr53 _ _ (qb35 _ _ (qr32 _ _ hs_b18))) (qr53 _ _ hs_b35) (by decide))), (xv_a hg39 (xne (qr53 _ _ (qb35 _ _ (qr32 _ _ hs_b18))) (qr53 _ _ hs_b35) (by decide))), (xv_n hg37 (qr32 _ _ hs_b18) nb35), (xv_a hg34 (xne (qr53 _ _ (qb35 _ _ (qr32 _ _ hs_b18))) (qr53 _ _ (qb35 _ _ (qr32 _ _ hk21))) (by decide))), (xv_m hg31 hs_b18 (by decide) (by decide)), (xv_a hg28 (xne (qr53 _ _ (qb35 _ _ (qr32 _ _ hs_b18))) (qr53 _ _ (qb35 _ _ (qr32 _ _ hk21))) (by decide))), (xv_k (i := 2) hg27 (by omega) (by omega) (by omega)), (xv_k (i := 2) hg26 (by omega) (by omega) (by omega)), (xv_k (i := 2) hg25 (by omega) (by omega) (by omega)), xv_s hg24 (by omega)]) (show xv g489 b18 3 = 100 from by rw [(xv_m hg489 (qr53 _ _ (qb35 _ _ (qr32 _ _ hs_b18))) (by decide) (by decide)), (xv_a hg55 (xne (qr53 _ _ (qb35 _ _ (qr32 _ _ hs_b18))) (qr53 _ _ (qb35 _ _ (qr32 _ _ hk21))) (by decide))), (xv_m hg52 (qb35 _ _ (qr32 _ _ hs_b18)) (by decide) (by decide)), (xv_a hg49 (xne (qr53 _ _ (qb35 _ _ (qr32 _ _ hs_b18))) (qr53 _ _ (qb35 _ _ (qr32 _ _ hk21))) (by decide))), (xv_a hg48 (xne (qr53 _ _ (qb35 _ _ (qr32 _ _ hs_b18))) (qr53 _ _ hs_b35) (by decide))), (xv_a hg47 (xne (qr53 _ _ (qb35 _ _ (qr32 _ _ hs_b18))) (qr53 _ _ hs_b35) (by decide))), (xv_a hg46 (xne (qr53 _ _ (qb35 _ _ (qr32 _ _ hs_b18))) (qr53 _ _ hs_b35) (by decide))), (xv_a hg45 (xne (qr53 _ _ (qb35 _ _ (qr32 _ _ hs_b18))) (qr53 _ _ hs_b35) (by decide))), (xv_a hg44 (xne (qr53 _ _ (qb35 _ _ (qr32 _ _ hs_b18))) (qr53 _ _ hs_b35) (by decide))), (xv_a hg43 (xne (qr53 _ _ (qb35 _ _ (qr32 _ _ hs_b18))) (qr53 _ _ hs_b35) (by decide))), (xv_a hg42 (xne (qr53 _ _ (qb35 _ _ (qr32 _ _ hs_b18))) (qr53 _ _ hs_b35) (by decide))), (xv_a hg41 (xne (qr53 _ _ (qb35 _ _ (qr32 _ _ hs_b18))) (qr53 _ _ hs_b35) (by decide))), (xv_a hg40 (xne (qr53 _ _ (qb35 _ _ (qr32 _ _ hs_b18))) (qr53 _ _ hs_b35) (by decide))), (xv_a hg39 (xne (qr53 _ _ (qb35 _ _ (qr32 _ _ hs_b18))) (qr53 _ _ hs_b35) (by decide))), (xv_n hg37 (qr32 _ _ hs_b18) nb35), (xv_a hg34 (xne (qr53 _ _ (qb35 _ _ (qr32 _ _ hs_b18))) (qr53 _ _ (qb35 _ _ (qr32 _ _ hk21))) (by decide))), (xv_m hg31 hs_b18 (by decide) (by decide)), (xv_a hg28 (xne (qr53 _ _ (qb35 _ _ (qr32 _ _ hs_b18))) (qr53 _ _ (qb35 _ _ (qr32 _ _ hk21))) (by decide))), (xv_k (i := 3) hg27 (by omega) (by omega) (by omega)), (xv_k (i := 3) hg26 (by omega) (by omega) (by omega)), xv_s hg25 (by omega)]) (show xv g489 b18 4 = 100 from by rw [(xv_m hg489 (qr53 _ _ (qb35 _ _ (qr32 _ _ hs_b18))) (by decide) (by decide)), (xv_a hg55 (xne (qr53 _ _ (qb35 _ _ (qr32 _ _ hs_b18))) (qr53 _ _ (qb35 _ _ (qr32 _ _ hk21))) (by decide))), (xv_m hg52 (qb35 _ _ (qr32 _ _ hs_b18)) (by decide) (by decide)), (xv_a hg49 (xne (qr53 _ _ (qb35 _ _ (qr32 _ _ hs_b18))) (qr53 _ _ (qb35 _ _ (qr32 _ _ hk21))) (by decide))), (xv_a hg48 (xne (qr53 _ _ (qb35 _ _ (qr32 _ _ hs_b18))) (qr53 _ _ hs_b35) (by decide))), (xv_a hg47 (xne (qr53 _ _ (qb35 _ _ (qr32 _ _ hs_b18))) (qr53 _ _ hs_b35) (by decide))), (xv_a hg46 (xne (qr53 _ _ (qb35 _ _ (qr32 _ _ hs_b18))) (qr53 _ _ hs_b35) (by decide))), (xv_a hg45 (xne (qr53 _ _ (qb35 _ _ (qr32 _ _ hs_b18))) (qr53 _ _ hs_b35) (by decide))), (xv_a hg44 (xne (qr53 _ _ (qb35 _ _ (qr32 _ _ hs_b18))) (qr53 _ _ hs_b35) (by decide))), (xv_a hg43 (xne (qr53 _ _ (qb35 _ _ (qr32 _ _ hs_b18))) (qr53 _ _ hs_b35) (by decide))), (xv_a hg42 (xne (qr53 _ _ (qb35 _ _ (qr32 _ _ hs_b18))) (qr53 _ _ hs_b35) (by decide))), (xv_a hg41 (xne (qr53 _ _ (qb35 _ _ (qr32 _ _ hs_b18))) (qr53 _ _ hs_b35) (by decide))), (xv_a hg40 (xne (qr53 _ _ (qb35 _ _ (qr32 _ _ hs_b18))) (qr53 _ _ hs_b35) (by decide))), (xv_a hg39 (xne (qr53 _ _ (qb35 _ _ (qr32 _ _ hs_b18))) (qr53 _ _ hs_b35) (by decide))), (xv_n hg37 (qr32 _ _ hs_b18) nb35), (xv_a hg34 (xne (qr53 _ _ (qb35 _ _ (qr32 _ _ hs_b18))) (qr53 _ _ (qb35 _ _ (qr32 _ _ hk21))) (by decide))), (xv_m hg31 hs_b18 (by decide) (by decide)), (xv_a hg28 (xne (qr53 _ _ (qb35 _ _ (qr32 _ _ hs_b18))) (qr53 _ _ (qb35 _ _ (qr32 _ _ hk21))) (by decide))), (xv_k (i := 4) hg27 (by omega) (by omega) (by omega)), xv_s hg26 (by omega)]) (show xv g489 b18 5 = 100 from by rw [(xv_m hg489 (qr53 _ _ (qb35 _ _ (qr32 _ _ hs_b18))) (by decide) (by decide)), (xv_a hg55 (xne (qr53 _ _ (qb35 _ _ (qr32 _ _ hs_b18))) (qr53 _ _ (qb35 _ _ (qr32 _ _ hk21))) (by decide))), (xv_m hg52 (qb35 _ _ (qr32 _ _ hs_b18)) (by decide) (by decide)), (xv_a hg49 (xne (qr53 _ _ (qb35 _ _ (qr32 _ _ hs_b18))) (qr53 _ _ (qb35 _ _ (qr32 _ _ hk21))) (by decide))), (xv_a hg48 (xne (qr53 _ _ (qb35 _ _ (qr32 _ _ hs_b18))) (qr53 _ _ hs_b35) (by decide))), (xv_a hg47 (xne (qr53 _ _ (qb35 _ _ (qr32 _ _ hs_b18))) (qr53 _ _ hs_b35) (by decide))), (xv_a hg46 (xne (qr53 _ _ (qb35 _ _ (qr32 _ _ hs_b18))) (qr53 _ _ hs_b35) (by decide))), (xv_a hg45 (xne (qr53 _ _ (qb35 _ _ (qr32 _ _ hs_b18))) (qr53 _ _ hs_b35) (by decide))), (xv_a hg44 (xne (qr53 _ _ (qb35 _ _ (qr32 _ _ hs_b18))) (qr53 _ _ hs_b35) (by decide))), (xv_a hg43 (xne (qr53 _ _ (qb35 _ _ (qr32 _ _ hs_b18))) (qr53 _ _ hs_b35) (by decide))), (xv_a hg42 (xne (qr53 _ _ (qb35 _ _ (qr32 _ _ hs_b18))) (qr53 _ _ hs_b35) (by decide))), (xv_a hg41 (xne (qr53 _ _ (qb35 _ _ (qr32 _ _ hs_b18))) (qr53 _ _ hs_b35) (by decide))), (xv_a hg40 (xne (qr53 _ _ (qb35 _ _ (qr32 _ _ hs_b18))) (qr53 _ _ hs_b35) (by decide))), (xv_a hg39 (xne (qr53 _ _ (qb35 _ _ (qr32 _ _ hs_b18))) (qr53 _ _ hs_b35) (by decide))), (xv_n hg37 (qr32 _ _ hs_b18) nb35), (xv_a hg34 (xne (qr53 _ _ (qb35 _ _ (qr32 _ _ hs_b18))) (qr53 _ _ (qb35 _ _ (qr32 _ _ hk21))) (by decide))), (xv_m hg31 hs_b18 (by decide) (by decide)), (xv_a hg28 (xne (qr53 _ _ (qb35 _ _ (qr32 _ _ hs_b18))) (qr53 _ _ (qb35 _ _ (qr32 _ _ hk21))) (by decide))), xv_s hg27 (by omega)])), ((hg489 a0 5004 0 4 (qr53 _ _ (qb35 _ _ (qr32 _ _ hk21))) (by decide)).trans ((xs_k hg55 (by decide)).trans ((hg52 a0 5004 0 4 (qb35 _ _ (qr32 _ _ hk21)) (by decide)).trans ((xs_k hg49 (by decide)).trans ((xs_a hg48 (xne (qr53 _ _ (qb35 _ _ (qr32 _ _ hk21))) (qr53 _ _ hs_b35) (by decide))).trans ((xs_a hg47 (xne (qr53 _ _ (qb35 _ _ (qr32 _ _ hk21))) (qr53 _ _ hs_b35) (by decide))).trans ((xs_a hg46 (xne (qr53 _ _ (qb35 _ _ (qr32 _ _ hk21))) (qr53 _ _ hs_b35) (by decide))).trans ((xs_a hg45 (xne (qr53 _ _ (qb35 _ _ (qr32 _ _ hk21))) (qr53 _ _ hs_b35) (by decide))).trans ((xs_a hg44 (xne (qr53 _ _ (qb35 _ _ (qr32 _ _ hk21))) (qr53 _ _ hs_b35) (by decide))).trans ((xs_a hg43 (xne (qr53 _ _ (qb35 _ _ (qr32 _ _ hk21))) (qr53 _ _ hs_b35) (by decide))).trans ((xs_a hg42 (xne (qr53 _ _ (qb35 _ _ (qr32 _ _ hk21))) (qr53 _ _ hs_b35) (by decide))).trans ((xs_a hg41 (xne (qr53 _ _ (qb35 _ _ (qr32 _ _ hk21))) (qr53 _ _ hs_b35) (by decide))).trans ((xs_a hg40 (xne (qr53 _ _ (qb35 _ _ (qr32 _ _ hk21))) (qr53 _ _ hs_b35) (by decide))).trans ((xs_a hg39 (xne (qr53 _ _ (qb35 _ _ (qr32 _ _ hk21))) (qr53 _ _ hs_b35) (by decide))).trans ((xs_n hg37 (qr32 _ _ hk21) nb35).trans (xs_s hg34)))))))))))))))), (qr53 _ _ (qb35 _ _ hs_b29)), (xGr.s (by have lt578 := (xLt.le qb35); have lt579 := xLt.tr lt578 (xLt.le qr53); have gr577 := xGr.u grb29 lt579 (qr53 _ _ (qb35 _ _ hs_b29)) (by decide) hg34 (qr53 _ _ (qb35 _ _ (qr32 _ _ hk21))) (by decide) (by decide); have gr580 := xGr.n gr577 xLt.rf hs_b29 (by decide) hg37 nb35; have gr581 := xGr.u gr580 lt579 (qr53 _ _ (qb35 _ _ hs_b29)) (by decide) hg39 (qr53 _ _ hs_b35) (by decide) (by decide); have gr582 := xGr.u gr581 lt579 (qr53 _ _ (qb35 _ _ hs_b29)) (by decide) hg40 (qr53 _ _ hs_b35) (by decide) (by decide); have gr583 := xGr.u gr582 lt579 (qr53 _ _ (qb35 _ _ hs_b29)) (by decide) hg41 (qr53 _ _ hs_b35) (by decide) (by decide); have gr584 := xGr.u gr583 lt579 (qr53 _ _ (qb35 _ _ hs_b29)) (by decide) hg42 (qr53 _ _ hs_b35) (by decide) (by decide); have gr585 := xGr.u gr584 lt579 (qr53 _ _ (qb35 _ _ hs_b29)) (by decide) hg43 (qr53 _ _ hs_b35) (by decide) (by decide); have gr586 := xGr.u gr585 lt579 (qr53 _ _ (qb35 _ _ hs_b29)) (by decide) hg44 (qr53 _ _ hs_b35) (by decide) (by decide); have gr587 := xGr.u gr586 lt579 (qr53 _ _ (qb35 _ _ hs_b29)) (by decide) hg45 (qr53 _ _ hs_b35) (by decide) (by decide); have gr588 := xGr.u gr587 lt579 (qr53 _ _ (qb35 _ _ hs_b29)) (by decide) hg46 (qr53 _ _ hs_b35) (by decide) (by decide); have gr589 := xGr.u gr588 lt579 (qr53 _ _ (qb35 _ _ hs_b29)) (by decide) hg47 (qr53 _ _ hs_b35) (by decide) (by decide); have gr590 := xGr.u gr589 lt579 (qr53 _ _ (qb35 _ _ hs_b29)) (by decide) hg48 (qr53 _ _ hs_b35) (by decide) (by decide); have gr591 := xGr.u gr590 lt579 (qr53 _ _ (qb35 _ _ hs_b29)) (by decide) hg49 (qr53 _ _ (qb35 _ _ (qr32 _ _ hk21))) (by decide) (by decide); have gr592 := xGr.m gr591 lt578 (qb35 _ _ hs_b29) (by decide) hg52 (by decide) (by decide); have gr593 := xGr.u gr592 lt579 (qr53 _ _ (qb35 _ _ hs_b29)) (by decide) hg55 (qr53 _ _ (qb35 _ _ (qr32 _ _ hk21))) (by decide) (by decide); have gr594 := xGr.m gr593 lt579 (qr53 _ _ (qb35 _ _ hs_b29)) (by decide) hg489 (by decide) (by decide); exact gr594) (xLt.tr (xLt.le qb35) (xLt.le qr53)) (by decide))⟩, (by omega), (fun k9 => match k9 with | 0 => xk1 10700 400 sl_4_0 ((hg489 a0 5004 0 0 (qr53 _ _ (qb35 _ _ (qr32 _ _ hk21))) (by decide)).trans ((xs_k hg55 (by decide)).trans ((hg52 a0 5004 0 0 (qb35 _ _ (qr32 _ _ hk21)) (by decide)).trans ((xs_k hg49 (by decide)).trans ((xs_a hg48 (xne (qr53 _ _ (qb35 _ _ (qr32 _ _ hk21))) (qr53 _ _ hs_b35) (by decide))).trans ((xs_a hg47 (xne (qr53 _ _ (qb35 _ _ (qr32 _ _ hk21))) (qr53 _ _ hs_b35) (by decide))).trans ((xs_a hg46 (xne (qr53 _ _ (qb35 _ _ (qr32 _ _ hk21))) (qr53 _ _ hs_b35) (by decide))).trans ((xs_a hg45 (xne (qr53 _ _ (qb35 _ _ (qr32 _ _ hk21))) (qr53 _ _ hs_b35) (by decide))).trans ((xs_a hg44 (xne (qr53 _ _ (qb35 _ _ (qr32 _ _ hk21))) (qr53 _ _ hs_b35) (by decide))).trans ((xs_a hg43 (xne (qr53 _ _ (qb35 _ _ (qr32 _ _ hk21))) (qr53 _ _ hs_b35) (by decide))).trans ((xs_a hg42 (xne (qr53 _ _ (qb35 _ _ (qr32 _ _ hk21))) (qr53 _ _ hs_b35) (by decide))).trans ((xs_a hg41 (xne (qr53 _ _ (qb35 _ _ (qr32 _ _ hk21))) (qr53 _ _ hs_b35) (by decide))).trans ((xs_a hg40 (xne (qr53 _ _ (qb35 _ _ (qr32 _ _ hk21))) (qr53 _ _ hs_b35) (by decide))).trans ((xs_a hg39 (xne (qr53 _ _ (qb35 _ _ (qr32 _ _ hk21))) (qr53 _ _ hs_b35) (by decide))).trans ((xs_n hg37 (qr32 _ _ hk21) nb35).trans ((xs_k hg34 (by decide)).trans ((hg31 a0 5004 0 0 hk21 (by decide)).trans ((xs_k hg28 (by decide)).trans ((xs_a hg27 (xne (qr53 _ _ (qb35 _ _ (qr32 _ _ hk21))) (qr53 _ _ (qb35 _ _ (qr32 _ _ hs_b18))) (by decide))).trans ((xs_a hg26 (xne (qr53 _ _ (qb35 _ _ (qr32 _ _ hk21))) (qr53 _ _ (qb35 _ _ (qr32 _ _ hs_b18))) (by decide))).trans ((xs_a hg25 (xne (qr53 _ _ (qb35 _ _ (qr32 _ _ hk21))) (qr53 _ _ (qb35 _ _ (qr32 _ _ hs_b18))) (by decide))).trans ((xs_a hg24 (xne (qr53 _ _ (qb35 _ _ (qr32 _ _ hk21))) (qr53 _ _ (qb35 _ _ (qr32 _ _ hs_b18))) (by decide))).trans ((xs_a hg23 (xne (qr53 _ _ (qb35 _ _ (qr32 _ _ hk21))) (qr53 _ _ (qb35 _ _ (qr32 _ _ hs_b18))) (by decide))).trans ((xs_a hg22 (xne (qr53 _ _ (qb35 _ _ (qr32 _ _ hk21))) (qr53 _ _ (qb35 _ _ (qr32 _ _ hs_b18))) (by decide))).trans ((xs_n hg20 (qb10 _ _ (qr8 _ _ (qb1 _ _ hs_a0))) nb18).trans ((xs_k hg17 (by decide)).trans ((xs_a hg16 (xne (qr53 _ _ (qb35 _ _ (qr32 _ _ hk21))) hk54 (by decide))).trans ((xs_a hg15 (xne (qr53 _ _ (qb35 _ _ (qr32 _ _ hk21))) hk54 (by decide))).trans ((xs_a hg14 (xne (qr53 _ _ (qb35 _ _ (qr32 _ _ hk21))) hk54 (by decide))).trans ((xs_a hg13 (xne (qr53 _ _ (qb35 _ _ (qr32 _ _ hk21))) hk54 (by decide))).trans ((xs_n hg12 (qr8 _ _ (qb1 _ _ hs_a0)) nb10).trans ((xs_k hg9 (by decide)).trans ((hg7 a0 5004 0 0 (qb1 _ _ hs_a0) (by decide)).trans (xs_s hg4)))))))))))))))))))))))))))))))))) (qr53 _ _ (qb35 _ _ hk33)) | 1 => xk1 10904 4 sl_4_1 ((hg489 a0 5004 0 1 (qr53 _ _ (qb35 _ _ (qr32 _ _ hk21))) (by decide)).trans ((xs_k hg55 (by decide)).trans ((hg52 a0 5004 0 1 (qb35 _ _ (qr32 _ _ hk21)) (by decide)).trans ((xs_k hg49 (by decide)).trans ((xs_a hg48 (xne (qr53 _ _ (qb35 _ _ (qr32 _ _ hk21))) (qr53 _ _ hs_b35) (by decide))).trans ((xs_a hg47 (xne (qr53 _ _ (qb35 _ _ (qr32 _ _ hk21))) (qr53 _ _ hs_b35) (by decide))).trans ((xs_a hg46 (xne (qr53 _ _ (qb35 _ _ (qr32 _ _ hk21))) (qr53 _ _ hs_b35) (by decide))).trans ((xs_a hg45 (xne (qr53 _ _ (qb35 _ _ (qr32 _ _ hk21))) (qr53 _ _ hs_b35) (by decide))).trans ((xs_a hg44 (xne (qr53 _ _ (qb35 _ _ (qr32 _ _ hk21))) (qr53 _ _ hs_b35) (by decide))).trans ((xs_a hg43 (xne (qr53 _ _ (qb35 _ _ (qr32 _ _ hk21))) (qr53 _ _ hs_b35) (by decide))).trans ((xs_a hg42 (xne (qr53 _ _ (qb35 _ _ (qr32 _ _ hk21))) (qr53 _ _ hs_b35) (by decide))).trans ((xs_a hg41 (xne (qr53 _ _ (qb35 _ _ (qr32 _ _ hk21))) (qr53 _ _ hs_b35) (by decide))).trans ((xs_a hg40 (xne (qr53 _ _ (qb35 _ _ (qr32 _ _ hk21))) (qr53 _ _ hs_b35) (by decide))).trans ((xs_a hg39 (xne (qr53 _ _ (qb35 _ _ (qr32 _ _ hk21))) (qr53 _ _ hs_b35) (by decide))).trans ((xs_n hg37 (qr32 _ _ hk21) nb35).trans ((xs_k hg34 (by decide)).trans ((hg31 a0 5004 0 1 hk21 (by decide)).trans ((xs_k hg28 (by decide)).trans ((xs_a hg27 (xne (qr53 _ _ (qb35 _ _ (qr32 _ _ hk21))) (qr53 _ _ (qb35 _ _ (qr32 _ _ hs_b18))) (by decide))).trans ((xs_a hg26 (xne (qr53 _ _ (qb35 _ _ (qr32 _ _ hk21))) (qr53 _ _ (qb35 _ _ (qr32 _ _ hs_b18))) (by decide))).trans ((xs_a hg25 (xne (qr53 _ _ (qb35 _ _ (qr32 _ _ hk21))) (qr53 _ _ (qb35 _ _ (qr32 _ _ hs_b18))) (by decide))).trans ((xs_a hg24 (xne (qr53 _ _ (qb35 _ _ (qr32 _ _ hk21))) (qr53 _ _ (qb35 _ _ (qr32 _ _ hs_b18))) (by decide))).trans ((xs_a hg23 (xne (qr53 _ _ (qb35 _ _ (qr32 _ _ hk21))) (qr53 _ _ (qb35 _ _ (qr32 _ _ hs_b18))) (by decide))).trans ((xs_a hg22 (xne (qr53 _ _ (qb35 _ _ (qr32 _ _ hk21))) (qr53 _ _ (qb35 _ _ (qr32 _ _ hs_b18))) (by decide))).trans ((xs_n hg20 (qb10 _ _ (qr8 _ _ (qb1 _ _ hs_a0))) nb18).trans ((xs_k hg17 (by decide)).trans ((xs_a hg16 (xne (qr53 _ _ (qb35 _ _ (qr32 _ _ hk21))) hk54 (by decide))).trans ((xs_a hg15 (xne (qr53 _ _ (qb35 _ _ (qr32 _ _ hk21))) hk54 (by decide))).trans ((xs_a hg14 (xne (qr53 _ _ (qb35 _ _ (qr32 _ _ hk21))) hk54 (by decide))).trans ((xs_a hg13 (xne (qr53 _ _ (qb35 _ _ (qr32 _ _ hk21))) hk54 (by decide))).trans ((xs_n hg12 (qr8 _ _ (qb1 _ _ hs_a0)) nb10).trans (xs_s hg9)))))))))))))))))))))))))))))))) (qr53 _ _ hk38) | 2 => xk1 11000 4 sl_4_2 ((hg489 a0 5004 0 2 (qr53 _ _ (qb35 _ _ (qr32 _ _ hk21))) (by decide)).trans ((xs_k hg55 (by decide)).trans ((hg52 a0 5004 0 2 (qb35 _ _ (qr32 _ _ hk21)) (by decide)).trans ((xs_k hg49 (by decide)).trans ((xs_a hg48 (xne (qr53 _ _ (qb35 _ _ (qr32 _ _ hk21))) (qr53 _ _ hs_b35) (by decide))).trans ((xs_a hg47 (xne (qr53 _ _ (qb35 _ _ (qr32 _ _ hk21))) (qr53 _ _ hs_b35) (by decide))).trans ((xs_a hg46 (xne (qr53 _ _ (qb35 _ _ (qr32 _ _ hk21))) (qr53 _ _ hs_b35) (by decide))).trans ((xs_a hg45 (xne (qr53 _ _ (qb35 _ _ (qr32 _ _ hk21))) (qr53 _ _ hs_b35) (by decide))).trans ((xs_a hg44 (xne (qr53 _ _ (qb35 _ _ (qr32 _ _ hk21))) (qr53 _ _ hs_b35) (by decide))).trans ((xs_a hg43 (xne (qr53 _ _ (qb35 _ _ (qr32 _ _ hk21))) (qr53 _ _ hs_b35) (by decide))).trans ((xs_a hg42 (xne (qr53 _ _ (qb35 _ _ (qr32 _ _ hk21))) (qr53 _ _ hs_b35) (by decide))).trans ((xs_a hg41 (xne (qr53 _ _ (qb35 _ _ (qr32 _ _ hk21))) (qr53 _ _ hs_b35) (by decide))).trans ((xs_a hg40 (xne (qr53 _ _ (qb35 _ _ (qr32 _ _ hk21))) (qr53 _ _ hs_b35) (by decide))).trans ((xs_a hg39 (xne (qr53 _ _ (qb35 _ _ (qr32 _ _ hk21))) (qr53 _ _ hs_b35) (by decide))).trans ((xs_n hg37 (qr32 _ _ hk21) nb35).trans ((xs_k hg34 (by decide)).trans ((hg31 a0 5004 0 2 hk21 (by decide)).trans ((xs_k hg28 (by decide)).trans ((xs_a hg27 (xne (qr53 _ _ (qb35 _ _ (qr32 _ _ hk21))) (qr53 _ _ (qb35 _ _ (qr32 _ _ hs_b18))) (by decide))).trans ((xs_a hg26 (xne (qr53 _ _ (qb35 _ _ (qr32 _ _ hk21))) (qr53 _ _ (qb35 _ _ (qr32 _ _ hs_b18))) (by decide))).trans ((xs_a hg25 (xne (qr53 _ _ (qb35 _ _ (qr32 _ _ hk21))) (qr53 _ _ (qb35 _ _ (qr32 _ _ hs_b18))) (by decide))).trans ((xs_a hg24 (xne (qr53 _ _ (qb35 _ _ (qr32 _ _ hk21))) (qr53 _ _ (qb35 _ _ (qr32 _ _ hs_b18))) (by decide))).trans ((xs_a hg23 (xne (qr53 _ _ (qb35 _ _ (qr32 _ _ hk21))) (qr53 _ _ (qb35 _ _ (qr32 _ _ hs_b18))) (by decide))).trans ((xs_a hg22 (xne (qr53 _ _ (qb35 _ _ (qr32 _ _ hk21))) (qr53 _ _ (qb35 _ _ (qr32 _ _ hs_b18))) (by decide))).trans ((xs_n hg20 (qb10 _ _ (qr8 _ _ (qb1 _ _ hs_a0))) nb18).trans (xs_s hg17)))))))))))))))))))))))))) hk54 | 3 => xk1 11100 6 sl_4_3 ((hg489 a0 5004 0 3 (qr53 _ _ (qb35 _ _ (qr32 _ _ hk21))) (by decide)).trans ((xs_k hg55 (by decide)).trans ((hg52 a0 5004 0 3 (qb35 _ _ (qr32 _ _ hk21)) (by decide)).trans ((xs_k hg49 (by decide)).trans ((xs_a hg48 (xne (qr53 _ _ (qb35 _ _ (qr32 _ _ hk21))) (qr53 _ _ hs_b35) (by decide))).trans ((xs_a hg47 (xne (qr53 _ _ (qb35 _ _ (qr32 _ _ hk21))) (qr53 _ _ hs_b35) (by decide))).trans ((xs_a hg46 (xne (qr53 _ _ (qb35 _ _ (qr32 _ _ hk21))) (qr53 _ _ hs_b35) (by decide))).trans ((xs_a hg45 (xne (qr53 _ _ (qb35 _ _ (qr32 _ _ hk21))) (qr53 _ _ hs_b35) (by decide))).trans ((xs_a hg44 (xne (qr53 _ _ (qb35 _ _ (qr32 _ _ hk21))) (qr53 _ _ hs_b35) (by decide))).trans ((xs_a hg43 (xne (qr53 _ _ (qb35 _ _ (qr32 _ _ hk21))) (qr53 _ _ hs_b35) (by decide))).trans ((xs_a hg42 (xne (qr53 _ _ (qb35 _ _ (qr32 _ _ hk21))) (qr53 _ _ hs_b35) (by decide))).trans ((xs_a hg41 (xne (qr53 _ _ (qb35 _ _ (qr32 _ _ hk21))) (qr53 _ _ hs_b35) (by decide))).trans ((xs_a hg40 (xne (qr53 _ _ (qb35 _ _ (qr32 _ _ hk21))) (qr53 _ _ hs_b35) (by decide))).trans ((xs_a hg39 (xne (qr53 _ _ (qb35 _ _ (qr32 _ _ hk21))) (qr53 _ _ hs_b35) (by decide))).trans ((xs_n hg37 (qr32 _ _ hk21) nb35).trans ((xs_k hg34 (by decide)).trans ((hg31 a0 5004 0 3 hk21 (by decide)).trans (xs_s hg28)))))))))))))))))) (qr53 _ _ (qb35 _ _ (qr32 _ _ hs_b18))) | 4 => xk1 11304 10 sl_4_4 ((hg489 a0 5004 0 4 (qr53 _ _ (qb35 _ _ (qr32 _ _ hk21))) (by decide)).trans ((xs_k hg55 (by decide)).trans ((hg52 a0 5004 0 4 (qb35 _ _ (qr32 _ _ hk21)) (by decide)).trans ((xs_k hg49 (by decide)).trans ((xs_a hg48 (xne (qr53 _ _ (qb35 _ _ (qr32 _ _ hk21))) (qr53 _ _ hs_b35) (by decide))).trans ((xs_a hg47 (xne (qr53 _ _ (qb35 _ _ (qr32 _ _ hk21))) (qr53 _ _ hs_b35) (by decide))).trans ((xs_a hg46 (xne (qr53 _ _ (qb35 _ _ (qr32 _ _ hk21))) (qr53 _ _ hs_b35) (by decide))).trans ((xs_a hg45 (xne (qr53 _ _ (qb35 _ _ (qr32 _ _ hk21))) (qr53 _ _ hs_b35) (by decide))).trans ((xs_a hg44 (xne (qr53 _ _ (qb35 _ _ (qr32 _ _ hk21))) (qr53 _ _ hs_b35) (by decide))).trans ((xs_a hg43 (xne (qr53 _ _ (qb35 _ _ (qr32 _ _ hk21))) (qr53 _ _ hs_b35) (by decide))).trans ((xs_a hg42 (xne (qr53 _ _ (qb35 _ _ (qr32 _ _ hk21))) (qr53 _ _ hs_b35) (by decide))).trans ((xs_a hg41 (xne (qr53 _ _ (qb35 _ _ (qr32 _ _ hk21))) (qr53 _ _ hs_b35) (by decide))).trans ((xs_a hg40 (xne (qr53 _ _ (qb35 _ _ (qr32 _ _ hk21))) (qr53 _ _ hs_b35) (by decide))).trans ((xs_a hg39 (xne (qr53 _ _ (qb35 _ _ (qr32 _ _ hk21))) (qr53 _ _ hs_b35) (by decide))).trans ((xs_n hg37 (qr32 _ _ hk21) nb35).trans (xs_s hg34)))))))))))))))) (qr53 _ _ (qb35 _ _ hs_b29)) | 5 => xk1 11400 10 sl_4_5 ((hg489 a0 5004 0 5 (qr53 _ _ (qb35 _ _ (qr32 _ _ hk21))) (by decide)).trans ((xs_k hg55 (by decide)).trans ((hg52 a0 5004 0 5 (qb35 _ _ (qr32 _ _ hk21)) (by decide)).trans (xs_s hg49)))) (qr53 _ _ hs_b35) | 6 => xk1 11604 10 sl_4_6 ((hg489 a0 5004 0 6 (qr53 _ _ (qb35 _ _ (qr32 _ _ hk21))) (by decide)).trans (xs_s hg55)) hs_b50 | n9 + 7 => xk9 (by rfl))⟩ (by omega) (by omega)
      · refine X_iconst hK dX3_init_173 ?_
        refine X_istoren hK (i := 2) [(2, .int (iI 0)), (1, .int (iI z488)), (0, .ref a0)] dX3_init_174 rfl (by decide) rfl ?_
        have P667 : ∀ (nP667 : Nat) (g655 : xG) (_ : xM [(11500, 0)] S51 g489 g655) (z654 : Int) (_ : 0 ≤ z654) (_ : z654 ≤ 10) (_ : 26 - z654 < (nP667 : Int)), X K E 175 [(2, .int (iI z654)), (1, .int (iI z488)), (0, .ref a0)] [] S51 g655 (((((((0 + 1) + 5) + 1) + 1) + 11) + 1) + 11) (((((((0 + (400 : Int).toNat) + 1604) + (4 : Int).toNat) + (6 : Int).toNat) + 50) + (10 : Int).toNat) + 110) := by
          intro nP667
          induction nP667 with
          | zero => intro g655 hg655 z654 lz654 uz654 mP667; exact False.elim (by omega)
          | succ nP667 ihP667 =>
            intro g655 hg655 z654 lz654 uz654 mP667
            refine X_iloadn hK (i := 2) 0 dX3_init_175 rfl rfl ?_
            refine X_bipush hK dX3_init_176 (by decide) ?_
            refine X_icmp_ge hK 206 (by omega) (by omega) dX3_init_178 (by decide) (fun c668 => ?_) (fun c668 => ?_)
            · refine X_iinc hK (i := 1) (z := z488) (n := 1) 1 [(1, .int (iI (z488 + 1))), (2, .int (iI z654)), (0, .ref a0)] dX3_init_206 rfl (by decide) rfl ?_
              refine X_goto hK 167 dX3_init_209 (by decide) ?_
              refine X_lv [(1, .int (iI (z488 + 1))), (0, .ref a0)] [0, 2] rfl ?_
              exact ihP575  g655 (xM.tr (xM.tr xM.rf xLe.rf hg489 (by decide)) xLe.rf hg655 (by decide)) (z488 + 1) (by omega) (by omega) (by omega)
            · refine X_aloadn hK (i := 0) 2 dX3_init_181 rfl rfl ?_
              refine X_getK hK fl_X3_32_5004 (qr53 _ _ (qb35 _ _ (qr32 _ _ hk21))) ((hg655 a0 5004 0 6 (qr53 _ _ (qb35 _ _ (qr32 _ _ hk21))) (by decide)).trans ((hg489 a0 5004 0 6 (qr53 _ _ (qb35 _ _ (qr32 _ _ hk21))) (by decide)).trans (xs_s hg55))) dX3_init_182 ?_
              refine X_iloadn hK (i := 1) 1 dX3_init_185 rfl rfl ?_
              refine X_aald hK 11500 10 hs_b50 (by decide) sl_11604 (by omega) (by omega) dX3_init_186 (fun b674 eb674 hs_b674 => ?_)
              refine X_iloadn hK (i := 2) 0 dX3_init_187 rfl rfl ?_
              refine X_iloadn hK (i := 1) 1 dX3_init_188 rfl rfl ?_
              refine X_iloadn hK (i := 2) 0 dX3_init_189 rfl rfl ?_
              have J677 : ∀ (z676 : Int) (lz676 : 0 ≤ z676) (uz676 : z676 ≤ 10), X K E 199 [(2, .int (iI z654)), (1, .int (iI z488)), (0, .ref a0)] [.int (iI z676), .int (iI z654), .ref b674] S51 g655 (((((((0 + 1) + 5) + 1) + 1) + 11) + 1) + 11) (((((((0 + (400 : Int).toNat) + 1604) + (4 : Int).toNat) + (6 : Int).toNat) + 50) + (10 : Int).toNat) + 110) := by
                intro z676 lz676 uz676
                refine X_iast hK hs_b674 (by decide) (by decide) sl_11500 (by omega) (by omega) (by omega) (by omega) dX3_init_199 (fun g678 hg678 => ?_)
                refine X_iinc hK (i := 2) (z := z654) (n := 1) 0 [(2, .int (iI (z654 + 1))), (1, .int (iI z488)), (0, .ref a0)] dX3_init_200 rfl (by decide) rfl ?_
                refine X_goto hK 175 dX3_init_203 (by decide) ?_
                exact ihP667  g678 (xM_ua (xM.tr xM.rf xLe.rf hg655 (by decide)) hg678 hs_b674 (by decide) (by decide)) (z654 + 1) (by omega) (by omega) (by omega)
              refine X_icmp_ne hK 197 (by omega) (by omega) dX3_init_190 (by decide) (fun c675 => ?_) (fun c675 => ?_)
              · refine X_bipush hK dX3_init_197 (by decide) ?_
                exact J677 10 (by omega) (by omega)
              · refine X_iconst hK dX3_init_193 ?_
                refine X_goto hK 199 dX3_init_194 (by decide) ?_
                exact J677 0 (by omega) (by omega)
        exact P667 ((26 - 0 : Int).toNat + 1) g489 xM.rf 0 (by omega) (by omega) (by omega)
  exact P575 ((26 - 0 : Int).toNat + 1) g55 xM.rf 0 (by omega) (by omega) (by omega)

set_option maxHeartbeats 4000000 in
set_option maxRecDepth 100000 in
theorem c_X5_init (l : Launch) (D : va_G) (kA : Nat → ClassId) (b0 : Nat) (t0 : Nat → Nat) (S : xT) (g : xG) (a0 : Nat) (hs_a0 : S a0 = some (5006, 0)) (hp0 : xAb S) (hp1 : S (t0 0) = some (20003, 0)) : xMu l yX5_init cX5_init 1 none 4 36 2212 72 D kA b0 t0 [(5004, 0), (5004, 1), (11000, 0), (5004, 2), (11100, 0), (5004, 3), (5004, 4), (11400, 0), (5004, 5), (5004, 6), (11500, 0), (5006, 0), (5000, 0), (5000, 1), (5006, 1), (5006, 2), (5006, 3), (5006, 4), (5006, 5), (5006, 6), (5006, 7)] [.ref a0] S g (fun (r : Option Value) (S1 : xT) (g1 : xG) (dc ds : Nat) => xNw2 S S1 [5004, 4, 10700, 10904, 10800, 11000, 11100, 11304, 11200, 11400, 11604, 11500, 5000, 0, 100, 200, 12000] ∧ r = none ∧ (xLs S1 g1) ∧ (∃ c : Nat, g1 a0 0 = .ref c ∧ S1 c = some (4, 0) ∧ xCy S1 g1 c) ∧ (∃ c : Nat, g1 a0 1 = .ref c ∧ S1 c = some (0, 0) ∧ g1 c 2 = .int (iI 0)) ∧ (dc ≤ 36 ∧ ds ≤ 2212) ∧ (∀ k9 : Nat, xok S1 (xsl 6 k9) (g1 a0 k9))) := by
  refine xEnterUV (by decide) (by simp [lg_sl, Value.category]) [(0, .ref a0)] rfl ?_
  intro K E hK hret hS0 _ hini ht
  subst ht
  refine X_aloadn hK (i := 0) 0 dX5_init_0 rfl rfl ?_
  refine X_oinit hK ⟨m_3_19, m_1_11, m_1_12⟩ ⟨by decide, by simp [Value.category]⟩ dX5_init_1 ?_
  refine X_aloadn hK (i := 0) 0 dX5_init_4 rfl rfl ?_
  refine X_new hK nw_X5_9 (by omega) (by omega) dX5_init_5 (fun b1 S2 g3 zb1 nb1 hSb1 hg3 qb1 hs_b1 => ?_)
  have A4 : xLs S2 g3 := xLs_al (xAb.ls hp0) (hg3 ▸ xM_new (L := []) xM.rf nb1) rfl qb1 (xNw2.one hSb1) (by decide)
  refine X_dup hK dX5_init_8 rfl ?_
  refine X_callIU hK [] [.ref b1, .ref a0] li_X5_11 (c_X3_init _ _ _ _ _ S2 g3 b1 hs_b1) dX5_init_9 rfl rfl (by simp [Value.category]) (by decide) (by omega) (by omega) (by decide) (fun r5 S7 g6 dcr5 dsr5 pr5 qr5 hg6 => ?_)
  obtain ⟨wr5, rfl, k8, k9, k10⟩ := pr5
  have A11 : xLs S7 g6 := xLs_al A4 hg6 (by decide) qr5 wr5 (by decide)
  refine X_st [.ref b1, .ref a0] rfl ?_
  obtain ⟨b12, b13, b14, b15, eb12, hs_b12, zb12, eb13, hs_b13, zb13, eb14, hs_b14, zb14, eb15, hs_b15, zb15⟩ := k8
  refine X_seal (ci := 4) zb1 (qr5 _ _ hs_b1) (by decide) k10 (fun a9 t9 n9 k9 _ _ _ c9 h9 => Or.inr (h9 ▸ xsl_raw t9 k9 (by omega))) (fun k9 => xsl_raw _ k9 (by omega)) (fun S16 hSy17 hs_y17 hoy17 => ?_)
  have hk18 := (xhs_seal hoy17 (qr5 _ _ hs_b1) (qr5 _ _ (qb1 _ _ hs_a0)) (by decide))
  have hk19 := (xhs_seal hoy17 (qr5 _ _ hs_b1) (qr5 _ _ (qb1 _ _ hp1)) (by decide))
  have hk20 := (xhs_seal hoy17 (qr5 _ _ hs_b1) hs_b12 (by decide))
  have hk21 := (xhs_seal hoy17 (qr5 _ _ hs_b1) hs_b13 (by decide))
  have hk22 := (xhs_seal hoy17 (qr5 _ _ hs_b1) hs_b14 (by decide))
  have hk23 := (xhs_seal hoy17 (qr5 _ _ hs_b1) hs_b15 (by decide))
  refine X_putF hK fl_X5_12_5006 (fun T9 N9 C9 h9 => by cases (Option.some.inj (h9.symm.trans (rfl : vwCl[6]? = some (RX5, TX5, 8)))); rfl) (hini rfl) hk18 (Or.inr (by decide)) (xokr 6 0 (by decide)) rfl rfl dX5_init_12 (fun g24 hg24 => ?_)
  refine X_aloadn hK (i := 0) 0 dX5_init_15 rfl rfl ?_
  refine X_new hK nw_X5_18 (by omega) (by omega) dX5_init_16 (fun b25 S26 g27 zb25 nb25 hSb25 hg27 qb25 hs_b25 => ?_)
  have A28 : xLs S26 g27 := xLs_al (xLs_up (xLs_seal A11 (qr5 _ _ hs_b1) hSy17 (by decide) (by decide)) hg24 hk18 (by decide)) (hg27 ▸ xM_new (L := []) xM.rf nb25) rfl qb25 (xNw2.one hSb25) (by decide)
  refine X_dup hK dX5_init_19 rfl ?_
  refine X_callIU hK [] [.ref b25, .ref a0] li_X5_20 (c_Jx4a65c_init_da8c8 _ _ _ _ _ S26 g27 b25 hs_b25 (by rw [hg27, xrow_s]; rfl)) dX5_init_20 rfl rfl (by simp [Value.category]) (by decide) (by omega) (by omega) (by decide) (fun r29 S31 g30 dcr29 dsr29 pr29 qr29 hg30 => ?_)
  obtain ⟨wr29, rfl, k32, k33, k34, k35⟩ := pr29
  have A36 : xLs S31 g30 := xLs_al A28 hg30 (by decide) qr29 wr29 (by decide)
  refine X_st [.ref b25, .ref a0] rfl ?_
  refine X_sealT (τ := 0) zb25 (qr29 _ _ hs_b25) (by decide) (fun k9 => match k9 with | 0 => xk0 sl_0_0 k33 (by omega) (by omega) | 1 => (by show xok _ (xsl 0 1) _; rw [sl_0_1]; exact ⟨_, 0, k34, Or.inr (qr29 _ _ (qb25 _ _ hk19))⟩) | 2 => xk0 sl_0_2 k35 (by omega) (by omega) | n9 + 3 => xk9 (by rfl)) (fun a9 t9 n9 k9 _ _ _ c9 h9 => Or.inr (h9 ▸ xsl_raw t9 k9 (by omega))) (fun k9 => xsl_raw _ k9 (by omega)) (fun S37 hSy38 hs_y38 hoy38 => ?_)
  have hk39 := (xhs_seal hoy38 (qr29 _ _ hs_b25) (qr29 _ _ (qb25 _ _ hk18)) (by decide))
  have hk40 := (xhs_seal hoy38 (qr29 _ _ hs_b25) (qr29 _ _ (qb25 _ _ hk19)) (by decide))
  have hk41 := (xhs_seal hoy38 (qr29 _ _ hs_b25) (qr29 _ _ (qb25 _ _ hs_y17)) (by decide))
  have hk42 := (xhs_seal hoy38 (qr29 _ _ hs_b25) (qr29 _ _ (qb25 _ _ hk20)) (by decide))
  have hk43 := (xhs_seal hoy38 (qr29 _ _ hs_b25) (qr29 _ _ (qb25 _ _ hk21)) (by decide))
  have hk44 := (xhs_seal hoy38 (qr29 _ _ hs_b25) (qr29 _ _ (qb25 _ _ hk22)) (by decide))
  have hk45 := (xhs_seal hoy38 (qr29 _ _ hs_b25) (qr29 _ _ (qb25 _ _ hk23)) (by decide))
  refine X_putF hK fl_X5_21_5006 (fun T9 N9 C9 h9 => by cases (Option.some.inj (h9.symm.trans (rfl : vwCl[6]? = some (RX5, TX5, 8)))); rfl) (hini rfl) hk39 (Or.inr (by decide)) (xokr 6 1 (by decide)) rfl rfl dX5_init_23 (fun g46 hg46 => ?_)
  refine X_aloadn hK (i := 0) 0 dX5_init_26 rfl rfl ?_
  refine X_new hK nw_X5_18 (by omega) (by omega) dX5_init_27 (fun b47 S48 g49 zb47 nb47 hSb47 hg49 qb47 hs_b47 => ?_)
  have A50 : xLs S48 g49 := xLs_al (xLs_up (xLs_add_0 A36 (xab_n (fun a9 n9 h9 => absurd rfl (hp0 a9 _ n9 h9).1) (xNw2.tr (xNw2.tr (xNw2.tr (xNw2.tr (xNw2.tr xNw2.rf (hSb1 ▸ xNw2.set (by decide)) (fun _ h => h)) wr5 (by decide)) (hSy17 ▸ xNw2.set (by decide)) (fun _ h => h)) (hSb25 ▸ xNw2.set (by decide)) (fun _ h => h)) wr29 (by decide)) (show 0 ∉ [5004, 10700, 10904, 10800, 11000, 11100, 11304, 11200, 11400, 11604, 11500, 4, 5000] by decide)) (qr29 _ _ hs_b25) hSy38 k34 (qr29 _ _ (qb25 _ _ hk19)) (xne (qr29 _ _ (qb25 _ _ hk19)) (qr29 _ _ hs_b25) (by decide)) k35) hg46 hk39 (by decide)) (hg49 ▸ xM_new (L := []) xM.rf nb47) rfl qb47 (xNw2.one hSb47) (by decide)
  refine X_dup hK dX5_init_30 rfl ?_
  refine X_callIU hK [] [.ref b47, .ref a0] li_X5_20 (c_Jx4a65c_init_da8c8 _ _ _ _ _ S48 g49 b47 hs_b47 (by rw [hg49, xrow_s]; rfl)) dX5_init_31 rfl rfl (by simp [Value.category]) (by decide) (by omega) (by omega) (by decide) (fun r51 S53 g52 dcr51 dsr51 pr51 qr51 hg52 => ?_)
  obtain ⟨wr51, rfl, k54, k55, k56, k57⟩ := pr51
  have A58 : xLs S53 g52 := xLs_al A50 hg52 (by decide) qr51 wr51 (by decide)
  refine X_st [.ref b47, .ref a0] rfl ?_
  refine X_sealT (τ := 100) zb47 (qr51 _ _ hs_b47) (by decide) (fun k9 => match k9 with | 0 => xk0 sl_100_0 k55 (by omega) (by omega) | 1 => (by show xok _ (xsl 100 1) _; rw [sl_100_1]; exact ⟨_, 0, k56, Or.inr (qr51 _ _ (qb47 _ _ hk40))⟩) | 2 => xk0 sl_100_2 k57 (by omega) (by omega) | n9 + 3 => xk9 (by rfl)) (fun a9 t9 n9 k9 _ _ _ c9 h9 => Or.inr (h9 ▸ xsl_raw t9 k9 (by omega))) (fun k9 => xsl_raw _ k9 (by omega)) (fun S59 hSy60 hs_y60 hoy60 => ?_)
  have hk61 := (xhs_seal hoy60 (qr51 _ _ hs_b47) (qr51 _ _ (qb47 _ _ hk39)) (by decide))
  have hk62 := (xhs_seal hoy60 (qr51 _ _ hs_b47) (qr51 _ _ (qb47 _ _ hk40)) (by decide))
  have hk63 := (xhs_seal hoy60 (qr51 _ _ hs_b47) (qr51 _ _ (qb47 _ _ hk41)) (by decide))
  have hk64 := (xhs_seal hoy60 (qr51 _ _ hs_b47) (qr51 _ _ (qb47 _ _ hk42)) (by decide))
  have hk65 := (xhs_seal hoy60 (qr51 _ _ hs_b47) (qr51 _ _ (qb47 _ _ hk43)) (by decide))
  have hk66 := (xhs_seal hoy60 (qr51 _ _ hs_b47) (qr51 _ _ (qb47 _ _ hk44)) (by decide))
  have hk67 := (xhs_seal hoy60 (qr51 _ _ hs_b47) (qr51 _ _ (qb47 _ _ hk45)) (by decide))
  have hk68 := (xhs_seal hoy60 (qr51 _ _ hs_b47) (qr51 _ _ (qb47 _ _ hs_y38)) (by decide))
  refine X_putF hK fl_X5_25_5006 (fun T9 N9 C9 h9 => by cases (Option.some.inj (h9.symm.trans (rfl : vwCl[6]? = some (RX5, TX5, 8)))); rfl) (hini rfl) hk61 (Or.inr (by decide)) (xokr 6 2 (by decide)) rfl rfl dX5_init_34 (fun g69 hg69 => ?_)
  refine X_aloadn hK (i := 0) 0 dX5_init_37 rfl rfl ?_
  refine X_new hK nw_X5_18 (by omega) (by omega) dX5_init_38 (fun b70 S71 g72 zb70 nb70 hSb70 hg72 qb70 hs_b70 => ?_)
  have A73 : xLs S71 g72 := xLs_al (xLs_up (xLs_add_100 A58 (xab_n (fun a9 n9 h9 => absurd rfl (hp0 a9 _ n9 h9).2.1) (xNw2.tr (xNw2.tr (xNw2.tr (xNw2.tr (xNw2.tr (xNw2.tr (xNw2.tr (xNw2.tr xNw2.rf (hSb1 ▸ xNw2.set (by decide)) (fun _ h => h)) wr5 (by decide)) (hSy17 ▸ xNw2.set (by decide)) (fun _ h => h)) (hSb25 ▸ xNw2.set (by decide)) (fun _ h => h)) wr29 (by decide)) (hSy38 ▸ xNw2.set (by decide)) (fun _ h => h)) (hSb47 ▸ xNw2.set (by decide)) (fun _ h => h)) wr51 (by decide)) (show 100 ∉ [5004, 10700, 10904, 10800, 11000, 11100, 11304, 11200, 11400, 11604, 11500, 4, 5000, 0, 5000] by decide)) (qr51 _ _ hs_b47) hSy60 k56 (qr51 _ _ (qb47 _ _ hk40)) (xne (qr51 _ _ (qb47 _ _ hk40)) (qr51 _ _ hs_b47) (by decide)) k57) hg69 hk61 (by decide)) (hg72 ▸ xM_new (L := []) xM.rf nb70) rfl qb70 (xNw2.one hSb70) (by decide)
  refine X_dup hK dX5_init_41 rfl ?_
  refine X_callIU hK [] [.ref b70, .ref a0] li_X5_20 (c_Jx4a65c_init_da8c8 _ _ _ _ _ S71 g72 b70 hs_b70 (by rw [hg72, xrow_s]; rfl)) dX5_init_42 rfl rfl (by simp [Value.category]) (by decide) (by omega) (by omega) (by decide) (fun r74 S76 g75 dcr74 dsr74 pr74 qr74 hg75 => ?_)
  obtain ⟨wr74, rfl, k77, k78, k79, k80⟩ := pr74
  have A81 : xLs S76 g75 := xLs_al A73 hg75 (by decide) qr74 wr74 (by decide)
  refine X_st [.ref b70, .ref a0] rfl ?_
  refine X_sealT (τ := 200) zb70 (qr74 _ _ hs_b70) (by decide) (fun k9 => match k9 with | 0 => xk0 sl_200_0 k78 (by omega) (by omega) | 1 => (by show xok _ (xsl 200 1) _; rw [sl_200_1]; exact ⟨_, 0, k79, Or.inr (qr74 _ _ (qb70 _ _ hk62))⟩) | 2 => xk0 sl_200_2 k80 (by omega) (by omega) | n9 + 3 => xk9 (by rfl)) (fun a9 t9 n9 k9 _ _ _ c9 h9 => Or.inr (h9 ▸ xsl_raw t9 k9 (by omega))) (fun k9 => xsl_raw _ k9 (by omega)) (fun S82 hSy83 hs_y83 hoy83 => ?_)
  have hk84 := (xhs_seal hoy83 (qr74 _ _ hs_b70) (qr74 _ _ (qb70 _ _ hk61)) (by decide))
  have hk85 := (xhs_seal hoy83 (qr74 _ _ hs_b70) (qr74 _ _ (qb70 _ _ hk62)) (by decide))
  have hk86 := (xhs_seal hoy83 (qr74 _ _ hs_b70) (qr74 _ _ (qb70 _ _ hk63)) (by decide))
  have hk87 := (xhs_seal hoy83 (qr74 _ _ hs_b70) (qr74 _ _ (qb70 _ _ hk64)) (by decide))
  have hk88 := (xhs_seal hoy83 (qr74 _ _ hs_b70) (qr74 _ _ (qb70 _ _ hk65)) (by decide))
  have hk89 := (xhs_seal hoy83 (qr74 _ _ hs_b70) (qr74 _ _ (qb70 _ _ hk66)) (by decide))
  have hk90 := (xhs_seal hoy83 (qr74 _ _ hs_b70) (qr74 _ _ (qb70 _ _ hk67)) (by decide))
  have hk91 := (xhs_seal hoy83 (qr74 _ _ hs_b70) (qr74 _ _ (qb70 _ _ hk68)) (by decide))
  have hk92 := (xhs_seal hoy83 (qr74 _ _ hs_b70) (qr74 _ _ (qb70 _ _ hs_y60)) (by decide))
  refine X_putF hK fl_X5_28_5006 (fun T9 N9 C9 h9 => by cases (Option.some.inj (h9.symm.trans (rfl : vwCl[6]? = some (RX5, TX5, 8)))); rfl) (hini rfl) hk84 (Or.inr (by decide)) (xokr 6 3 (by decide)) rfl rfl dX5_init_45 (fun g93 hg93 => ?_)
  refine X_aloadn hK (i := 0) 0 dX5_init_48 rfl rfl ?_
  refine X_bipush hK dX5_init_49 (by decide) ?_
  refine X_newa hK (ty := .int) 12000 0 (.int 0) rfl (fun _ => rfl) rfl (by decide) m_3_14 (by omega) ⟨by show _ * 4 ≤ _; omega, by omega⟩ (by omega) (by omega) (fun _ _ h9 => h9) (fun S9 k9 => by rw [sl_12000]; exact ⟨0, rfl, by decide, by decide⟩) dX5_init_51 (fun b94 S95 g96 zb94 nb94 hSb94 hg96 qb94 hs_b94 => ?_)
  have A97 : xLs S95 g96 := xLs_al (xLs_up (xLs_add_200 A81 (xab_n (fun a9 n9 h9 => absurd rfl (hp0 a9 _ n9 h9).2.2.1) (xNw2.tr (xNw2.tr (xNw2.tr (xNw2.tr (xNw2.tr (xNw2.tr (xNw2.tr (xNw2.tr (xNw2.tr (xNw2.tr (xNw2.tr xNw2.rf (hSb1 ▸ xNw2.set (by decide)) (fun _ h => h)) wr5 (by decide)) (hSy17 ▸ xNw2.set (by decide)) (fun _ h => h)) (hSb25 ▸ xNw2.set (by decide)) (fun _ h => h)) wr29 (by decide)) (hSy38 ▸ xNw2.set (by decide)) (fun _ h => h)) (hSb47 ▸ xNw2.set (by decide)) (fun _ h => h)) wr51 (by decide)) (hSy60 ▸ xNw2.set (by decide)) (fun _ h => h)) (hSb70 ▸ xNw2.set (by decide)) (fun _ h => h)) wr74 (by decide)) (show 200 ∉ [5004, 10700, 10904, 10800, 11000, 11100, 11304, 11200, 11400, 11604, 11500, 4, 5000, 0, 5000, 100, 5000] by decide)) (qr74 _ _ hs_b70) hSy83 k79 (qr74 _ _ (qb70 _ _ hk62)) (xne (qr74 _ _ (qb70 _ _ hk62)) (qr74 _ _ hs_b70) (by decide)) k80) hg93 hk84 (by decide)) (hg96 ▸ xM_new (L := []) xM.rf nb94) rfl qb94 (xNw2.one hSb94) (by decide)
  refine X_putF hK fl_X5_31_5006 (fun T9 N9 C9 h9 => by cases (Option.some.inj (h9.symm.trans (rfl : vwCl[6]? = some (RX5, TX5, 8)))); rfl) (hini rfl) (qb94 _ _ hk84) (Or.inr (by decide)) (xokr 6 4 (by decide)) rfl rfl dX5_init_53 (fun g98 hg98 => ?_)
  refine X_aloadn hK (i := 0) 0 dX5_init_56 rfl rfl ?_
  refine X_iconst hK dX5_init_57 ?_
  refine X_putv hK fl_X5_35_5006 (qb94 _ _ hk84) (by decide) (xokr 6 5 (by decide)) rfl rfl dX5_init_58 (fun g99 hg99 => ?_)
  refine X_aloadn hK (i := 0) 0 dX5_init_61 rfl rfl ?_
  refine X_iconst hK dX5_init_62 ?_
  refine X_putv hK fl_X5_39_5006 (qb94 _ _ hk84) (by decide) (xokr 6 6 (by decide)) rfl rfl dX5_init_63 (fun g100 hg100 => ?_)
  refine X_aloadn hK (i := 0) 0 dX5_init_66 rfl rfl ?_
  refine X_iconst hK dX5_init_67 ?_
  refine X_putv hK fl_X5_42_5006 (qb94 _ _ hk84) (by decide) (xokr 6 7 (by decide)) rfl rfl dX5_init_68 (fun g101 hg101 => ?_)
  exact hret _ _ _ _ _ _ dX5_init_71 ⟨(xNw2.tr (xNw2.tr (xNw2.tr (xNw2.tr (xNw2.tr (xNw2.tr (xNw2.tr (xNw2.tr (xNw2.tr (xNw2.tr (xNw2.tr (xNw2.tr (xNw2.tr xNw2.rf (hSb1 ▸ xNw2.set (by decide)) (fun _ h => h)) wr5 (by decide)) (hSy17 ▸ xNw2.set (by decide)) (fun _ h => h)) (hSb25 ▸ xNw2.set (by decide)) (fun _ h => h)) wr29 (by decide)) (hSy38 ▸ xNw2.set (by decide)) (fun _ h => h)) (hSb47 ▸ xNw2.set (by decide)) (fun _ h => h)) wr51 (by decide)) (hSy60 ▸ xNw2.set (by decide)) (fun _ h => h)) (hSb70 ▸ xNw2.set (by decide)) (fun _ h => h)) wr74 (by decide)) (hSy83 ▸ xNw2.set (by decide)) (fun _ h => h)) (hSb94 ▸ xNw2.set (by decide)) (fun _ h => h)), rfl, (xLs_up (xLs_up (xLs_up (xLs_up A97 hg98 (qb94 _ _ hk84) (by decide)) hg99 (qb94 _ _ hk84) (by decide)) hg100 (qb94 _ _ hk84) (by decide)) hg101 (qb94 _ _ hk84) (by decide)), ⟨b1, ((xs_k hg101 (by decide)).trans ((xs_k hg100 (by decide)).trans ((xs_k hg99 (by decide)).trans ((xs_k hg98 (by decide)).trans ((xs_n hg96 hk84 nb94).trans ((xs_k hg93 (by decide)).trans ((hg75 a0 5006 0 0 (qb70 _ _ hk61) (by decide)).trans ((xs_n hg72 hk61 nb70).trans ((xs_k hg69 (by decide)).trans ((hg52 a0 5006 0 0 (qb47 _ _ hk39) (by decide)).trans ((xs_n hg49 hk39 nb47).trans ((xs_k hg46 (by decide)).trans ((hg30 a0 5006 0 0 (qb25 _ _ hk18) (by decide)).trans ((xs_n hg27 hk18 nb25).trans (xs_s hg24))))))))))))))), (qb94 _ _ hk86), ⟨b12, b13, b14, b15, ((xs_k hg101 (by decide)).trans ((xs_k hg100 (by decide)).trans ((xs_k hg99 (by decide)).trans ((xs_k hg98 (by decide)).trans ((xs_n hg96 hk86 nb94).trans ((xs_k hg93 (by decide)).trans ((hg75 b1 4 0 0 (qb70 _ _ hk63) (by decide)).trans ((xs_n hg72 hk63 nb70).trans ((xs_k hg69 (by decide)).trans ((hg52 b1 4 0 0 (qb47 _ _ hk41) (by decide)).trans ((xs_n hg49 hk41 nb47).trans ((xs_k hg46 (by decide)).trans ((hg30 b1 4 0 0 (qb25 _ _ hs_y17) (by decide)).trans ((xs_n hg27 hs_y17 nb25).trans ((xs_a hg24 (xne (qb94 _ _ hk86) (qb94 _ _ hk84) (by decide))).trans eb12))))))))))))))), (qb94 _ _ hk87), (by rw [(Eq.trans (Eq.trans (Eq.trans (Eq.trans (Eq.trans (Eq.trans (Eq.trans (Eq.trans (Eq.trans (Eq.trans (Eq.trans (Eq.trans (Eq.trans (Eq.trans (xv_a hg101 (xne (qb94 _ _ hk87) (qb94 _ _ hk84) (by decide))) (xv_a hg100 (xne (qb94 _ _ hk87) (qb94 _ _ hk84) (by decide)))) (xv_a hg99 (xne (qb94 _ _ hk87) (qb94 _ _ hk84) (by decide)))) (xv_a hg98 (xne (qb94 _ _ hk87) (qb94 _ _ hk84) (by decide)))) (xv_n hg96 hk87 nb94)) (xv_a hg93 (xne (qb94 _ _ hk87) (qb94 _ _ hk84) (by decide)))) (xv_m hg75 (qb70 _ _ hk64) (by decide) (by decide))) (xv_n hg72 hk64 nb70)) (xv_a hg69 (xne (qb94 _ _ hk87) (qb94 _ _ hk84) (by decide)))) (xv_m hg52 (qb47 _ _ hk42) (by decide) (by decide))) (xv_n hg49 hk42 nb47)) (xv_a hg46 (xne (qb94 _ _ hk87) (qb94 _ _ hk84) (by decide)))) (xv_m hg30 (qb25 _ _ hk20) (by decide) (by decide))) (xv_n hg27 hk20 nb25)) (xv_a hg24 (xne (qb94 _ _ hk87) (qb94 _ _ hk84) (by decide))))]; exact zb12), ((xs_k hg101 (by decide)).trans ((xs_k hg100 (by decide)).trans ((xs_k hg99 (by decide)).trans ((xs_k hg98 (by decide)).trans ((xs_n hg96 hk86 nb94).trans ((xs_k hg93 (by decide)).trans ((hg75 b1 4 0 2 (qb70 _ _ hk63) (by decide)).trans ((xs_n hg72 hk63 nb70).trans ((xs_a hg69 (xne (qb94 _ _ hk86) (qb94 _ _ hk84) (by decide))).trans ((hg52 b1 4 0 2 (qb47 _ _ hk41) (by decide)).trans ((xs_n hg49 hk41 nb47).trans ((xs_k hg46 (by decide)).trans ((hg30 b1 4 0 2 (qb25 _ _ hs_y17) (by decide)).trans ((xs_n hg27 hs_y17 nb25).trans ((xs_k hg24 (by decide)).trans eb13))))))))))))))), (qb94 _ _ hk88), (by rw [(Eq.trans (Eq.trans (Eq.trans (Eq.trans (Eq.trans (Eq.trans (Eq.trans (Eq.trans (Eq.trans (Eq.trans (Eq.trans (Eq.trans (Eq.trans (Eq.trans (xv_a hg101 (xne (qb94 _ _ hk88) (qb94 _ _ hk84) (by decide))) (xv_a hg100 (xne (qb94 _ _ hk88) (qb94 _ _ hk84) (by decide)))) (xv_a hg99 (xne (qb94 _ _ hk88) (qb94 _ _ hk84) (by decide)))) (xv_a hg98 (xne (qb94 _ _ hk88) (qb94 _ _ hk84) (by decide)))) (xv_n hg96 hk88 nb94)) (xv_a hg93 (xne (qb94 _ _ hk88) (qb94 _ _ hk84) (by decide)))) (xv_m hg75 (qb70 _ _ hk65) (by decide) (by decide))) (xv_n hg72 hk65 nb70)) (xv_a hg69 (xne (qb94 _ _ hk88) (qb94 _ _ hk84) (by decide)))) (xv_m hg52 (qb47 _ _ hk43) (by decide) (by decide))) (xv_n hg49 hk43 nb47)) (xv_a hg46 (xne (qb94 _ _ hk88) (qb94 _ _ hk84) (by decide)))) (xv_m hg30 (qb25 _ _ hk21) (by decide) (by decide))) (xv_n hg27 hk21 nb25)) (xv_a hg24 (xne (qb94 _ _ hk88) (qb94 _ _ hk84) (by decide))))]; exact zb13), ((xs_k hg101 (by decide)).trans ((xs_k hg100 (by decide)).trans ((xs_k hg99 (by decide)).trans ((xs_k hg98 (by decide)).trans ((xs_n hg96 hk86 nb94).trans ((xs_a hg93 (xne (qb94 _ _ hk86) (qb94 _ _ hk84) (by decide))).trans ((hg75 b1 4 0 3 (qb70 _ _ hk63) (by decide)).trans ((xs_n hg72 hk63 nb70).trans ((xs_k hg69 (by decide)).trans ((hg52 b1 4 0 3 (qb47 _ _ hk41) (by decide)).trans ((xs_n hg49 hk41 nb47).trans ((xs_k hg46 (by decide)).trans ((hg30 b1 4 0 3 (qb25 _ _ hs_y17) (by decide)).trans ((xs_n hg27 hs_y17 nb25).trans ((xs_k hg24 (by decide)).trans eb14))))))))))))))), (qb94 _ _ hk89), (by rw [(Eq.trans (Eq.trans (Eq.trans (Eq.trans (Eq.trans (Eq.trans (Eq.trans (Eq.trans (Eq.trans (Eq.trans (Eq.trans (Eq.trans (Eq.trans (Eq.trans (xv_a hg101 (xne (qb94 _ _ hk89) (qb94 _ _ hk84) (by decide))) (xv_a hg100 (xne (qb94 _ _ hk89) (qb94 _ _ hk84) (by decide)))) (xv_a hg99 (xne (qb94 _ _ hk89) (qb94 _ _ hk84) (by decide)))) (xv_a hg98 (xne (qb94 _ _ hk89) (qb94 _ _ hk84) (by decide)))) (xv_n hg96 hk89 nb94)) (xv_a hg93 (xne (qb94 _ _ hk89) (qb94 _ _ hk84) (by decide)))) (xv_m hg75 (qb70 _ _ hk66) (by decide) (by decide))) (xv_n hg72 hk66 nb70)) (xv_a hg69 (xne (qb94 _ _ hk89) (qb94 _ _ hk84) (by decide)))) (xv_m hg52 (qb47 _ _ hk44) (by decide) (by decide))) (xv_n hg49 hk44 nb47)) (xv_a hg46 (xne (qb94 _ _ hk89) (qb94 _ _ hk84) (by decide)))) (xv_m hg30 (qb25 _ _ hk22) (by decide) (by decide))) (xv_n hg27 hk22 nb25)) (xv_a hg24 (xne (qb94 _ _ hk89) (qb94 _ _ hk84) (by decide))))]; exact zb14), ((xs_k hg101 (by decide)).trans ((xs_k hg100 (by decide)).trans ((xs_k hg99 (by decide)).trans ((xs_a hg98 (xne (qb94 _ _ hk86) (qb94 _ _ hk84) (by decide))).trans ((xs_n hg96 hk86 nb94).trans ((xs_k hg93 (by decide)).trans ((hg75 b1 4 0 4 (qb70 _ _ hk63) (by decide)).trans ((xs_n hg72 hk63 nb70).trans ((xs_k hg69 (by decide)).trans ((hg52 b1 4 0 4 (qb47 _ _ hk41) (by decide)).trans ((xs_n hg49 hk41 nb47).trans ((xs_k hg46 (by decide)).trans ((hg30 b1 4 0 4 (qb25 _ _ hs_y17) (by decide)).trans ((xs_n hg27 hs_y17 nb25).trans ((xs_k hg24 (by decide)).trans eb15))))))))))))))), (qb94 _ _ hk90), (xGr.s (by have lt103 := (xLt.seal (qr5 _ _ hs_b1) hSy17 (by decide)); have lt104 := xLt.tr lt103 (xLt.le qb25); have lt105 := xLt.tr lt104 (xLt.le qr29); have lt106 := xLt.tr lt105 (xLt.seal (qr29 _ _ hs_b25) hSy38 (by decide)); have lt107 := xLt.tr lt106 (xLt.le qb47); have lt108 := xLt.tr lt107 (xLt.le qr51); have lt109 := xLt.tr lt108 (xLt.seal (qr51 _ _ hs_b47) hSy60 (by decide)); have lt110 := xLt.tr lt109 (xLt.le qb70); have lt111 := xLt.tr lt110 (xLt.le qr74); have lt112 := xLt.tr lt111 (xLt.seal (qr74 _ _ hs_b70) hSy83 (by decide)); have lt113 := xLt.tr lt112 (xLt.le qb94); have gr102 := xGr.u zb15 lt113 (qb94 _ _ hk90) (by decide) hg24 (qb94 _ _ hk84) (by decide) (by decide); have gr114 := xGr.n gr102 lt103 hk23 (by decide) hg27 nb25; have gr115 := xGr.m gr114 lt104 (qb25 _ _ hk23) (by decide) hg30 (by decide) (by decide); have gr116 := xGr.u gr115 lt113 (qb94 _ _ hk90) (by decide) hg46 (qb94 _ _ hk84) (by decide) (by decide); have gr117 := xGr.n gr116 lt106 hk45 (by decide) hg49 nb47; have gr118 := xGr.m gr117 lt107 (qb47 _ _ hk45) (by decide) hg52 (by decide) (by decide); have gr119 := xGr.u gr118 lt113 (qb94 _ _ hk90) (by decide) hg69 (qb94 _ _ hk84) (by decide) (by decide); have gr120 := xGr.n gr119 lt109 hk67 (by decide) hg72 nb70; have gr121 := xGr.m gr120 lt110 (qb70 _ _ hk67) (by decide) hg75 (by decide) (by decide); have gr122 := xGr.u gr121 lt113 (qb94 _ _ hk90) (by decide) hg93 (qb94 _ _ hk84) (by decide) (by decide); have gr123 := xGr.n gr122 lt112 hk90 (by decide) hg96 nb94; have gr124 := xGr.u gr123 lt113 (qb94 _ _ hk90) (by decide) hg98 (qb94 _ _ hk84) (by decide) (by decide); have gr125 := xGr.u gr124 lt113 (qb94 _ _ hk90) (by decide) hg99 (qb94 _ _ hk84) (by decide) (by decide); have gr126 := xGr.u gr125 lt113 (qb94 _ _ hk90) (by decide) hg100 (qb94 _ _ hk84) (by decide) (by decide); have gr127 := xGr.u gr126 lt113 (qb94 _ _ hk90) (by decide) hg101 (qb94 _ _ hk84) (by decide) (by decide); exact gr127) (xLt.tr (xLt.tr (xLt.tr (xLt.tr (xLt.tr (xLt.tr (xLt.tr (xLt.tr (xLt.tr (xLt.tr (xLt.seal (qr5 _ _ hs_b1) hSy17 (by decide)) (xLt.le qb25)) (xLt.le qr29)) (xLt.seal (qr29 _ _ hs_b25) hSy38 (by decide))) (xLt.le qb47)) (xLt.le qr51)) (xLt.seal (qr51 _ _ hs_b47) hSy60 (by decide))) (xLt.le qb70)) (xLt.le qr74)) (xLt.seal (qr74 _ _ hs_b70) hSy83 (by decide))) (xLt.le qb94)) (by decide))⟩⟩, ⟨b25, ((xs_k hg101 (by decide)).trans ((xs_k hg100 (by decide)).trans ((xs_k hg99 (by decide)).trans ((xs_k hg98 (by decide)).trans ((xs_n hg96 hk84 nb94).trans ((xs_k hg93 (by decide)).trans ((hg75 a0 5006 0 1 (qb70 _ _ hk61) (by decide)).trans ((xs_n hg72 hk61 nb70).trans ((xs_k hg69 (by decide)).trans ((hg52 a0 5006 0 1 (qb47 _ _ hk39) (by decide)).trans ((xs_n hg49 hk39 nb47).trans (xs_s hg46)))))))))))), (qb94 _ _ hk91), ((xs_k hg101 (by decide)).trans ((xs_k hg100 (by decide)).trans ((xs_k hg99 (by decide)).trans ((xs_k hg98 (by decide)).trans ((xs_n hg96 hk91 nb94).trans ((xs_k hg93 (by decide)).trans ((hg75 b25 0 0 2 (qb70 _ _ hk68) (by decide)).trans ((xs_n hg72 hk68 nb70).trans ((xs_a hg69 (xne (qb94 _ _ hk91) (qb94 _ _ hk84) (by decide))).trans ((hg52 b25 0 0 2 (qb47 _ _ hs_y38) (by decide)).trans ((xs_n hg49 hs_y38 nb47).trans ((xs_k hg46 (by decide)).trans k35))))))))))))⟩, (by omega), (fun k9 => match k9 with | 0 => xk1 4 0 sl_6_0 ((xs_k hg101 (by decide)).trans ((xs_k hg100 (by decide)).trans ((xs_k hg99 (by decide)).trans ((xs_k hg98 (by decide)).trans ((xs_n hg96 hk84 nb94).trans ((xs_k hg93 (by decide)).trans ((hg75 a0 5006 0 0 (qb70 _ _ hk61) (by decide)).trans ((xs_n hg72 hk61 nb70).trans ((xs_k hg69 (by decide)).trans ((hg52 a0 5006 0 0 (qb47 _ _ hk39) (by decide)).trans ((xs_n hg49 hk39 nb47).trans ((xs_k hg46 (by decide)).trans ((hg30 a0 5006 0 0 (qb25 _ _ hk18) (by decide)).trans ((xs_n hg27 hk18 nb25).trans (xs_s hg24))))))))))))))) (qb94 _ _ hk86) | 1 => xk1 0 0 sl_6_1 ((xs_k hg101 (by decide)).trans ((xs_k hg100 (by decide)).trans ((xs_k hg99 (by decide)).trans ((xs_k hg98 (by decide)).trans ((xs_n hg96 hk84 nb94).trans ((xs_k hg93 (by decide)).trans ((hg75 a0 5006 0 1 (qb70 _ _ hk61) (by decide)).trans ((xs_n hg72 hk61 nb70).trans ((xs_k hg69 (by decide)).trans ((hg52 a0 5006 0 1 (qb47 _ _ hk39) (by decide)).trans ((xs_n hg49 hk39 nb47).trans (xs_s hg46)))))))))))) (qb94 _ _ hk91) | 2 => xk1 100 0 sl_6_2 ((xs_k hg101 (by decide)).trans ((xs_k hg100 (by decide)).trans ((xs_k hg99 (by decide)).trans ((xs_k hg98 (by decide)).trans ((xs_n hg96 hk84 nb94).trans ((xs_k hg93 (by decide)).trans ((hg75 a0 5006 0 2 (qb70 _ _ hk61) (by decide)).trans ((xs_n hg72 hk61 nb70).trans (xs_s hg69))))))))) (qb94 _ _ hk92) | 3 => xk1 200 0 sl_6_3 ((xs_k hg101 (by decide)).trans ((xs_k hg100 (by decide)).trans ((xs_k hg99 (by decide)).trans ((xs_k hg98 (by decide)).trans ((xs_n hg96 hk84 nb94).trans (xs_s hg93)))))) (qb94 _ _ hs_y83) | 4 => xk1 12000 12 sl_6_4 ((xs_k hg101 (by decide)).trans ((xs_k hg100 (by decide)).trans ((xs_k hg99 (by decide)).trans (xs_s hg98)))) hs_b94 | 5 => xk0 sl_6_5 ((xs_k hg101 (by decide)).trans ((xs_k hg100 (by decide)).trans (xs_s hg99))) (by omega) (by omega) | 6 => xk0 sl_6_6 ((xs_k hg101 (by decide)).trans (xs_s hg100)) (by omega) (by omega) | 7 => xk0 sl_6_7 (xs_s hg101) (by omega) (by omega) | n9 + 8 => xk9 (by rfl))⟩ (by omega) (by omega)

set_option maxHeartbeats 4000000 in
set_option maxRecDepth 100000 in
theorem c_X11_init (l : Launch) (D : va_G) (kA : Nat → ClassId) (b0 : Nat) (t0 : Nat → Nat) (S : xT) (g : xG) (a0 : Nat) (hs_a0 : S a0 = some (5012, 0)) (hp0 : xSi S t0) (hp1 : xAb S) (hp2 : S (t0 0) = some (20003, 0)) : xMu l yX11_init cX11_init 1 none 5 85 4959 92 D kA b0 t0 [(5010, 0), (5010, 1), (5012, 0), (5004, 0), (5004, 1), (11000, 0), (5004, 2), (11100, 0), (5004, 3), (5004, 4), (11400, 0), (5004, 5), (5004, 6), (11500, 0), (5006, 0), (5000, 0), (5000, 1), (5006, 1), (5006, 2), (5006, 3), (5006, 4), (5006, 5), (5006, 6), (5006, 7), (5012, 1), (5012, 2), (5005, 0), (5005, 1), (5005, 2), (5005, 3), (5012, 3), (5012, 4), (5011, 0), (5011, 1), (5011, 2), (5011, 3), (5011, 4), (5011, 5), (5011, 6), (5011, 7), (5012, 5), (5008, 0), (5008, 1), (5008, 2), (5008, 3), (5008, 4), (5008, 5), (5008, 6), (5012, 6), (5012, 7), (5003, 0), (5003, 1), (5003, 2), (5003, 3), (5012, 8), (5009, 0), (5009, 1), (5009, 2), (5009, 3), (5009, 4), (5009, 5), (5012, 9), (5007, 0), (5007, 1), (5007, 2), (5007, 3), (5007, 4), (5007, 5), (5007, 6), (5007, 7), (5007, 8), (5007, 9), (5012, 10), (5012, 11), (5012, 12), (5012, 13), (5012, 14), (5012, 15), (5012, 16), (5012, 17)] [.ref a0] S g (fun (r : Option Value) (S1 : xT) (g1 : xG) (dc ds : Nat) => xNw2 S S1 [5010, 10, 13500, 5006, 6, 5004, 4, 10700, 10904, 10800, 11000, 11100, 11304, 11200, 11400, 11604, 11500, 5000, 0, 100, 200, 12000, 5005, 5, 11700, 11800, 11900, 300, 5011, 11, 13600, 13700, 13800, 13900, 14000, 5008, 8, 12900, 13000, 5003, 3, 10500, 10600, 5009, 9, 13100, 13200, 13300, 13400, 5007, 7, 12100, 12200, 12300, 12400, 12500, 12600, 12701, 12802] ∧ r = none ∧ (xLs S1 g1) ∧ (xSi S1 t0) ∧ (dc ≤ 85 ∧ ds ≤ 4959) ∧ (xPj S1 g1 a0) ∧ (g1 a0 16 = .int (iI (-1))) ∧ (g1 a0 17 = .int (iI (-1))) ∧ (∃ c : Nat, g1 a0 2 = .ref c ∧ S1 c = some (4, 0) ∧ xCy S1 g1 c) ∧ (xSk S1 g1 a0) ∧ (xTp S1 g1 a0) ∧ (∀ k9 : Nat, xok S1 (xsl 12 k9) (g1 a0 k9))) := by
  refine xEnterUV (by decide) (by simp [lg_sl, Value.category]) [(0, .ref a0)] rfl ?_
  intro K E hK hret hS0 _ hini ht
  subst ht
  refine X_aloadn hK (i := 0) 0 dX11_init_0 rfl rfl ?_
  refine X_oinit hK ⟨m_1_10, m_1_11, m_1_12⟩ ⟨by decide, by simp [Value.category]⟩ dX11_init_1 ?_
  refine X_aloadn hK (i := 0) 0 dX11_init_4 rfl rfl ?_
  refine X_new hK nw_X11_7 (by omega) (by omega) dX11_init_5 (fun b1 S2 g3 zb1 nb1 hSb1 hg3 qb1 hs_b1 => ?_)
  have A4 : xLs S2 g3 := xLs_al (xAb.ls hp1) (hg3 ▸ xM_new (L := []) xM.rf nb1) rfl qb1 (xNw2.one hSb1) (by decide)
  refine X_dup hK dX11_init_8 rfl ?_
  refine X_callIU hK [] [.ref b1, .ref a0] li_X11_9 (c_X9_init _ _ _ _ _ S2 g3 b1 hs_b1) dX11_init_9 rfl rfl (by simp [Value.category]) (by decide) (by omega) (by omega) (by decide) (fun r5 S7 g6 dcr5 dsr5 pr5 qr5 hg6 => ?_)
  obtain ⟨wr5, rfl, k8, k9, k10⟩ := pr5
  have A11 : xLs S7 g6 := xLs_al A4 hg6 (by decide) qr5 wr5 (by decide)
  refine X_st [.ref b1, .ref a0] rfl ?_
  refine X_seal (ci := 10) zb1 (qr5 _ _ hs_b1) (by decide) k10 (fun a9 t9 n9 k9 _ _ _ c9 h9 => Or.inr (h9 ▸ xsl_raw t9 k9 (by omega))) (fun k9 => xsl_raw _ k9 (by omega)) (fun S12 hSy13 hs_y13 hoy13 => ?_)
  have hk14 := (xhs_seal hoy13 (qr5 _ _ hs_b1) (qr5 _ _ (qb1 _ _ hs_a0)) (by decide))
  have hk15 := (xhs_seal hoy13 (qr5 _ _ hs_b1) (qr5 _ _ (qb1 _ _ hp2)) (by decide))
  refine X_putF hK fl_X11_10_5012 (fun T9 N9 C9 h9 => by cases (Option.some.inj (h9.symm.trans (rfl : vwCl[12]? = some (RX11, TX11, 18)))); rfl) (hini rfl) hk14 (Or.inr (by decide)) (xokr 12 0 (by decide)) rfl rfl dX11_init_12 (fun g16 hg16 => ?_)
  refine X_aloadn hK (i := 0) 0 dX11_init_15 rfl rfl ?_
  refine X_new hK nw_X11_16 (by omega) (by omega) dX11_init_16 (fun b17 S18 g19 zb17 nb17 hSb17 hg19 qb17 hs_b17 => ?_)
  have A20 : xLs S18 g19 := xLs_al (xLs_up (xLs_seal A11 (qr5 _ _ hs_b1) hSy13 (by decide) (by decide)) hg16 hk14 (by decide)) (hg19 ▸ xM_new (L := []) xM.rf nb17) rfl qb17 (xNw2.one hSb17) (by decide)
  refine X_dup hK dX11_init_19 rfl ?_
  refine X_callIU hK [] [.ref b17, .ref a0] li_X11_18 (c_X5_init _ _ _ _ _ S18 g19 b17 hs_b17 (fun a9 t9 n9 h9 => ((xNw2.tr (xNw2.tr (xNw2.tr (xNw2.tr xNw2.rf (hSb1 ▸ xNw2.set (by decide)) (fun _ h => h)) wr5 (by decide)) (hSy13 ▸ xNw2.set (by decide)) (fun _ h => h)) (hSb17 ▸ xNw2.set (by decide)) (fun _ h => h)) a9 t9 n9 h9).elim (hp1 a9 t9 n9) (fun q9 => (show ∀ t8 ∈ [5010, 13500, 10, 5006], t8 ≠ 0 ∧ t8 ≠ 100 ∧ t8 ≠ 200 ∧ t8 ≠ 300 by decide) t9 q9)) (qb17 _ _ hk15)) dX11_init_20 rfl rfl (by simp [Value.category]) (by decide) (by omega) (by omega) (by decide) (fun r21 S23 g22 dcr21 dsr21 pr21 qr21 hg22 => ?_)
  obtain ⟨wr21, rfl, k24, k25, k26, k27, k28⟩ := pr21
  refine X_st [.ref b17, .ref a0] rfl ?_
  obtain ⟨b29, eb29, hs_b29, yb29⟩ := k25
  obtain ⟨b30, b31, b32, b33, eb30, hs_b30, zb30, eb31, hs_b31, zb31, eb32, hs_b32, zb32, eb33, hs_b33, zb33⟩ := yb29
  obtain ⟨b34, eb34, hs_b34, fb34⟩ := k26
  refine X_seal (ci := 6) zb17 (qr21 _ _ hs_b17) (by decide) k28 (fun a9 t9 n9 k9 _ _ _ c9 h9 => Or.inr (h9 ▸ xsl_raw t9 k9 (by omega))) (fun k9 => xsl_raw _ k9 (by omega)) (fun S35 hSy36 hs_y36 hoy36 => ?_)
  have hk37 := (xhs_seal hoy36 (qr21 _ _ hs_b17) (qr21 _ _ (qb17 _ _ hk14)) (by decide))
  have hk38 := (xhs_seal hoy36 (qr21 _ _ hs_b17) (qr21 _ _ (qb17 _ _ hk15)) (by decide))
  have hk39 := (xhs_seal hoy36 (qr21 _ _ hs_b17) (qr21 _ _ (qb17 _ _ hs_y13)) (by decide))
  have hk40 := (xhs_seal hoy36 (qr21 _ _ hs_b17) hs_b29 (by decide))
  have hk41 := (xhs_seal hoy36 (qr21 _ _ hs_b17) hs_b30 (by decide))
  have hk42 := (xhs_seal hoy36 (qr21 _ _ hs_b17) hs_b31 (by decide))
  have hk43 := (xhs_seal hoy36 (qr21 _ _ hs_b17) hs_b32 (by decide))
  have hk44 := (xhs_seal hoy36 (qr21 _ _ hs_b17) hs_b33 (by decide))
  have hk45 := (xhs_seal hoy36 (qr21 _ _ hs_b17) hs_b34 (by decide))
  refine X_putF hK fl_X11_19_5012 (fun T9 N9 C9 h9 => by cases (Option.some.inj (h9.symm.trans (rfl : vwCl[12]? = some (RX11, TX11, 18)))); rfl) (hini rfl) hk37 (Or.inr (by decide)) (xokr 12 1 (by decide)) rfl rfl dX11_init_23 (fun g46 hg46 => ?_)
  refine X_aloadn hK (i := 0) 0 dX11_init_26 rfl rfl ?_
  refine X_aloadn hK (i := 0) 0 dX11_init_27 rfl rfl ?_
  refine X_getK hK fl_X11_19_5012 hk37 (xs_s hg46) dX11_init_28 ?_
  refine X_getK hK fl_X11_23_6 hs_y36 ((xs_k hg46 (by decide)).trans eb29) dX11_init_31 ?_
  refine X_putF hK fl_X11_27_5012 (fun T9 N9 C9 h9 => by cases (Option.some.inj (h9.symm.trans (rfl : vwCl[12]? = some (RX11, TX11, 18)))); rfl) (hini rfl) hk37 (Or.inr (by decide)) (xokr 12 2 (by decide)) rfl rfl dX11_init_34 (fun g47 hg47 => ?_)
  refine X_aloadn hK (i := 0) 0 dX11_init_37 rfl rfl ?_
  refine X_new hK nw_X11_28 (by omega) (by omega) dX11_init_38 (fun b48 S49 g50 zb48 nb48 hSb48 hg50 qb48 hs_b48 => ?_)
  have A51 : xLs S49 g50 := xLs_al (xLs_up (xLs_up (xLs_seal k24 (qr21 _ _ hs_b17) hSy36 (by decide) (by decide)) hg46 hk37 (by decide)) hg47 hk37 (by decide)) (hg50 ▸ xM_new (L := []) xM.rf nb48) rfl qb48 (xNw2.one hSb48) (by decide)
  refine X_dup hK dX11_init_41 rfl ?_
  refine X_callIU hK [] [.ref b48, .ref a0] li_X11_30 (c_X4_init _ _ _ _ _ S49 g50 b48 hs_b48) dX11_init_42 rfl rfl (by simp [Value.category]) (by decide) (by omega) (by omega) (by decide) (fun r52 S54 g53 dcr52 dsr52 pr52 qr52 hg53 => ?_)
  obtain ⟨wr52, rfl, k55, k56, k57⟩ := pr52
  have A58 : xLs S54 g53 := xLs_al A51 hg53 (by decide) qr52 wr52 (by decide)
  refine X_st [.ref b48, .ref a0] rfl ?_
  refine X_seal (ci := 5) zb48 (qr52 _ _ hs_b48) (by decide) k57 (fun a9 t9 n9 k9 _ _ _ c9 h9 => Or.inr (h9 ▸ xsl_raw t9 k9 (by omega))) (fun k9 => xsl_raw _ k9 (by omega)) (fun S59 hSy60 hs_y60 hoy60 => ?_)
  have hk61 := (xhs_seal hoy60 (qr52 _ _ hs_b48) (qr52 _ _ (qb48 _ _ hk37)) (by decide))
  have hk62 := (xhs_seal hoy60 (qr52 _ _ hs_b48) (qr52 _ _ (qb48 _ _ hk38)) (by decide))
  have hk63 := (xhs_seal hoy60 (qr52 _ _ hs_b48) (qr52 _ _ (qb48 _ _ hk39)) (by decide))
  have hk64 := (xhs_seal hoy60 (qr52 _ _ hs_b48) (qr52 _ _ (qb48 _ _ hs_y36)) (by decide))
  have hk65 := (xhs_seal hoy60 (qr52 _ _ hs_b48) (qr52 _ _ (qb48 _ _ hk40)) (by decide))
  have hk66 := (xhs_seal hoy60 (qr52 _ _ hs_b48) (qr52 _ _ (qb48 _ _ hk41)) (by decide))
  have hk67 := (xhs_seal hoy60 (qr52 _ _ hs_b48) (qr52 _ _ (qb48 _ _ hk42)) (by decide))
  have hk68 := (xhs_seal hoy60 (qr52 _ _ hs_b48) (qr52 _ _ (qb48 _ _ hk43)) (by decide))
  have hk69 := (xhs_seal hoy60 (qr52 _ _ hs_b48) (qr52 _ _ (qb48 _ _ hk44)) (by decide))
  have hk70 := (xhs_seal hoy60 (qr52 _ _ hs_b48) (qr52 _ _ (qb48 _ _ hk45)) (by decide))
  refine X_putF hK fl_X11_31_5012 (fun T9 N9 C9 h9 => by cases (Option.some.inj (h9.symm.trans (rfl : vwCl[12]? = some (RX11, TX11, 18)))); rfl) (hini rfl) hk61 (Or.inr (by decide)) (xokr 12 3 (by decide)) rfl rfl dX11_init_45 (fun g71 hg71 => ?_)
  refine X_aloadn hK (i := 0) 0 dX11_init_48 rfl rfl ?_
  refine X_new hK nw_X11_35 (by omega) (by omega) dX11_init_49 (fun b72 S73 g74 zb72 nb72 hSb72 hg74 qb72 hs_b72 => ?_)
  have A75 : xLs S73 g74 := xLs_al (xLs_up (xLs_seal A58 (qr52 _ _ hs_b48) hSy60 (by decide) (by decide)) hg71 hk61 (by decide)) (hg74 ▸ xM_new (L := []) xM.rf nb72) rfl qb72 (xNw2.one hSb72) (by decide)
  refine X_dup hK dX11_init_52 rfl ?_
  refine X_callIU hK [] [.ref b72, .ref a0] li_X11_37 (c_Jx4a65c_init_da8c8 _ _ _ _ _ S73 g74 b72 hs_b72 (by rw [hg74, xrow_s]; rfl)) dX11_init_53 rfl rfl (by simp [Value.category]) (by decide) (by omega) (by omega) (by decide) (fun r76 S78 g77 dcr76 dsr76 pr76 qr76 hg77 => ?_)
  obtain ⟨wr76, rfl, k79, k80, k81, k82⟩ := pr76
  have A83 : xLs S78 g77 := xLs_al A75 hg77 (by decide) qr76 wr76 (by decide)
  refine X_st [.ref b72, .ref a0] rfl ?_
  refine X_sealT (τ := 300) zb72 (qr76 _ _ hs_b72) (by decide) (fun k9 => match k9 with | 0 => xk0 sl_300_0 k80 (by omega) (by omega) | 1 => (by show xok _ (xsl 300 1) _; rw [sl_300_1]; exact ⟨_, 0, k81, Or.inr (qr76 _ _ (qb72 _ _ hk62))⟩) | 2 => xk0 sl_300_2 k82 (by omega) (by omega) | n9 + 3 => xk9 (by rfl)) (fun a9 t9 n9 k9 _ _ _ c9 h9 => Or.inr (h9 ▸ xsl_raw t9 k9 (by omega))) (fun k9 => xsl_raw _ k9 (by omega)) (fun S84 hSy85 hs_y85 hoy85 => ?_)
  have hk86 := (xhs_seal hoy85 (qr76 _ _ hs_b72) (qr76 _ _ (qb72 _ _ hk61)) (by decide))
  have hk87 := (xhs_seal hoy85 (qr76 _ _ hs_b72) (qr76 _ _ (qb72 _ _ hk62)) (by decide))
  have hk88 := (xhs_seal hoy85 (qr76 _ _ hs_b72) (qr76 _ _ (qb72 _ _ hk63)) (by decide))
  have hk89 := (xhs_seal hoy85 (qr76 _ _ hs_b72) (qr76 _ _ (qb72 _ _ hk64)) (by decide))
  have hk90 := (xhs_seal hoy85 (qr76 _ _ hs_b72) (qr76 _ _ (qb72 _ _ hk65)) (by decide))
  have hk91 := (xhs_seal hoy85 (qr76 _ _ hs_b72) (qr76 _ _ (qb72 _ _ hk66)) (by decide))
  have hk92 := (xhs_seal hoy85 (qr76 _ _ hs_b72) (qr76 _ _ (qb72 _ _ hk67)) (by decide))
  have hk93 := (xhs_seal hoy85 (qr76 _ _ hs_b72) (qr76 _ _ (qb72 _ _ hk68)) (by decide))
  have hk94 := (xhs_seal hoy85 (qr76 _ _ hs_b72) (qr76 _ _ (qb72 _ _ hk69)) (by decide))
  have hk95 := (xhs_seal hoy85 (qr76 _ _ hs_b72) (qr76 _ _ (qb72 _ _ hk70)) (by decide))
  have hk96 := (xhs_seal hoy85 (qr76 _ _ hs_b72) (qr76 _ _ (qb72 _ _ hs_y60)) (by decide))
  refine X_putF hK fl_X11_38_5012 (fun T9 N9 C9 h9 => by cases (Option.some.inj (h9.symm.trans (rfl : vwCl[12]? = some (RX11, TX11, 18)))); rfl) (hini rfl) hk86 (Or.inr (by decide)) (xokr 12 4 (by decide)) rfl rfl dX11_init_56 (fun g97 hg97 => ?_)
  refine X_aloadn hK (i := 0) 0 dX11_init_59 rfl rfl ?_
  refine X_new hK nw_X11_42 (by omega) (by omega) dX11_init_60 (fun b98 S99 g100 zb98 nb98 hSb98 hg100 qb98 hs_b98 => ?_)
  have A101 : xLs S99 g100 := xLs_al (xLs_up (xLs_add_300 A83 (xab_n (fun a9 n9 h9 => absurd rfl (hp1 a9 _ n9 h9).2.2.2) (xNw2.tr (xNw2.tr (xNw2.tr (xNw2.tr (xNw2.tr (xNw2.tr (xNw2.tr (xNw2.tr (xNw2.tr (xNw2.tr (xNw2.tr xNw2.rf (hSb1 ▸ xNw2.set (by decide)) (fun _ h => h)) wr5 (by decide)) (hSy13 ▸ xNw2.set (by decide)) (fun _ h => h)) (hSb17 ▸ xNw2.set (by decide)) (fun _ h => h)) wr21 (by decide)) (hSy36 ▸ xNw2.set (by decide)) (fun _ h => h)) (hSb48 ▸ xNw2.set (by decide)) (fun _ h => h)) wr52 (by decide)) (hSy60 ▸ xNw2.set (by decide)) (fun _ h => h)) (hSb72 ▸ xNw2.set (by decide)) (fun _ h => h)) wr76 (by decide)) (show 300 ∉ [5010, 13500, 10, 5006, 5004, 4, 10700, 10904, 10800, 11000, 11100, 11304, 11200, 11400, 11604, 11500, 5000, 0, 100, 200, 12000, 6, 5005, 11700, 11800, 11900, 5, 5000] by decide)) (qr76 _ _ hs_b72) hSy85 k81 (qr76 _ _ (qb72 _ _ hk62)) (xne (qr76 _ _ (qb72 _ _ hk62)) (qr76 _ _ hs_b72) (by decide)) k82) hg97 hk86 (by decide)) (hg100 ▸ xM_new (L := []) xM.rf nb98) rfl qb98 (xNw2.one hSb98) (by decide)
  refine X_dup hK dX11_init_63 rfl ?_
  refine X_callIU hK [] [.ref b98, .ref a0] li_X11_44 (c_X10_init _ _ _ _ _ S99 g100 b98 hs_b98) dX11_init_64 rfl rfl (by simp [Value.category]) (by decide) (by omega) (by omega) (by decide) (fun r102 S104 g103 dcr102 dsr102 pr102 qr102 hg103 => ?_)
  obtain ⟨wr102, rfl, k105, k106⟩ := pr102
  have A107 : xLs S104 g103 := xLs_al A101 hg103 (by decide) qr102 wr102 (by decide)
  refine X_st [.ref b98, .ref a0] rfl ?_
  refine X_seal (ci := 11) zb98 (qr102 _ _ hs_b98) (by decide) k105 (fun a9 t9 n9 k9 _ _ _ c9 h9 => Or.inr (h9 ▸ xsl_raw t9 k9 (by omega))) (fun k9 => xsl_raw _ k9 (by omega)) (fun S108 hSy109 hs_y109 hoy109 => ?_)
  have hk110 := (xhs_seal hoy109 (qr102 _ _ hs_b98) (qr102 _ _ (qb98 _ _ hk86)) (by decide))
  have hk111 := (xhs_seal hoy109 (qr102 _ _ hs_b98) (qr102 _ _ (qb98 _ _ hk87)) (by decide))
  have hk112 := (xhs_seal hoy109 (qr102 _ _ hs_b98) (qr102 _ _ (qb98 _ _ hk88)) (by decide))
  have hk113 := (xhs_seal hoy109 (qr102 _ _ hs_b98) (qr102 _ _ (qb98 _ _ hk89)) (by decide))
  have hk114 := (xhs_seal hoy109 (qr102 _ _ hs_b98) (qr102 _ _ (qb98 _ _ hk90)) (by decide))
  have hk115 := (xhs_seal hoy109 (qr102 _ _ hs_b98) (qr102 _ _ (qb98 _ _ hk91)) (by decide))
  have hk116 := (xhs_seal hoy109 (qr102 _ _ hs_b98) (qr102 _ _ (qb98 _ _ hk92)) (by decide))
  have hk117 := (xhs_seal hoy109 (qr102 _ _ hs_b98) (qr102 _ _ (qb98 _ _ hk93)) (by decide))
  have hk118 := (xhs_seal hoy109 (qr102 _ _ hs_b98) (qr102 _ _ (qb98 _ _ hk94)) (by decide))
  have hk119 := (xhs_seal hoy109 (qr102 _ _ hs_b98) (qr102 _ _ (qb98 _ _ hk95)) (by decide))
  have hk120 := (xhs_seal hoy109 (qr102 _ _ hs_b98) (qr102 _ _ (qb98 _ _ hk96)) (by decide))
  have hk121 := (xhs_seal hoy109 (qr102 _ _ hs_b98) (qr102 _ _ (qb98 _ _ hs_y85)) (by decide))
  refine X_putF hK fl_X11_45_5012 (fun T9 N9 C9 h9 => by cases (Option.some.inj (h9.symm.trans (rfl : vwCl[12]? = some (RX11, TX11, 18)))); rfl) (hini rfl) hk110 (Or.inr (by decide)) (xokr 12 5 (by decide)) rfl rfl dX11_init_67 (fun g122 hg122 => ?_)
  refine X_aloadn hK (i := 0) 0 dX11_init_70 rfl rfl ?_
  refine X_new hK nw_X11_49 (by omega) (by omega) dX11_init_71 (fun b123 S124 g125 zb123 nb123 hSb123 hg125 qb123 hs_b123 => ?_)
  have A126 : xLs S124 g125 := xLs_al (xLs_up (xLs_seal A107 (qr102 _ _ hs_b98) hSy109 (by decide) (by decide)) hg122 hk110 (by decide)) (hg125 ▸ xM_new (L := []) xM.rf nb123) rfl qb123 (xNw2.one hSb123) (by decide)
  refine X_dup hK dX11_init_74 rfl ?_
  refine X_callIU hK [] [.ref b123, .ref a0] li_X11_51 (c_X7_init _ _ _ _ _ S124 g125 b123 hs_b123) dX11_init_75 rfl rfl (by simp [Value.category]) (by decide) (by omega) (by omega) (by decide) (fun r127 S129 g128 dcr127 dsr127 pr127 qr127 hg128 => ?_)
  obtain ⟨wr127, rfl, k130, k131⟩ := pr127
  have A132 : xLs S129 g128 := xLs_al A126 hg128 (by decide) qr127 wr127 (by decide)
  refine X_st [.ref b123, .ref a0] rfl ?_
  refine X_seal (ci := 8) zb123 (qr127 _ _ hs_b123) (by decide) k130 (fun a9 t9 n9 k9 _ _ _ c9 h9 => Or.inr (h9 ▸ xsl_raw t9 k9 (by omega))) (fun k9 => xsl_raw _ k9 (by omega)) (fun S133 hSy134 hs_y134 hoy134 => ?_)
  have hk135 := (xhs_seal hoy134 (qr127 _ _ hs_b123) (qr127 _ _ (qb123 _ _ hk110)) (by decide))
  have hk136 := (xhs_seal hoy134 (qr127 _ _ hs_b123) (qr127 _ _ (qb123 _ _ hk111)) (by decide))
  have hk137 := (xhs_seal hoy134 (qr127 _ _ hs_b123) (qr127 _ _ (qb123 _ _ hk112)) (by decide))
  have hk138 := (xhs_seal hoy134 (qr127 _ _ hs_b123) (qr127 _ _ (qb123 _ _ hk113)) (by decide))
  have hk139 := (xhs_seal hoy134 (qr127 _ _ hs_b123) (qr127 _ _ (qb123 _ _ hk114)) (by decide))
  have hk140 := (xhs_seal hoy134 (qr127 _ _ hs_b123) (qr127 _ _ (qb123 _ _ hk115)) (by decide))
  have hk141 := (xhs_seal hoy134 (qr127 _ _ hs_b123) (qr127 _ _ (qb123 _ _ hk116)) (by decide))
  have hk142 := (xhs_seal hoy134 (qr127 _ _ hs_b123) (qr127 _ _ (qb123 _ _ hk117)) (by decide))
  have hk143 := (xhs_seal hoy134 (qr127 _ _ hs_b123) (qr127 _ _ (qb123 _ _ hk118)) (by decide))
  have hk144 := (xhs_seal hoy134 (qr127 _ _ hs_b123) (qr127 _ _ (qb123 _ _ hk119)) (by decide))
  have hk145 := (xhs_seal hoy134 (qr127 _ _ hs_b123) (qr127 _ _ (qb123 _ _ hk120)) (by decide))
  have hk146 := (xhs_seal hoy134 (qr127 _ _ hs_b123) (qr127 _ _ (qb123 _ _ hk121)) (by decide))
  have hk147 := (xhs_seal hoy134 (qr127 _ _ hs_b123) (qr127 _ _ (qb123 _ _ hs_y109)) (by decide))
  refine X_putF hK fl_X11_52_5012 (fun T9 N9 C9 h9 => by cases (Option.some.inj (h9.symm.trans (rfl : vwCl[12]? = some (RX11, TX11, 18)))); rfl) (hini rfl) hk135 (Or.inr (by decide)) (xokr 12 6 (by decide)) rfl rfl dX11_init_78 (fun g148 hg148 => ?_)
  refine X_aloadn hK (i := 0) 0 dX11_init_81 rfl rfl ?_
  refine X_new hK nw_X11_42 (by omega) (by omega) dX11_init_82 (fun b149 S150 g151 zb149 nb149 hSb149 hg151 qb149 hs_b149 => ?_)
  have A152 : xLs S150 g151 := xLs_al (xLs_up (xLs_seal A132 (qr127 _ _ hs_b123) hSy134 (by decide) (by decide)) hg148 hk135 (by decide)) (hg151 ▸ xM_new (L := []) xM.rf nb149) rfl qb149 (xNw2.one hSb149) (by decide)
  refine X_dup hK dX11_init_85 rfl ?_
  refine X_callIU hK [] [.ref b149, .ref a0] li_X11_44 (c_X10_init _ _ _ _ _ S150 g151 b149 hs_b149) dX11_init_86 rfl rfl (by simp [Value.category]) (by decide) (by omega) (by omega) (by decide) (fun r153 S155 g154 dcr153 dsr153 pr153 qr153 hg154 => ?_)
  obtain ⟨wr153, rfl, k156, k157⟩ := pr153
  have A158 : xLs S155 g154 := xLs_al A152 hg154 (by decide) qr153 wr153 (by decide)
  refine X_st [.ref b149, .ref a0] rfl ?_
  refine X_seal (ci := 11) zb149 (qr153 _ _ hs_b149) (by decide) k156 (fun a9 t9 n9 k9 _ _ _ c9 h9 => Or.inr (h9 ▸ xsl_raw t9 k9 (by omega))) (fun k9 => xsl_raw _ k9 (by omega)) (fun S159 hSy160 hs_y160 hoy160 => ?_)
  have hk161 := (xhs_seal hoy160 (qr153 _ _ hs_b149) (qr153 _ _ (qb149 _ _ hk135)) (by decide))
  have hk162 := (xhs_seal hoy160 (qr153 _ _ hs_b149) (qr153 _ _ (qb149 _ _ hk136)) (by decide))
  have hk163 := (xhs_seal hoy160 (qr153 _ _ hs_b149) (qr153 _ _ (qb149 _ _ hk137)) (by decide))
  have hk164 := (xhs_seal hoy160 (qr153 _ _ hs_b149) (qr153 _ _ (qb149 _ _ hk138)) (by decide))
  have hk165 := (xhs_seal hoy160 (qr153 _ _ hs_b149) (qr153 _ _ (qb149 _ _ hk139)) (by decide))
  have hk166 := (xhs_seal hoy160 (qr153 _ _ hs_b149) (qr153 _ _ (qb149 _ _ hk140)) (by decide))
  have hk167 := (xhs_seal hoy160 (qr153 _ _ hs_b149) (qr153 _ _ (qb149 _ _ hk141)) (by decide))
  have hk168 := (xhs_seal hoy160 (qr153 _ _ hs_b149) (qr153 _ _ (qb149 _ _ hk142)) (by decide))
  have hk169 := (xhs_seal hoy160 (qr153 _ _ hs_b149) (qr153 _ _ (qb149 _ _ hk143)) (by decide))
  have hk170 := (xhs_seal hoy160 (qr153 _ _ hs_b149) (qr153 _ _ (qb149 _ _ hk144)) (by decide))
  have hk171 := (xhs_seal hoy160 (qr153 _ _ hs_b149) (qr153 _ _ (qb149 _ _ hk145)) (by decide))
  have hk172 := (xhs_seal hoy160 (qr153 _ _ hs_b149) (qr153 _ _ (qb149 _ _ hk146)) (by decide))
  have hk173 := (xhs_seal hoy160 (qr153 _ _ hs_b149) (qr153 _ _ (qb149 _ _ hk147)) (by decide))
  have hk174 := (xhs_seal hoy160 (qr153 _ _ hs_b149) (qr153 _ _ (qb149 _ _ hs_y134)) (by decide))
  refine X_putv hK fl_X11_56_5012 hk161 (by decide) (xokr 12 7 (by decide)) rfl rfl dX11_init_89 (fun g175 hg175 => ?_)
  refine X_aloadn hK (i := 0) 0 dX11_init_92 rfl rfl ?_
  refine X_new hK nw_X11_59 (by omega) (by omega) dX11_init_93 (fun b176 S177 g178 zb176 nb176 hSb176 hg178 qb176 hs_b176 => ?_)
  have A179 : xLs S177 g178 := xLs_al (xLs_up (xLs_seal A158 (qr153 _ _ hs_b149) hSy160 (by decide) (by decide)) hg175 hk161 (by decide)) (hg178 ▸ xM_new (L := []) xM.rf nb176) rfl qb176 (xNw2.one hSb176) (by decide)
  refine X_dup hK dX11_init_96 rfl ?_
  refine X_callIU hK [] [.ref b176, .ref a0] li_X11_61 (c_X2_init _ _ _ _ _ S177 g178 b176 hs_b176) dX11_init_97 rfl rfl (by simp [Value.category]) (by decide) (by omega) (by omega) (by decide) (fun r180 S182 g181 dcr180 dsr180 pr180 qr180 hg181 => ?_)
  obtain ⟨wr180, rfl, k183, k184⟩ := pr180
  have A185 : xLs S182 g181 := xLs_al A179 hg181 (by decide) qr180 wr180 (by decide)
  refine X_st [.ref b176, .ref a0] rfl ?_
  refine X_seal (ci := 3) zb176 (qr180 _ _ hs_b176) (by decide) k183 (fun a9 t9 n9 k9 _ _ _ c9 h9 => Or.inr (h9 ▸ xsl_raw t9 k9 (by omega))) (fun k9 => xsl_raw _ k9 (by omega)) (fun S186 hSy187 hs_y187 hoy187 => ?_)
  have hk188 := (xhs_seal hoy187 (qr180 _ _ hs_b176) (qr180 _ _ (qb176 _ _ hk161)) (by decide))
  have hk189 := (xhs_seal hoy187 (qr180 _ _ hs_b176) (qr180 _ _ (qb176 _ _ hk162)) (by decide))
  have hk190 := (xhs_seal hoy187 (qr180 _ _ hs_b176) (qr180 _ _ (qb176 _ _ hk163)) (by decide))
  have hk191 := (xhs_seal hoy187 (qr180 _ _ hs_b176) (qr180 _ _ (qb176 _ _ hk164)) (by decide))
  have hk192 := (xhs_seal hoy187 (qr180 _ _ hs_b176) (qr180 _ _ (qb176 _ _ hk165)) (by decide))
  have hk193 := (xhs_seal hoy187 (qr180 _ _ hs_b176) (qr180 _ _ (qb176 _ _ hk166)) (by decide))
  have hk194 := (xhs_seal hoy187 (qr180 _ _ hs_b176) (qr180 _ _ (qb176 _ _ hk167)) (by decide))
  have hk195 := (xhs_seal hoy187 (qr180 _ _ hs_b176) (qr180 _ _ (qb176 _ _ hk168)) (by decide))
  have hk196 := (xhs_seal hoy187 (qr180 _ _ hs_b176) (qr180 _ _ (qb176 _ _ hk169)) (by decide))
  have hk197 := (xhs_seal hoy187 (qr180 _ _ hs_b176) (qr180 _ _ (qb176 _ _ hk170)) (by decide))
  have hk198 := (xhs_seal hoy187 (qr180 _ _ hs_b176) (qr180 _ _ (qb176 _ _ hk171)) (by decide))
  have hk199 := (xhs_seal hoy187 (qr180 _ _ hs_b176) (qr180 _ _ (qb176 _ _ hk172)) (by decide))
  have hk200 := (xhs_seal hoy187 (qr180 _ _ hs_b176) (qr180 _ _ (qb176 _ _ hk173)) (by decide))
  have hk201 := (xhs_seal hoy187 (qr180 _ _ hs_b176) (qr180 _ _ (qb176 _ _ hk174)) (by decide))
  have hk202 := (xhs_seal hoy187 (qr180 _ _ hs_b176) (qr180 _ _ (qb176 _ _ hs_y160)) (by decide))
  refine X_putF hK fl_X11_62_5012 (fun T9 N9 C9 h9 => by cases (Option.some.inj (h9.symm.trans (rfl : vwCl[12]? = some (RX11, TX11, 18)))); rfl) (hini rfl) hk188 (Or.inr (by decide)) (xokr 12 8 (by decide)) rfl rfl dX11_init_100 (fun g203 hg203 => ?_)
  refine X_aloadn hK (i := 0) 0 dX11_init_103 rfl rfl ?_
  refine X_new hK nw_X11_66 (by omega) (by omega) dX11_init_104 (fun b204 S205 g206 zb204 nb204 hSb204 hg206 qb204 hs_b204 => ?_)
  have A207 : xLs S205 g206 := xLs_al (xLs_up (xLs_seal A185 (qr180 _ _ hs_b176) hSy187 (by decide) (by decide)) hg203 hk188 (by decide)) (hg206 ▸ xM_new (L := []) xM.rf nb204) rfl qb204 (xNw2.one hSb204) (by decide)
  refine X_dup hK dX11_init_107 rfl ?_
  refine X_callIU hK [] [.ref b204, .ref a0] li_X11_68 (c_X8_init _ _ _ _ _ S205 g206 b204 hs_b204 (xSi.nw (xSi.nw (xSi.nw (xSi.nw (xSi.nw (xSi.nw (xSi.nw (xSi.nw (xSi.nw (xSi.nw (xSi.nw (xSi.nw (xSi.nw (xSi.nw (xSi.nw (xSi.nw (xSi.nw (xSi.nw (xSi.nw (xSi.nw (xSi.nw (xSi.nw (xSi.nw (xSi.nw (xSi.nw hp0 (xNw2.one hSb1) (by decide)) wr5 (by decide)) (xNw2.one hSy13) (by decide)) (xNw2.one hSb17) (by decide)) wr21 (by decide)) (xNw2.one hSy36) (by decide)) (xNw2.one hSb48) (by decide)) wr52 (by decide)) (xNw2.one hSy60) (by decide)) (xNw2.one hSb72) (by decide)) wr76 (by decide)) (xNw2.one hSy85) (by decide)) (xNw2.one hSb98) (by decide)) wr102 (by decide)) (xNw2.one hSy109) (by decide)) (xNw2.one hSb123) (by decide)) wr127 (by decide)) (xNw2.one hSy134) (by decide)) (xNw2.one hSb149) (by decide)) wr153 (by decide)) (xNw2.one hSy160) (by decide)) (xNw2.one hSb176) (by decide)) wr180 (by decide)) (xNw2.one hSy187) (by decide)) (xNw2.one hSb204) (by decide))) dX11_init_108 rfl rfl (by simp [Value.category]) (by decide) (by omega) (by omega) (by decide) (fun r208 S210 g209 dcr208 dsr208 pr208 qr208 hg209 => ?_)
  obtain ⟨wr208, rfl, k211, k212, k213⟩ := pr208
  have A214 : xLs S210 g209 := xLs_al A207 hg209 (by decide) qr208 wr208 (by decide)
  refine X_st [.ref b204, .ref a0] rfl ?_
  refine X_seal (ci := 9) zb204 (qr208 _ _ hs_b204) (by decide) k213 (fun a9 t9 n9 k9 _ _ _ c9 h9 => Or.inr (h9 ▸ xsl_raw t9 k9 (by omega))) (fun k9 => xsl_raw _ k9 (by omega)) (fun S215 hSy216 hs_y216 hoy216 => ?_)
  have hk217 := (xhs_seal hoy216 (qr208 _ _ hs_b204) (qr208 _ _ (qb204 _ _ hk188)) (by decide))
  have hk218 := (xhs_seal hoy216 (qr208 _ _ hs_b204) (qr208 _ _ (qb204 _ _ hk189)) (by decide))
  have hk219 := (xhs_seal hoy216 (qr208 _ _ hs_b204) (qr208 _ _ (qb204 _ _ hk190)) (by decide))
  have hk220 := (xhs_seal hoy216 (qr208 _ _ hs_b204) (qr208 _ _ (qb204 _ _ hk191)) (by decide))
  have hk221 := (xhs_seal hoy216 (qr208 _ _ hs_b204) (qr208 _ _ (qb204 _ _ hk192)) (by decide))
  have hk222 := (xhs_seal hoy216 (qr208 _ _ hs_b204) (qr208 _ _ (qb204 _ _ hk193)) (by decide))
  have hk223 := (xhs_seal hoy216 (qr208 _ _ hs_b204) (qr208 _ _ (qb204 _ _ hk194)) (by decide))
  have hk224 := (xhs_seal hoy216 (qr208 _ _ hs_b204) (qr208 _ _ (qb204 _ _ hk195)) (by decide))
  have hk225 := (xhs_seal hoy216 (qr208 _ _ hs_b204) (qr208 _ _ (qb204 _ _ hk196)) (by decide))
  have hk226 := (xhs_seal hoy216 (qr208 _ _ hs_b204) (qr208 _ _ (qb204 _ _ hk197)) (by decide))
  have hk227 := (xhs_seal hoy216 (qr208 _ _ hs_b204) (qr208 _ _ (qb204 _ _ hk198)) (by decide))
  have hk228 := (xhs_seal hoy216 (qr208 _ _ hs_b204) (qr208 _ _ (qb204 _ _ hk199)) (by decide))
  have hk229 := (xhs_seal hoy216 (qr208 _ _ hs_b204) (qr208 _ _ (qb204 _ _ hk200)) (by decide))
  have hk230 := (xhs_seal hoy216 (qr208 _ _ hs_b204) (qr208 _ _ (qb204 _ _ hk201)) (by decide))
  have hk231 := (xhs_seal hoy216 (qr208 _ _ hs_b204) (qr208 _ _ (qb204 _ _ hk202)) (by decide))
  have hk232 := (xhs_seal hoy216 (qr208 _ _ hs_b204) (qr208 _ _ (qb204 _ _ hs_y187)) (by decide))
  refine X_putF hK fl_X11_69_5012 (fun T9 N9 C9 h9 => by cases (Option.some.inj (h9.symm.trans (rfl : vwCl[12]? = some (RX11, TX11, 18)))); rfl) (hini rfl) hk217 (Or.inr (by decide)) (xokr 12 9 (by decide)) rfl rfl dX11_init_111 (fun g233 hg233 => ?_)
  refine X_aloadn hK (i := 0) 0 dX11_init_114 rfl rfl ?_
  refine X_new hK nw_X11_73 (by omega) (by omega) dX11_init_115 (fun b234 S235 g236 zb234 nb234 hSb234 hg236 qb234 hs_b234 => ?_)
  have A237 : xLs S235 g236 := xLs_al (xLs_up (xLs_seal A214 (qr208 _ _ hs_b204) hSy216 (by decide) (by decide)) hg233 hk217 (by decide)) (hg236 ▸ xM_new (L := []) xM.rf nb234) rfl qb234 (xNw2.one hSb234) (by decide)
  refine X_dup hK dX11_init_118 rfl ?_
  refine X_callIU hK [] [.ref b234, .ref a0] li_X11_75 (c_X6_init _ _ _ _ _ S235 g236 b234 hs_b234) dX11_init_119 rfl rfl (by simp [Value.category]) (by decide) (by omega) (by omega) (by decide) (fun r238 S240 g239 dcr238 dsr238 pr238 qr238 hg239 => ?_)
  obtain ⟨wr238, rfl, k241, k242, k243, k244⟩ := pr238
  have A245 : xLs S240 g239 := xLs_al A237 hg239 (by decide) qr238 wr238 (by decide)
  refine X_st [.ref b234, .ref a0] rfl ?_
  obtain ⟨b246, eb246, nb246, hs_b246⟩ := k242
  refine X_seal (ci := 7) zb234 (qr238 _ _ hs_b234) (by decide) k244 (fun a9 t9 n9 k9 _ _ _ c9 h9 => Or.inr (h9 ▸ xsl_raw t9 k9 (by omega))) (fun k9 => xsl_raw _ k9 (by omega)) (fun S247 hSy248 hs_y248 hoy248 => ?_)
  have hk249 := (xhs_seal hoy248 (qr238 _ _ hs_b234) (qr238 _ _ (qb234 _ _ hk217)) (by decide))
  have hk250 := (xhs_seal hoy248 (qr238 _ _ hs_b234) (qr238 _ _ (qb234 _ _ hk218)) (by decide))
  have hk251 := (xhs_seal hoy248 (qr238 _ _ hs_b234) (qr238 _ _ (qb234 _ _ hk219)) (by decide))
  have hk252 := (xhs_seal hoy248 (qr238 _ _ hs_b234) (qr238 _ _ (qb234 _ _ hk220)) (by decide))
  have hk253 := (xhs_seal hoy248 (qr238 _ _ hs_b234) (qr238 _ _ (qb234 _ _ hk221)) (by decide))
  have hk254 := (xhs_seal hoy248 (qr238 _ _ hs_b234) (qr238 _ _ (qb234 _ _ hk222)) (by decide))
  have hk255 := (xhs_seal hoy248 (qr238 _ _ hs_b234) (qr238 _ _ (qb234 _ _ hk223)) (by decide))
  have hk256 := (xhs_seal hoy248 (qr238 _ _ hs_b234) (qr238 _ _ (qb234 _ _ hk224)) (by decide))
  have hk257 := (xhs_seal hoy248 (qr238 _ _ hs_b234) (qr238 _ _ (qb234 _ _ hk225)) (by decide))
  have hk258 := (xhs_seal hoy248 (qr238 _ _ hs_b234) (qr238 _ _ (qb234 _ _ hk226)) (by decide))
  have hk259 := (xhs_seal hoy248 (qr238 _ _ hs_b234) (qr238 _ _ (qb234 _ _ hk227)) (by decide))
  have hk260 := (xhs_seal hoy248 (qr238 _ _ hs_b234) (qr238 _ _ (qb234 _ _ hk228)) (by decide))
  have hk261 := (xhs_seal hoy248 (qr238 _ _ hs_b234) (qr238 _ _ (qb234 _ _ hk229)) (by decide))
  have hk262 := (xhs_seal hoy248 (qr238 _ _ hs_b234) (qr238 _ _ (qb234 _ _ hk230)) (by decide))
  have hk263 := (xhs_seal hoy248 (qr238 _ _ hs_b234) (qr238 _ _ (qb234 _ _ hk231)) (by decide))
  have hk264 := (xhs_seal hoy248 (qr238 _ _ hs_b234) (qr238 _ _ (qb234 _ _ hk232)) (by decide))
  have hk265 := (xhs_seal hoy248 (qr238 _ _ hs_b234) (qr238 _ _ (qb234 _ _ hs_y216)) (by decide))
  have hk266 := (xhs_seal hoy248 (qr238 _ _ hs_b234) hs_b246 (by decide))
  refine X_putv hK fl_X11_76_5012 hk249 (by decide) (xokr 12 10 (by decide)) rfl rfl dX11_init_122 (fun g267 hg267 => ?_)
  refine X_aloadn hK (i := 0) 0 dX11_init_125 rfl rfl ?_
  refine X_new hK nw_X11_73 (by omega) (by omega) dX11_init_126 (fun b268 S269 g270 zb268 nb268 hSb268 hg270 qb268 hs_b268 => ?_)
  have A271 : xLs S269 g270 := xLs_al (xLs_up (xLs_seal A245 (qr238 _ _ hs_b234) hSy248 (by decide) (by decide)) hg267 hk249 (by decide)) (hg270 ▸ xM_new (L := []) xM.rf nb268) rfl qb268 (xNw2.one hSb268) (by decide)
  refine X_dup hK dX11_init_129 rfl ?_
  refine X_callIU hK [] [.ref b268, .ref a0] li_X11_75 (c_X6_init _ _ _ _ _ S269 g270 b268 hs_b268) dX11_init_130 rfl rfl (by simp [Value.category]) (by decide) (by omega) (by omega) (by decide) (fun r272 S274 g273 dcr272 dsr272 pr272 qr272 hg273 => ?_)
  obtain ⟨wr272, rfl, k275, k276, k277, k278⟩ := pr272
  have A279 : xLs S274 g273 := xLs_al A271 hg273 (by decide) qr272 wr272 (by decide)
  refine X_st [.ref b268, .ref a0] rfl ?_
  obtain ⟨b280, eb280, nb280, hs_b280⟩ := k276
  refine X_seal (ci := 7) zb268 (qr272 _ _ hs_b268) (by decide) k278 (fun a9 t9 n9 k9 _ _ _ c9 h9 => Or.inr (h9 ▸ xsl_raw t9 k9 (by omega))) (fun k9 => xsl_raw _ k9 (by omega)) (fun S281 hSy282 hs_y282 hoy282 => ?_)
  have hk283 := (xhs_seal hoy282 (qr272 _ _ hs_b268) (qr272 _ _ (qb268 _ _ hk249)) (by decide))
  have hk284 := (xhs_seal hoy282 (qr272 _ _ hs_b268) (qr272 _ _ (qb268 _ _ hk250)) (by decide))
  have hk285 := (xhs_seal hoy282 (qr272 _ _ hs_b268) (qr272 _ _ (qb268 _ _ hk251)) (by decide))
  have hk286 := (xhs_seal hoy282 (qr272 _ _ hs_b268) (qr272 _ _ (qb268 _ _ hk252)) (by decide))
  have hk287 := (xhs_seal hoy282 (qr272 _ _ hs_b268) (qr272 _ _ (qb268 _ _ hk253)) (by decide))
  have hk288 := (xhs_seal hoy282 (qr272 _ _ hs_b268) (qr272 _ _ (qb268 _ _ hk254)) (by decide))
  have hk289 := (xhs_seal hoy282 (qr272 _ _ hs_b268) (qr272 _ _ (qb268 _ _ hk255)) (by decide))
  have hk290 := (xhs_seal hoy282 (qr272 _ _ hs_b268) (qr272 _ _ (qb268 _ _ hk256)) (by decide))
  have hk291 := (xhs_seal hoy282 (qr272 _ _ hs_b268) (qr272 _ _ (qb268 _ _ hk257)) (by decide))
  have hk292 := (xhs_seal hoy282 (qr272 _ _ hs_b268) (qr272 _ _ (qb268 _ _ hk258)) (by decide))
  have hk293 := (xhs_seal hoy282 (qr272 _ _ hs_b268) (qr272 _ _ (qb268 _ _ hk259)) (by decide))
  have hk294 := (xhs_seal hoy282 (qr272 _ _ hs_b268) (qr272 _ _ (qb268 _ _ hk260)) (by decide))
  have hk295 := (xhs_seal hoy282 (qr272 _ _ hs_b268) (qr272 _ _ (qb268 _ _ hk261)) (by decide))
  have hk296 := (xhs_seal hoy282 (qr272 _ _ hs_b268) (qr272 _ _ (qb268 _ _ hk262)) (by decide))
  have hk297 := (xhs_seal hoy282 (qr272 _ _ hs_b268) (qr272 _ _ (qb268 _ _ hk263)) (by decide))
  have hk298 := (xhs_seal hoy282 (qr272 _ _ hs_b268) (qr272 _ _ (qb268 _ _ hk264)) (by decide))
  have hk299 := (xhs_seal hoy282 (qr272 _ _ hs_b268) (qr272 _ _ (qb268 _ _ hk265)) (by decide))
  have hk300 := (xhs_seal hoy282 (qr272 _ _ hs_b268) (qr272 _ _ (qb268 _ _ hs_y248)) (by decide))
  have hk301 := (xhs_seal hoy282 (qr272 _ _ hs_b268) (qr272 _ _ (qb268 _ _ hk266)) (by decide))
  have hk302 := (xhs_seal hoy282 (qr272 _ _ hs_b268) hs_b280 (by decide))
  refine X_putv hK fl_X11_80_5012 hk283 (by decide) (xokr 12 11 (by decide)) rfl rfl dX11_init_133 (fun g303 hg303 => ?_)
  refine X_aloadn hK (i := 0) 0 dX11_init_136 rfl rfl ?_
  refine X_iconst hK dX11_init_137 ?_
  refine X_putv hK fl_X11_83_5012 hk283 (by decide) (xokr 12 12 (by decide)) rfl rfl dX11_init_138 (fun g304 hg304 => ?_)
  refine X_aloadn hK (i := 0) 0 dX11_init_141 rfl rfl ?_
  refine X_iconst hK dX11_init_142 ?_
  refine X_putv hK fl_X11_87_5012 hk283 (by decide) (xokr 12 13 (by decide)) rfl rfl dX11_init_143 (fun g305 hg305 => ?_)
  refine X_aloadn hK (i := 0) 0 dX11_init_146 rfl rfl ?_
  refine X_iconst hK dX11_init_147 ?_
  refine X_putv hK fl_X11_90_5012 hk283 (by decide) (xokr 12 14 (by decide)) rfl rfl dX11_init_148 (fun g306 hg306 => ?_)
  refine X_aloadn hK (i := 0) 0 dX11_init_151 rfl rfl ?_
  refine X_iconst hK dX11_init_152 ?_
  refine X_putv hK fl_X11_93_5012 hk283 (by decide) (xokr 12 15 (by decide)) rfl rfl dX11_init_153 (fun g307 hg307 => ?_)
  refine X_aloadn hK (i := 0) 0 dX11_init_156 rfl rfl ?_
  refine X_iconst hK dX11_init_157 ?_
  refine X_putv hK fl_X11_96_5012 hk283 (by decide) (xokr 12 16 (by decide)) rfl rfl dX11_init_158 (fun g308 hg308 => ?_)
  refine X_aloadn hK (i := 0) 0 dX11_init_161 rfl rfl ?_
  refine X_iconst hK dX11_init_162 ?_
  refine X_putv hK fl_X11_99_5012 hk283 (by decide) (xokr 12 17 (by decide)) rfl rfl dX11_init_163 (fun g309 hg309 => ?_)
  exact hret _ _ _ _ _ _ dX11_init_166 ⟨(xNw2.tr (xNw2.tr (xNw2.tr (xNw2.tr (xNw2.tr (xNw2.tr (xNw2.tr (xNw2.tr (xNw2.tr (xNw2.tr (xNw2.tr (xNw2.tr (xNw2.tr (xNw2.tr (xNw2.tr (xNw2.tr (xNw2.tr (xNw2.tr (xNw2.tr (xNw2.tr (xNw2.tr (xNw2.tr (xNw2.tr (xNw2.tr (xNw2.tr (xNw2.tr (xNw2.tr (xNw2.tr (xNw2.tr (xNw2.tr (xNw2.tr (xNw2.tr (xNw2.tr xNw2.rf (hSb1 ▸ xNw2.set (by decide)) (fun _ h => h)) wr5 (by decide)) (hSy13 ▸ xNw2.set (by decide)) (fun _ h => h)) (hSb17 ▸ xNw2.set (by decide)) (fun _ h => h)) wr21 (by decide)) (hSy36 ▸ xNw2.set (by decide)) (fun _ h => h)) (hSb48 ▸ xNw2.set (by decide)) (fun _ h => h)) wr52 (by decide)) (hSy60 ▸ xNw2.set (by decide)) (fun _ h => h)) (hSb72 ▸ xNw2.set (by decide)) (fun _ h => h)) wr76 (by decide)) (hSy85 ▸ xNw2.set (by decide)) (fun _ h => h)) (hSb98 ▸ xNw2.set (by decide)) (fun _ h => h)) wr102 (by decide)) (hSy109 ▸ xNw2.set (by decide)) (fun _ h => h)) (hSb123 ▸ xNw2.set (by decide)) (fun _ h => h)) wr127 (by decide)) (hSy134 ▸ xNw2.set (by decide)) (fun _ h => h)) (hSb149 ▸ xNw2.set (by decide)) (fun _ h => h)) wr153 (by decide)) (hSy160 ▸ xNw2.set (by decide)) (fun _ h => h)) (hSb176 ▸ xNw2.set (by decide)) (fun _ h => h)) wr180 (by decide)) (hSy187 ▸ xNw2.set (by decide)) (fun _ h => h)) (hSb204 ▸ xNw2.set (by decide)) (fun _ h => h)) wr208 (by decide)) (hSy216 ▸ xNw2.set (by decide)) (fun _ h => h)) (hSb234 ▸ xNw2.set (by decide)) (fun _ h => h)) wr238 (by decide)) (hSy248 ▸ xNw2.set (by decide)) (fun _ h => h)) (hSb268 ▸ xNw2.set (by decide)) (fun _ h => h)) wr272 (by decide)) (hSy282 ▸ xNw2.set (by decide)) (fun _ h => h)), rfl, (xLs_up (xLs_up (xLs_up (xLs_up (xLs_up (xLs_up (xLs_up (xLs_seal A279 (qr272 _ _ hs_b268) hSy282 (by decide) (by decide)) hg303 hk283 (by decide)) hg304 hk283 (by decide)) hg305 hk283 (by decide)) hg306 hk283 (by decide)) hg307 hk283 (by decide)) hg308 hk283 (by decide)) hg309 hk283 (by decide)), (xSi.nw (xSi.nw (xSi.nw (xSi.nw (xSi.nw (xSi.nw (xSi.nw k211 (xNw2.one hSy216) (by decide)) (xNw2.one hSb234) (by decide)) wr238 (by decide)) (xNw2.one hSy248) (by decide)) (xNw2.one hSb268) (by decide)) wr272 (by decide)) (xNw2.one hSy282) (by decide)), (by omega), ⟨b234, b268, b246, b280, ((xs_k hg309 (by decide)).trans ((xs_k hg308 (by decide)).trans ((xs_k hg307 (by decide)).trans ((xs_k hg306 (by decide)).trans ((xs_k hg305 (by decide)).trans ((xs_k hg304 (by decide)).trans ((xs_k hg303 (by decide)).trans ((hg273 a0 5012 0 10 (qb268 _ _ hk249) (by decide)).trans ((xs_n hg270 hk249 nb268).trans (xs_s hg267)))))))))), ((xs_k hg309 (by decide)).trans ((xs_k hg308 (by decide)).trans ((xs_k hg307 (by decide)).trans ((xs_k hg306 (by decide)).trans ((xs_k hg305 (by decide)).trans ((xs_k hg304 (by decide)).trans (xs_s hg303))))))), (fun e9 => by have h9 := hs_y248; rw [e9, nb268] at h9; cases h9), hk300, hs_y282, ((xs_k hg309 (by decide)).trans ((xs_k hg308 (by decide)).trans ((xs_k hg307 (by decide)).trans ((xs_k hg306 (by decide)).trans ((xs_k hg305 (by decide)).trans ((xs_k hg304 (by decide)).trans ((xs_k hg303 (by decide)).trans ((hg273 b234 7 0 3 (qb268 _ _ hs_y248) (by decide)).trans ((xs_n hg270 hs_y248 nb268).trans ((xs_k hg267 (by decide)).trans eb246)))))))))), ((xs_k hg309 (by decide)).trans ((xs_k hg308 (by decide)).trans ((xs_k hg307 (by decide)).trans ((xs_k hg306 (by decide)).trans ((xs_k hg305 (by decide)).trans ((xs_k hg304 (by decide)).trans ((xs_k hg303 (by decide)).trans eb280))))))), (fun e9 => by have h9 := (qb268 _ _ hk266); rw [e9, nb280] at h9; cases h9), hk301, hk302, ((xs_k hg309 (by decide)).trans ((xs_k hg308 (by decide)).trans ((xs_k hg307 (by decide)).trans ((xs_k hg306 (by decide)).trans ((xs_k hg305 (by decide)).trans ((xs_k hg304 (by decide)).trans ((xs_k hg303 (by decide)).trans ((hg273 b234 7 0 0 (qb268 _ _ hs_y248) (by decide)).trans ((xs_n hg270 hs_y248 nb268).trans ((xs_k hg267 (by decide)).trans k241))))))))))⟩, (((xs_k hg309 (by decide)).trans (xs_s hg308)).trans (by congr 2 <;> omega)), ((xs_s hg309).trans (by congr 2 <;> omega)), ⟨b29, ((xs_k hg309 (by decide)).trans ((xs_k hg308 (by decide)).trans ((xs_k hg307 (by decide)).trans ((xs_k hg306 (by decide)).trans ((xs_k hg305 (by decide)).trans ((xs_k hg304 (by decide)).trans ((xs_k hg303 (by decide)).trans ((hg273 a0 5012 0 2 (qb268 _ _ hk249) (by decide)).trans ((xs_n hg270 hk249 nb268).trans ((xs_k hg267 (by decide)).trans ((hg239 a0 5012 0 2 (qb234 _ _ hk217) (by decide)).trans ((xs_n hg236 hk217 nb234).trans ((xs_k hg233 (by decide)).trans ((hg209 a0 5012 0 2 (qb204 _ _ hk188) (by decide)).trans ((xs_n hg206 hk188 nb204).trans ((xs_k hg203 (by decide)).trans ((hg181 a0 5012 0 2 (qb176 _ _ hk161) (by decide)).trans ((xs_n hg178 hk161 nb176).trans ((xs_k hg175 (by decide)).trans ((hg154 a0 5012 0 2 (qb149 _ _ hk135) (by decide)).trans ((xs_n hg151 hk135 nb149).trans ((xs_k hg148 (by decide)).trans ((hg128 a0 5012 0 2 (qb123 _ _ hk110) (by decide)).trans ((xs_n hg125 hk110 nb123).trans ((xs_k hg122 (by decide)).trans ((hg103 a0 5012 0 2 (qb98 _ _ hk86) (by decide)).trans ((xs_n hg100 hk86 nb98).trans ((xs_k hg97 (by decide)).trans ((hg77 a0 5012 0 2 (qb72 _ _ hk61) (by decide)).trans ((xs_n hg74 hk61 nb72).trans ((xs_k hg71 (by decide)).trans ((hg53 a0 5012 0 2 (qb48 _ _ hk37) (by decide)).trans ((xs_n hg50 hk37 nb48).trans (xs_s hg47)))))))))))))))))))))))))))))))))), hk287, ⟨b30, b31, b32, b33, ((xs_k hg309 (by decide)).trans ((xs_k hg308 (by decide)).trans ((xs_k hg307 (by decide)).trans ((xs_k hg306 (by decide)).trans ((xs_k hg305 (by decide)).trans ((xs_k hg304 (by decide)).trans ((xs_k hg303 (by decide)).trans ((hg273 b29 4 0 0 (qb268 _ _ hk253) (by decide)).trans ((xs_n hg270 hk253 nb268).trans ((xs_k hg267 (by decide)).trans ((hg239 b29 4 0 0 (qb234 _ _ hk221) (by decide)).trans ((xs_n hg236 hk221 nb234).trans ((xs_k hg233 (by decide)).trans ((hg209 b29 4 0 0 (qb204 _ _ hk192) (by decide)).trans ((xs_n hg206 hk192 nb204).trans ((xs_k hg203 (by decide)).trans ((hg181 b29 4 0 0 (qb176 _ _ hk165) (by decide)).trans ((xs_n hg178 hk165 nb176).trans ((xs_k hg175 (by decide)).trans ((hg154 b29 4 0 0 (qb149 _ _ hk139) (by decide)).trans ((xs_n hg151 hk139 nb149).trans ((xs_k hg148 (by decide)).trans ((hg128 b29 4 0 0 (qb123 _ _ hk114) (by decide)).trans ((xs_n hg125 hk114 nb123).trans ((xs_k hg122 (by decide)).trans ((hg103 b29 4 0 0 (qb98 _ _ hk90) (by decide)).trans ((xs_n hg100 hk90 nb98).trans ((xs_k hg97 (by decide)).trans ((hg77 b29 4 0 0 (qb72 _ _ hk65) (by decide)).trans ((xs_n hg74 hk65 nb72).trans ((xs_k hg71 (by decide)).trans ((hg53 b29 4 0 0 (qb48 _ _ hk40) (by decide)).trans ((xs_n hg50 hk40 nb48).trans ((xs_k hg47 (by decide)).trans ((xs_k hg46 (by decide)).trans eb30))))))))))))))))))))))))))))))))))), hk288, (by rw [(Eq.trans (Eq.trans (Eq.trans (Eq.trans (Eq.trans (Eq.trans (Eq.trans (Eq.trans (Eq.trans (Eq.trans (Eq.trans (Eq.trans (Eq.trans (Eq.trans (Eq.trans (Eq.trans (Eq.trans (Eq.trans (Eq.trans (Eq.trans (Eq.trans (Eq.trans (Eq.trans (Eq.trans (Eq.trans (Eq.trans (Eq.trans (Eq.trans (Eq.trans (Eq.trans (Eq.trans (Eq.trans (Eq.trans (Eq.trans (xv_a hg309 (xne hk288 hk283 (by decide))) (xv_a hg308 (xne hk288 hk283 (by decide)))) (xv_a hg307 (xne hk288 hk283 (by decide)))) (xv_a hg306 (xne hk288 hk283 (by decide)))) (xv_a hg305 (xne hk288 hk283 (by decide)))) (xv_a hg304 (xne hk288 hk283 (by decide)))) (xv_a hg303 (xne hk288 hk283 (by decide)))) (xv_m hg273 (qb268 _ _ hk254) (by decide) (by decide))) (xv_n hg270 hk254 nb268)) (xv_a hg267 (xne hk288 hk283 (by decide)))) (xv_m hg239 (qb234 _ _ hk222) (by decide) (by decide))) (xv_n hg236 hk222 nb234)) (xv_a hg233 (xne hk288 hk283 (by decide)))) (xv_m hg209 (qb204 _ _ hk193) (by decide) (by decide))) (xv_n hg206 hk193 nb204)) (xv_a hg203 (xne hk288 hk283 (by decide)))) (xv_m hg181 (qb176 _ _ hk166) (by decide) (by decide))) (xv_n hg178 hk166 nb176)) (xv_a hg175 (xne hk288 hk283 (by decide)))) (xv_m hg154 (qb149 _ _ hk140) (by decide) (by decide))) (xv_n hg151 hk140 nb149)) (xv_a hg148 (xne hk288 hk283 (by decide)))) (xv_m hg128 (qb123 _ _ hk115) (by decide) (by decide))) (xv_n hg125 hk115 nb123)) (xv_a hg122 (xne hk288 hk283 (by decide)))) (xv_m hg103 (qb98 _ _ hk91) (by decide) (by decide))) (xv_n hg100 hk91 nb98)) (xv_a hg97 (xne hk288 hk283 (by decide)))) (xv_m hg77 (qb72 _ _ hk66) (by decide) (by decide))) (xv_n hg74 hk66 nb72)) (xv_a hg71 (xne hk288 hk283 (by decide)))) (xv_m hg53 (qb48 _ _ hk41) (by decide) (by decide))) (xv_n hg50 hk41 nb48)) (xv_a hg47 (xne hk288 hk283 (by decide)))) (xv_a hg46 (xne hk288 hk283 (by decide))))]; exact zb30), ((xs_k hg309 (by decide)).trans ((xs_k hg308 (by decide)).trans ((xs_k hg307 (by decide)).trans ((xs_k hg306 (by decide)).trans ((xs_k hg305 (by decide)).trans ((xs_k hg304 (by decide)).trans ((xs_k hg303 (by decide)).trans ((hg273 b29 4 0 2 (qb268 _ _ hk253) (by decide)).trans ((xs_n hg270 hk253 nb268).trans ((xs_k hg267 (by decide)).trans ((hg239 b29 4 0 2 (qb234 _ _ hk221) (by decide)).trans ((xs_n hg236 hk221 nb234).trans ((xs_k hg233 (by decide)).trans ((hg209 b29 4 0 2 (qb204 _ _ hk192) (by decide)).trans ((xs_n hg206 hk192 nb204).trans ((xs_k hg203 (by decide)).trans ((hg181 b29 4 0 2 (qb176 _ _ hk165) (by decide)).trans ((xs_n hg178 hk165 nb176).trans ((xs_k hg175 (by decide)).trans ((hg154 b29 4 0 2 (qb149 _ _ hk139) (by decide)).trans ((xs_n hg151 hk139 nb149).trans ((xs_k hg148 (by decide)).trans ((hg128 b29 4 0 2 (qb123 _ _ hk114) (by decide)).trans ((xs_n hg125 hk114 nb123).trans ((xs_k hg122 (by decide)).trans ((hg103 b29 4 0 2 (qb98 _ _ hk90) (by decide)).trans ((xs_n hg100 hk90 nb98).trans ((xs_k hg97 (by decide)).trans ((hg77 b29 4 0 2 (qb72 _ _ hk65) (by decide)).trans ((xs_n hg74 hk65 nb72).trans ((xs_k hg71 (by decide)).trans ((hg53 b29 4 0 2 (qb48 _ _ hk40) (by decide)).trans ((xs_n hg50 hk40 nb48).trans ((xs_a hg47 (xne hk287 hk283 (by decide))).trans ((xs_k hg46 (by decide)).trans eb31))))))))))))))))))))))))))))))))))), hk289, (by rw [(Eq.trans (Eq.trans (Eq.trans (Eq.trans (Eq.trans (Eq.trans (Eq.trans (Eq.trans (Eq.trans (Eq.trans (Eq.trans (Eq.trans (Eq.trans (Eq.trans (Eq.trans (Eq.trans (Eq.trans (Eq.trans (Eq.trans (Eq.trans (Eq.trans (Eq.trans (Eq.trans (Eq.trans (Eq.trans (Eq.trans (Eq.trans (Eq.trans (Eq.trans (Eq.trans (Eq.trans (Eq.trans (Eq.trans (Eq.trans (xv_a hg309 (xne hk289 hk283 (by decide))) (xv_a hg308 (xne hk289 hk283 (by decide)))) (xv_a hg307 (xne hk289 hk283 (by decide)))) (xv_a hg306 (xne hk289 hk283 (by decide)))) (xv_a hg305 (xne hk289 hk283 (by decide)))) (xv_a hg304 (xne hk289 hk283 (by decide)))) (xv_a hg303 (xne hk289 hk283 (by decide)))) (xv_m hg273 (qb268 _ _ hk255) (by decide) (by decide))) (xv_n hg270 hk255 nb268)) (xv_a hg267 (xne hk289 hk283 (by decide)))) (xv_m hg239 (qb234 _ _ hk223) (by decide) (by decide))) (xv_n hg236 hk223 nb234)) (xv_a hg233 (xne hk289 hk283 (by decide)))) (xv_m hg209 (qb204 _ _ hk194) (by decide) (by decide))) (xv_n hg206 hk194 nb204)) (xv_a hg203 (xne hk289 hk283 (by decide)))) (xv_m hg181 (qb176 _ _ hk167) (by decide) (by decide))) (xv_n hg178 hk167 nb176)) (xv_a hg175 (xne hk289 hk283 (by decide)))) (xv_m hg154 (qb149 _ _ hk141) (by decide) (by decide))) (xv_n hg151 hk141 nb149)) (xv_a hg148 (xne hk289 hk283 (by decide)))) (xv_m hg128 (qb123 _ _ hk116) (by decide) (by decide))) (xv_n hg125 hk116 nb123)) (xv_a hg122 (xne hk289 hk283 (by decide)))) (xv_m hg103 (qb98 _ _ hk92) (by decide) (by decide))) (xv_n hg100 hk92 nb98)) (xv_a hg97 (xne hk289 hk283 (by decide)))) (xv_m hg77 (qb72 _ _ hk67) (by decide) (by decide))) (xv_n hg74 hk67 nb72)) (xv_a hg71 (xne hk289 hk283 (by decide)))) (xv_m hg53 (qb48 _ _ hk42) (by decide) (by decide))) (xv_n hg50 hk42 nb48)) (xv_a hg47 (xne hk289 hk283 (by decide)))) (xv_a hg46 (xne hk289 hk283 (by decide))))]; exact zb31), ((xs_k hg309 (by decide)).trans ((xs_k hg308 (by decide)).trans ((xs_k hg307 (by decide)).trans ((xs_k hg306 (by decide)).trans ((xs_k hg305 (by decide)).trans ((xs_k hg304 (by decide)).trans ((xs_k hg303 (by decide)).trans ((hg273 b29 4 0 3 (qb268 _ _ hk253) (by decide)).trans ((xs_n hg270 hk253 nb268).trans ((xs_k hg267 (by decide)).trans ((hg239 b29 4 0 3 (qb234 _ _ hk221) (by decide)).trans ((xs_n hg236 hk221 nb234).trans ((xs_k hg233 (by decide)).trans ((hg209 b29 4 0 3 (qb204 _ _ hk192) (by decide)).trans ((xs_n hg206 hk192 nb204).trans ((xs_k hg203 (by decide)).trans ((hg181 b29 4 0 3 (qb176 _ _ hk165) (by decide)).trans ((xs_n hg178 hk165 nb176).trans ((xs_k hg175 (by decide)).trans ((hg154 b29 4 0 3 (qb149 _ _ hk139) (by decide)).trans ((xs_n hg151 hk139 nb149).trans ((xs_k hg148 (by decide)).trans ((hg128 b29 4 0 3 (qb123 _ _ hk114) (by decide)).trans ((xs_n hg125 hk114 nb123).trans ((xs_k hg122 (by decide)).trans ((hg103 b29 4 0 3 (qb98 _ _ hk90) (by decide)).trans ((xs_n hg100 hk90 nb98).trans ((xs_k hg97 (by decide)).trans ((hg77 b29 4 0 3 (qb72 _ _ hk65) (by decide)).trans ((xs_n hg74 hk65 nb72).trans ((xs_a hg71 (xne hk287 hk283 (by decide))).trans ((hg53 b29 4 0 3 (qb48 _ _ hk40) (by decide)).trans ((xs_n hg50 hk40 nb48).trans ((xs_k hg47 (by decide)).trans ((xs_k hg46 (by decide)).trans eb32))))))))))))))))))))))))))))))))))), hk290, (by rw [(Eq.trans (Eq.trans (Eq.trans (Eq.trans (Eq.trans (Eq.trans (Eq.trans (Eq.trans (Eq.trans (Eq.trans (Eq.trans (Eq.trans (Eq.trans (Eq.trans (Eq.trans (Eq.trans (Eq.trans (Eq.trans (Eq.trans (Eq.trans (Eq.trans (Eq.trans (Eq.trans (Eq.trans (Eq.trans (Eq.trans (Eq.trans (Eq.trans (Eq.trans (Eq.trans (Eq.trans (Eq.trans (Eq.trans (Eq.trans (xv_a hg309 (xne hk290 hk283 (by decide))) (xv_a hg308 (xne hk290 hk283 (by decide)))) (xv_a hg307 (xne hk290 hk283 (by decide)))) (xv_a hg306 (xne hk290 hk283 (by decide)))) (xv_a hg305 (xne hk290 hk283 (by decide)))) (xv_a hg304 (xne hk290 hk283 (by decide)))) (xv_a hg303 (xne hk290 hk283 (by decide)))) (xv_m hg273 (qb268 _ _ hk256) (by decide) (by decide))) (xv_n hg270 hk256 nb268)) (xv_a hg267 (xne hk290 hk283 (by decide)))) (xv_m hg239 (qb234 _ _ hk224) (by decide) (by decide))) (xv_n hg236 hk224 nb234)) (xv_a hg233 (xne hk290 hk283 (by decide)))) (xv_m hg209 (qb204 _ _ hk195) (by decide) (by decide))) (xv_n hg206 hk195 nb204)) (xv_a hg203 (xne hk290 hk283 (by decide)))) (xv_m hg181 (qb176 _ _ hk168) (by decide) (by decide))) (xv_n hg178 hk168 nb176)) (xv_a hg175 (xne hk290 hk283 (by decide)))) (xv_m hg154 (qb149 _ _ hk142) (by decide) (by decide))) (xv_n hg151 hk142 nb149)) (xv_a hg148 (xne hk290 hk283 (by decide)))) (xv_m hg128 (qb123 _ _ hk117) (by decide) (by decide))) (xv_n hg125 hk117 nb123)) (xv_a hg122 (xne hk290 hk283 (by decide)))) (xv_m hg103 (qb98 _ _ hk93) (by decide) (by decide))) (xv_n hg100 hk93 nb98)) (xv_a hg97 (xne hk290 hk283 (by decide)))) (xv_m hg77 (qb72 _ _ hk68) (by decide) (by decide))) (xv_n hg74 hk68 nb72)) (xv_a hg71 (xne hk290 hk283 (by decide)))) (xv_m hg53 (qb48 _ _ hk43) (by decide) (by decide))) (xv_n hg50 hk43 nb48)) (xv_a hg47 (xne hk290 hk283 (by decide)))) (xv_a hg46 (xne hk290 hk283 (by decide))))]; exact zb32), ((xs_k hg309 (by decide)).trans ((xs_k hg308 (by decide)).trans ((xs_k hg307 (by decide)).trans ((xs_k hg306 (by decide)).trans ((xs_k hg305 (by decide)).trans ((xs_k hg304 (by decide)).trans ((xs_k hg303 (by decide)).trans ((hg273 b29 4 0 4 (qb268 _ _ hk253) (by decide)).trans ((xs_n hg270 hk253 nb268).trans ((xs_k hg267 (by decide)).trans ((hg239 b29 4 0 4 (qb234 _ _ hk221) (by decide)).trans ((xs_n hg236 hk221 nb234).trans ((xs_k hg233 (by decide)).trans ((hg209 b29 4 0 4 (qb204 _ _ hk192) (by decide)).trans ((xs_n hg206 hk192 nb204).trans ((xs_k hg203 (by decide)).trans ((hg181 b29 4 0 4 (qb176 _ _ hk165) (by decide)).trans ((xs_n hg178 hk165 nb176).trans ((xs_k hg175 (by decide)).trans ((hg154 b29 4 0 4 (qb149 _ _ hk139) (by decide)).trans ((xs_n hg151 hk139 nb149).trans ((xs_k hg148 (by decide)).trans ((hg128 b29 4 0 4 (qb123 _ _ hk114) (by decide)).trans ((xs_n hg125 hk114 nb123).trans ((xs_k hg122 (by decide)).trans ((hg103 b29 4 0 4 (qb98 _ _ hk90) (by decide)).trans ((xs_n hg100 hk90 nb98).trans ((xs_a hg97 (xne hk287 hk283 (by decide))).trans ((hg77 b29 4 0 4 (qb72 _ _ hk65) (by decide)).trans ((xs_n hg74 hk65 nb72).trans ((xs_k hg71 (by decide)).trans ((hg53 b29 4 0 4 (qb48 _ _ hk40) (by decide)).trans ((xs_n hg50 hk40 nb48).trans ((xs_k hg47 (by decide)).trans ((xs_k hg46 (by decide)).trans eb33))))))))))))))))))))))))))))))))))), hk291, (xGr.s (by have lt311 := (xLt.seal (qr21 _ _ hs_b17) hSy36 (by decide)); have lt312 := xLt.tr lt311 (xLt.le qb48); have lt313 := xLt.tr lt312 (xLt.le qr52); have lt314 := xLt.tr lt313 (xLt.seal (qr52 _ _ hs_b48) hSy60 (by decide)); have lt315 := xLt.tr lt314 (xLt.le qb72); have lt316 := xLt.tr lt315 (xLt.le qr76); have lt317 := xLt.tr lt316 (xLt.seal (qr76 _ _ hs_b72) hSy85 (by decide)); have lt318 := xLt.tr lt317 (xLt.le qb98); have lt319 := xLt.tr lt318 (xLt.le qr102); have lt320 := xLt.tr lt319 (xLt.seal (qr102 _ _ hs_b98) hSy109 (by decide)); have lt321 := xLt.tr lt320 (xLt.le qb123); have lt322 := xLt.tr lt321 (xLt.le qr127); have lt323 := xLt.tr lt322 (xLt.seal (qr127 _ _ hs_b123) hSy134 (by decide)); have lt324 := xLt.tr lt323 (xLt.le qb149); have lt325 := xLt.tr lt324 (xLt.le qr153); have lt326 := xLt.tr lt325 (xLt.seal (qr153 _ _ hs_b149) hSy160 (by decide)); have lt327 := xLt.tr lt326 (xLt.le qb176); have lt328 := xLt.tr lt327 (xLt.le qr180); have lt329 := xLt.tr lt328 (xLt.seal (qr180 _ _ hs_b176) hSy187 (by decide)); have lt330 := xLt.tr lt329 (xLt.le qb204); have lt331 := xLt.tr lt330 (xLt.le qr208); have lt332 := xLt.tr lt331 (xLt.seal (qr208 _ _ hs_b204) hSy216 (by decide)); have lt333 := xLt.tr lt332 (xLt.le qb234); have lt334 := xLt.tr lt333 (xLt.le qr238); have lt335 := xLt.tr lt334 (xLt.seal (qr238 _ _ hs_b234) hSy248 (by decide)); have lt336 := xLt.tr lt335 (xLt.le qb268); have lt337 := xLt.tr lt336 (xLt.le qr272); have lt338 := xLt.tr lt337 (xLt.seal (qr272 _ _ hs_b268) hSy282 (by decide)); have gr310 := xGr.u zb33 lt338 hk291 (by decide) hg46 hk283 (by decide) (by decide); have gr339 := xGr.u gr310 lt338 hk291 (by decide) hg47 hk283 (by decide) (by decide); have gr340 := xGr.n gr339 lt311 hk44 (by decide) hg50 nb48; have gr341 := xGr.m gr340 lt312 (qb48 _ _ hk44) (by decide) hg53 (by decide) (by decide); have gr342 := xGr.u gr341 lt338 hk291 (by decide) hg71 hk283 (by decide) (by decide); have gr343 := xGr.n gr342 lt314 hk69 (by decide) hg74 nb72; have gr344 := xGr.m gr343 lt315 (qb72 _ _ hk69) (by decide) hg77 (by decide) (by decide); have gr345 := xGr.u gr344 lt338 hk291 (by decide) hg97 hk283 (by decide) (by decide); have gr346 := xGr.n gr345 lt317 hk94 (by decide) hg100 nb98; have gr347 := xGr.m gr346 lt318 (qb98 _ _ hk94) (by decide) hg103 (by decide) (by decide); have gr348 := xGr.u gr347 lt338 hk291 (by decide) hg122 hk283 (by decide) (by decide); have gr349 := xGr.n gr348 lt320 hk118 (by decide) hg125 nb123; have gr350 := xGr.m gr349 lt321 (qb123 _ _ hk118) (by decide) hg128 (by decide) (by decide); have gr351 := xGr.u gr350 lt338 hk291 (by decide) hg148 hk283 (by decide) (by decide); have gr352 := xGr.n gr351 lt323 hk143 (by decide) hg151 nb149; have gr353 := xGr.m gr352 lt324 (qb149 _ _ hk143) (by decide) hg154 (by decide) (by decide); have gr354 := xGr.u gr353 lt338 hk291 (by decide) hg175 hk283 (by decide) (by decide); have gr355 := xGr.n gr354 lt326 hk169 (by decide) hg178 nb176; have gr356 := xGr.m gr355 lt327 (qb176 _ _ hk169) (by decide) hg181 (by decide) (by decide); have gr357 := xGr.u gr356 lt338 hk291 (by decide) hg203 hk283 (by decide) (by decide); have gr358 := xGr.n gr357 lt329 hk196 (by decide) hg206 nb204; have gr359 := xGr.m gr358 lt330 (qb204 _ _ hk196) (by decide) hg209 (by decide) (by decide); have gr360 := xGr.u gr359 lt338 hk291 (by decide) hg233 hk283 (by decide) (by decide); have gr361 := xGr.n gr360 lt332 hk225 (by decide) hg236 nb234; have gr362 := xGr.m gr361 lt333 (qb234 _ _ hk225) (by decide) hg239 (by decide) (by decide); have gr363 := xGr.u gr362 lt338 hk291 (by decide) hg267 hk283 (by decide) (by decide); have gr364 := xGr.n gr363 lt335 hk257 (by decide) hg270 nb268; have gr365 := xGr.m gr364 lt336 (qb268 _ _ hk257) (by decide) hg273 (by decide) (by decide); have gr366 := xGr.u gr365 lt338 hk291 (by decide) hg303 hk283 (by decide) (by decide); have gr367 := xGr.u gr366 lt338 hk291 (by decide) hg304 hk283 (by decide) (by decide); have gr368 := xGr.u gr367 lt338 hk291 (by decide) hg305 hk283 (by decide) (by decide); have gr369 := xGr.u gr368 lt338 hk291 (by decide) hg306 hk283 (by decide) (by decide); have gr370 := xGr.u gr369 lt338 hk291 (by decide) hg307 hk283 (by decide) (by decide); have gr371 := xGr.u gr370 lt338 hk291 (by decide) hg308 hk283 (by decide) (by decide); have gr372 := xGr.u gr371 lt338 hk291 (by decide) hg309 hk283 (by decide) (by decide); exact gr372) (xLt.tr (xLt.tr (xLt.tr (xLt.tr (xLt.tr (xLt.tr (xLt.tr (xLt.tr (xLt.tr (xLt.tr (xLt.tr (xLt.tr (xLt.tr (xLt.tr (xLt.tr (xLt.tr (xLt.tr (xLt.tr (xLt.tr (xLt.tr (xLt.tr (xLt.tr (xLt.tr (xLt.tr (xLt.tr (xLt.tr (xLt.tr (xLt.seal (qr21 _ _ hs_b17) hSy36 (by decide)) (xLt.le qb48)) (xLt.le qr52)) (xLt.seal (qr52 _ _ hs_b48) hSy60 (by decide))) (xLt.le qb72)) (xLt.le qr76)) (xLt.seal (qr76 _ _ hs_b72) hSy85 (by decide))) (xLt.le qb98)) (xLt.le qr102)) (xLt.seal (qr102 _ _ hs_b98) hSy109 (by decide))) (xLt.le qb123)) (xLt.le qr127)) (xLt.seal (qr127 _ _ hs_b123) hSy134 (by decide))) (xLt.le qb149)) (xLt.le qr153)) (xLt.seal (qr153 _ _ hs_b149) hSy160 (by decide))) (xLt.le qb176)) (xLt.le qr180)) (xLt.seal (qr180 _ _ hs_b176) hSy187 (by decide))) (xLt.le qb204)) (xLt.le qr208)) (xLt.seal (qr208 _ _ hs_b204) hSy216 (by decide))) (xLt.le qb234)) (xLt.le qr238)) (xLt.seal (qr238 _ _ hs_b234) hSy248 (by decide))) (xLt.le qb268)) (xLt.le qr272)) (xLt.seal (qr272 _ _ hs_b268) hSy282 (by decide))) (by decide))⟩⟩, ⟨b48, b17, b34, ((xs_k hg309 (by decide)).trans ((xs_k hg308 (by decide)).trans ((xs_k hg307 (by decide)).trans ((xs_k hg306 (by decide)).trans ((xs_k hg305 (by decide)).trans ((xs_k hg304 (by decide)).trans ((xs_k hg303 (by decide)).trans ((hg273 a0 5012 0 3 (qb268 _ _ hk249) (by decide)).trans ((xs_n hg270 hk249 nb268).trans ((xs_k hg267 (by decide)).trans ((hg239 a0 5012 0 3 (qb234 _ _ hk217) (by decide)).trans ((xs_n hg236 hk217 nb234).trans ((xs_k hg233 (by decide)).trans ((hg209 a0 5012 0 3 (qb204 _ _ hk188) (by decide)).trans ((xs_n hg206 hk188 nb204).trans ((xs_k hg203 (by decide)).trans ((hg181 a0 5012 0 3 (qb176 _ _ hk161) (by decide)).trans ((xs_n hg178 hk161 nb176).trans ((xs_k hg175 (by decide)).trans ((hg154 a0 5012 0 3 (qb149 _ _ hk135) (by decide)).trans ((xs_n hg151 hk135 nb149).trans ((xs_k hg148 (by decide)).trans ((hg128 a0 5012 0 3 (qb123 _ _ hk110) (by decide)).trans ((xs_n hg125 hk110 nb123).trans ((xs_k hg122 (by decide)).trans ((hg103 a0 5012 0 3 (qb98 _ _ hk86) (by decide)).trans ((xs_n hg100 hk86 nb98).trans ((xs_k hg97 (by decide)).trans ((hg77 a0 5012 0 3 (qb72 _ _ hk61) (by decide)).trans ((xs_n hg74 hk61 nb72).trans (xs_s hg71))))))))))))))))))))))))))))))), hk293, ((xs_k hg309 (by decide)).trans ((xs_k hg308 (by decide)).trans ((xs_k hg307 (by decide)).trans ((xs_k hg306 (by decide)).trans ((xs_k hg305 (by decide)).trans ((xs_k hg304 (by decide)).trans ((xs_k hg303 (by decide)).trans ((hg273 b48 5 0 3 (qb268 _ _ hk259) (by decide)).trans ((xs_n hg270 hk259 nb268).trans ((xs_k hg267 (by decide)).trans ((hg239 b48 5 0 3 (qb234 _ _ hk227) (by decide)).trans ((xs_n hg236 hk227 nb234).trans ((xs_k hg233 (by decide)).trans ((hg209 b48 5 0 3 (qb204 _ _ hk198) (by decide)).trans ((xs_n hg206 hk198 nb204).trans ((xs_k hg203 (by decide)).trans ((hg181 b48 5 0 3 (qb176 _ _ hk171) (by decide)).trans ((xs_n hg178 hk171 nb176).trans ((xs_k hg175 (by decide)).trans ((hg154 b48 5 0 3 (qb149 _ _ hk145) (by decide)).trans ((xs_n hg151 hk145 nb149).trans ((xs_k hg148 (by decide)).trans ((hg128 b48 5 0 3 (qb123 _ _ hk120) (by decide)).trans ((xs_n hg125 hk120 nb123).trans ((xs_k hg122 (by decide)).trans ((hg103 b48 5 0 3 (qb98 _ _ hk96) (by decide)).trans ((xs_n hg100 hk96 nb98).trans ((xs_k hg97 (by decide)).trans ((hg77 b48 5 0 3 (qb72 _ _ hs_y60) (by decide)).trans ((xs_n hg74 hs_y60 nb72).trans ((xs_a hg71 (xne hk293 hk283 (by decide))).trans k55))))))))))))))))))))))))))))))), ((xs_k hg309 (by decide)).trans ((xs_k hg308 (by decide)).trans ((xs_k hg307 (by decide)).trans ((xs_k hg306 (by decide)).trans ((xs_k hg305 (by decide)).trans ((xs_k hg304 (by decide)).trans ((xs_k hg303 (by decide)).trans ((hg273 a0 5012 0 1 (qb268 _ _ hk249) (by decide)).trans ((xs_n hg270 hk249 nb268).trans ((xs_k hg267 (by decide)).trans ((hg239 a0 5012 0 1 (qb234 _ _ hk217) (by decide)).trans ((xs_n hg236 hk217 nb234).trans ((xs_k hg233 (by decide)).trans ((hg209 a0 5012 0 1 (qb204 _ _ hk188) (by decide)).trans ((xs_n hg206 hk188 nb204).trans ((xs_k hg203 (by decide)).trans ((hg181 a0 5012 0 1 (qb176 _ _ hk161) (by decide)).trans ((xs_n hg178 hk161 nb176).trans ((xs_k hg175 (by decide)).trans ((hg154 a0 5012 0 1 (qb149 _ _ hk135) (by decide)).trans ((xs_n hg151 hk135 nb149).trans ((xs_k hg148 (by decide)).trans ((hg128 a0 5012 0 1 (qb123 _ _ hk110) (by decide)).trans ((xs_n hg125 hk110 nb123).trans ((xs_k hg122 (by decide)).trans ((hg103 a0 5012 0 1 (qb98 _ _ hk86) (by decide)).trans ((xs_n hg100 hk86 nb98).trans ((xs_k hg97 (by decide)).trans ((hg77 a0 5012 0 1 (qb72 _ _ hk61) (by decide)).trans ((xs_n hg74 hk61 nb72).trans ((xs_k hg71 (by decide)).trans ((hg53 a0 5012 0 1 (qb48 _ _ hk37) (by decide)).trans ((xs_n hg50 hk37 nb48).trans ((xs_k hg47 (by decide)).trans (xs_s hg46))))))))))))))))))))))))))))))))))), hk286, ((xs_k hg309 (by decide)).trans ((xs_k hg308 (by decide)).trans ((xs_k hg307 (by decide)).trans ((xs_k hg306 (by decide)).trans ((xs_k hg305 (by decide)).trans ((xs_k hg304 (by decide)).trans ((xs_k hg303 (by decide)).trans ((hg273 b17 6 0 1 (qb268 _ _ hk252) (by decide)).trans ((xs_n hg270 hk252 nb268).trans ((xs_k hg267 (by decide)).trans ((hg239 b17 6 0 1 (qb234 _ _ hk220) (by decide)).trans ((xs_n hg236 hk220 nb234).trans ((xs_k hg233 (by decide)).trans ((hg209 b17 6 0 1 (qb204 _ _ hk191) (by decide)).trans ((xs_n hg206 hk191 nb204).trans ((xs_k hg203 (by decide)).trans ((hg181 b17 6 0 1 (qb176 _ _ hk164) (by decide)).trans ((xs_n hg178 hk164 nb176).trans ((xs_k hg175 (by decide)).trans ((hg154 b17 6 0 1 (qb149 _ _ hk138) (by decide)).trans ((xs_n hg151 hk138 nb149).trans ((xs_k hg148 (by decide)).trans ((hg128 b17 6 0 1 (qb123 _ _ hk113) (by decide)).trans ((xs_n hg125 hk113 nb123).trans ((xs_k hg122 (by decide)).trans ((hg103 b17 6 0 1 (qb98 _ _ hk89) (by decide)).trans ((xs_n hg100 hk89 nb98).trans ((xs_k hg97 (by decide)).trans ((hg77 b17 6 0 1 (qb72 _ _ hk64) (by decide)).trans ((xs_n hg74 hk64 nb72).trans ((xs_k hg71 (by decide)).trans ((hg53 b17 6 0 1 (qb48 _ _ hs_y36) (by decide)).trans ((xs_n hg50 hs_y36 nb48).trans ((xs_k hg47 (by decide)).trans ((xs_a hg46 (xne hk286 hk283 (by decide))).trans eb34))))))))))))))))))))))))))))))))))), hk292, ((xs_k hg309 (by decide)).trans ((xs_k hg308 (by decide)).trans ((xs_k hg307 (by decide)).trans ((xs_k hg306 (by decide)).trans ((xs_k hg305 (by decide)).trans ((xs_k hg304 (by decide)).trans ((xs_k hg303 (by decide)).trans ((hg273 b34 0 0 2 (qb268 _ _ hk258) (by decide)).trans ((xs_n hg270 hk258 nb268).trans ((xs_k hg267 (by decide)).trans ((hg239 b34 0 0 2 (qb234 _ _ hk226) (by decide)).trans ((xs_n hg236 hk226 nb234).trans ((xs_k hg233 (by decide)).trans ((hg209 b34 0 0 2 (qb204 _ _ hk197) (by decide)).trans ((xs_n hg206 hk197 nb204).trans ((xs_k hg203 (by decide)).trans ((hg181 b34 0 0 2 (qb176 _ _ hk170) (by decide)).trans ((xs_n hg178 hk170 nb176).trans ((xs_k hg175 (by decide)).trans ((hg154 b34 0 0 2 (qb149 _ _ hk144) (by decide)).trans ((xs_n hg151 hk144 nb149).trans ((xs_k hg148 (by decide)).trans ((hg128 b34 0 0 2 (qb123 _ _ hk119) (by decide)).trans ((xs_n hg125 hk119 nb123).trans ((xs_k hg122 (by decide)).trans ((hg103 b34 0 0 2 (qb98 _ _ hk95) (by decide)).trans ((xs_n hg100 hk95 nb98).trans ((xs_k hg97 (by decide)).trans ((hg77 b34 0 0 2 (qb72 _ _ hk70) (by decide)).trans ((xs_n hg74 hk70 nb72).trans ((xs_k hg71 (by decide)).trans ((hg53 b34 0 0 2 (qb48 _ _ hk45) (by decide)).trans ((xs_n hg50 hk45 nb48).trans ((xs_a hg47 (xne hk292 hk283 (by decide))).trans ((xs_k hg46 (by decide)).trans fb34))))))))))))))))))))))))))))))))))), ((xs_k hg309 (by decide)).trans ((xs_k hg308 (by decide)).trans ((xs_k hg307 (by decide)).trans ((xs_k hg306 (by decide)).trans ((xs_k hg305 (by decide)).trans (xs_s hg304))))))⟩, ⟨b1, ((xs_k hg309 (by decide)).trans ((xs_k hg308 (by decide)).trans ((xs_k hg307 (by decide)).trans ((xs_k hg306 (by decide)).trans ((xs_k hg305 (by decide)).trans ((xs_k hg304 (by decide)).trans ((xs_k hg303 (by decide)).trans ((hg273 a0 5012 0 0 (qb268 _ _ hk249) (by decide)).trans ((xs_n hg270 hk249 nb268).trans ((xs_k hg267 (by decide)).trans ((hg239 a0 5012 0 0 (qb234 _ _ hk217) (by decide)).trans ((xs_n hg236 hk217 nb234).trans ((xs_k hg233 (by decide)).trans ((hg209 a0 5012 0 0 (qb204 _ _ hk188) (by decide)).trans ((xs_n hg206 hk188 nb204).trans ((xs_k hg203 (by decide)).trans ((hg181 a0 5012 0 0 (qb176 _ _ hk161) (by decide)).trans ((xs_n hg178 hk161 nb176).trans ((xs_k hg175 (by decide)).trans ((hg154 a0 5012 0 0 (qb149 _ _ hk135) (by decide)).trans ((xs_n hg151 hk135 nb149).trans ((xs_k hg148 (by decide)).trans ((hg128 a0 5012 0 0 (qb123 _ _ hk110) (by decide)).trans ((xs_n hg125 hk110 nb123).trans ((xs_k hg122 (by decide)).trans ((hg103 a0 5012 0 0 (qb98 _ _ hk86) (by decide)).trans ((xs_n hg100 hk86 nb98).trans ((xs_k hg97 (by decide)).trans ((hg77 a0 5012 0 0 (qb72 _ _ hk61) (by decide)).trans ((xs_n hg74 hk61 nb72).trans ((xs_k hg71 (by decide)).trans ((hg53 a0 5012 0 0 (qb48 _ _ hk37) (by decide)).trans ((xs_n hg50 hk37 nb48).trans ((xs_k hg47 (by decide)).trans ((xs_k hg46 (by decide)).trans ((hg22 a0 5012 0 0 (qb17 _ _ hk14) (by decide)).trans ((xs_n hg19 hk14 nb17).trans (xs_s hg16)))))))))))))))))))))))))))))))))))))), hk285, ((xs_k hg309 (by decide)).trans ((xs_k hg308 (by decide)).trans ((xs_k hg307 (by decide)).trans ((xs_k hg306 (by decide)).trans ((xs_k hg305 (by decide)).trans ((xs_k hg304 (by decide)).trans ((xs_k hg303 (by decide)).trans ((hg273 b1 10 0 1 (qb268 _ _ hk251) (by decide)).trans ((xs_n hg270 hk251 nb268).trans ((xs_k hg267 (by decide)).trans ((hg239 b1 10 0 1 (qb234 _ _ hk219) (by decide)).trans ((xs_n hg236 hk219 nb234).trans ((xs_k hg233 (by decide)).trans ((hg209 b1 10 0 1 (qb204 _ _ hk190) (by decide)).trans ((xs_n hg206 hk190 nb204).trans ((xs_k hg203 (by decide)).trans ((hg181 b1 10 0 1 (qb176 _ _ hk163) (by decide)).trans ((xs_n hg178 hk163 nb176).trans ((xs_k hg175 (by decide)).trans ((hg154 b1 10 0 1 (qb149 _ _ hk137) (by decide)).trans ((xs_n hg151 hk137 nb149).trans ((xs_k hg148 (by decide)).trans ((hg128 b1 10 0 1 (qb123 _ _ hk112) (by decide)).trans ((xs_n hg125 hk112 nb123).trans ((xs_k hg122 (by decide)).trans ((hg103 b1 10 0 1 (qb98 _ _ hk88) (by decide)).trans ((xs_n hg100 hk88 nb98).trans ((xs_k hg97 (by decide)).trans ((hg77 b1 10 0 1 (qb72 _ _ hk63) (by decide)).trans ((xs_n hg74 hk63 nb72).trans ((xs_k hg71 (by decide)).trans ((hg53 b1 10 0 1 (qb48 _ _ hk39) (by decide)).trans ((xs_n hg50 hk39 nb48).trans ((xs_k hg47 (by decide)).trans ((xs_a hg46 (xne hk285 hk283 (by decide))).trans ((hg22 b1 10 0 1 (qb17 _ _ hs_y13) (by decide)).trans ((xs_n hg19 hs_y13 nb17).trans ((xs_k hg16 (by decide)).trans k8))))))))))))))))))))))))))))))))))))))⟩, (fun k9 => match k9 with | 0 => xk1 10 0 sl_12_0 ((xs_k hg309 (by decide)).trans ((xs_k hg308 (by decide)).trans ((xs_k hg307 (by decide)).trans ((xs_k hg306 (by decide)).trans ((xs_k hg305 (by decide)).trans ((xs_k hg304 (by decide)).trans ((xs_k hg303 (by decide)).trans ((hg273 a0 5012 0 0 (qb268 _ _ hk249) (by decide)).trans ((xs_n hg270 hk249 nb268).trans ((xs_k hg267 (by decide)).trans ((hg239 a0 5012 0 0 (qb234 _ _ hk217) (by decide)).trans ((xs_n hg236 hk217 nb234).trans ((xs_k hg233 (by decide)).trans ((hg209 a0 5012 0 0 (qb204 _ _ hk188) (by decide)).trans ((xs_n hg206 hk188 nb204).trans ((xs_k hg203 (by decide)).trans ((hg181 a0 5012 0 0 (qb176 _ _ hk161) (by decide)).trans ((xs_n hg178 hk161 nb176).trans ((xs_k hg175 (by decide)).trans ((hg154 a0 5012 0 0 (qb149 _ _ hk135) (by decide)).trans ((xs_n hg151 hk135 nb149).trans ((xs_k hg148 (by decide)).trans ((hg128 a0 5012 0 0 (qb123 _ _ hk110) (by decide)).trans ((xs_n hg125 hk110 nb123).trans ((xs_k hg122 (by decide)).trans ((hg103 a0 5012 0 0 (qb98 _ _ hk86) (by decide)).trans ((xs_n hg100 hk86 nb98).trans ((xs_k hg97 (by decide)).trans ((hg77 a0 5012 0 0 (qb72 _ _ hk61) (by decide)).trans ((xs_n hg74 hk61 nb72).trans ((xs_k hg71 (by decide)).trans ((hg53 a0 5012 0 0 (qb48 _ _ hk37) (by decide)).trans ((xs_n hg50 hk37 nb48).trans ((xs_k hg47 (by decide)).trans ((xs_k hg46 (by decide)).trans ((hg22 a0 5012 0 0 (qb17 _ _ hk14) (by decide)).trans ((xs_n hg19 hk14 nb17).trans (xs_s hg16)))))))))))))))))))))))))))))))))))))) hk285 | 1 => xk1 6 0 sl_12_1 ((xs_k hg309 (by decide)).trans ((xs_k hg308 (by decide)).trans ((xs_k hg307 (by decide)).trans ((xs_k hg306 (by decide)).trans ((xs_k hg305 (by decide)).trans ((xs_k hg304 (by decide)).trans ((xs_k hg303 (by decide)).trans ((hg273 a0 5012 0 1 (qb268 _ _ hk249) (by decide)).trans ((xs_n hg270 hk249 nb268).trans ((xs_k hg267 (by decide)).trans ((hg239 a0 5012 0 1 (qb234 _ _ hk217) (by decide)).trans ((xs_n hg236 hk217 nb234).trans ((xs_k hg233 (by decide)).trans ((hg209 a0 5012 0 1 (qb204 _ _ hk188) (by decide)).trans ((xs_n hg206 hk188 nb204).trans ((xs_k hg203 (by decide)).trans ((hg181 a0 5012 0 1 (qb176 _ _ hk161) (by decide)).trans ((xs_n hg178 hk161 nb176).trans ((xs_k hg175 (by decide)).trans ((hg154 a0 5012 0 1 (qb149 _ _ hk135) (by decide)).trans ((xs_n hg151 hk135 nb149).trans ((xs_k hg148 (by decide)).trans ((hg128 a0 5012 0 1 (qb123 _ _ hk110) (by decide)).trans ((xs_n hg125 hk110 nb123).trans ((xs_k hg122 (by decide)).trans ((hg103 a0 5012 0 1 (qb98 _ _ hk86) (by decide)).trans ((xs_n hg100 hk86 nb98).trans ((xs_k hg97 (by decide)).trans ((hg77 a0 5012 0 1 (qb72 _ _ hk61) (by decide)).trans ((xs_n hg74 hk61 nb72).trans ((xs_k hg71 (by decide)).trans ((hg53 a0 5012 0 1 (qb48 _ _ hk37) (by decide)).trans ((xs_n hg50 hk37 nb48).trans ((xs_k hg47 (by decide)).trans (xs_s hg46))))))))))))))))))))))))))))))))))) hk286 | 2 => xk1 4 0 sl_12_2 ((xs_k hg309 (by decide)).trans ((xs_k hg308 (by decide)).trans ((xs_k hg307 (by decide)).trans ((xs_k hg306 (by decide)).trans ((xs_k hg305 (by decide)).trans ((xs_k hg304 (by decide)).trans ((xs_k hg303 (by decide)).trans ((hg273 a0 5012 0 2 (qb268 _ _ hk249) (by decide)).trans ((xs_n hg270 hk249 nb268).trans ((xs_k hg267 (by decide)).trans ((hg239 a0 5012 0 2 (qb234 _ _ hk217) (by decide)).trans ((xs_n hg236 hk217 nb234).trans ((xs_k hg233 (by decide)).trans ((hg209 a0 5012 0 2 (qb204 _ _ hk188) (by decide)).trans ((xs_n hg206 hk188 nb204).trans ((xs_k hg203 (by decide)).trans ((hg181 a0 5012 0 2 (qb176 _ _ hk161) (by decide)).trans ((xs_n hg178 hk161 nb176).trans ((xs_k hg175 (by decide)).trans ((hg154 a0 5012 0 2 (qb149 _ _ hk135) (by decide)).trans ((xs_n hg151 hk135 nb149).trans ((xs_k hg148 (by decide)).trans ((hg128 a0 5012 0 2 (qb123 _ _ hk110) (by decide)).trans ((xs_n hg125 hk110 nb123).trans ((xs_k hg122 (by decide)).trans ((hg103 a0 5012 0 2 (qb98 _ _ hk86) (by decide)).trans ((xs_n hg100 hk86 nb98).trans ((xs_k hg97 (by decide)).trans ((hg77 a0 5012 0 2 (qb72 _ _ hk61) (by decide)).trans ((xs_n hg74 hk61 nb72).trans ((xs_k hg71 (by decide)).trans ((hg53 a0 5012 0 2 (qb48 _ _ hk37) (by decide)).trans ((xs_n hg50 hk37 nb48).trans (xs_s hg47)))))))))))))))))))))))))))))))))) hk287 | 3 => xk1 5 0 sl_12_3 ((xs_k hg309 (by decide)).trans ((xs_k hg308 (by decide)).trans ((xs_k hg307 (by decide)).trans ((xs_k hg306 (by decide)).trans ((xs_k hg305 (by decide)).trans ((xs_k hg304 (by decide)).trans ((xs_k hg303 (by decide)).trans ((hg273 a0 5012 0 3 (qb268 _ _ hk249) (by decide)).trans ((xs_n hg270 hk249 nb268).trans ((xs_k hg267 (by decide)).trans ((hg239 a0 5012 0 3 (qb234 _ _ hk217) (by decide)).trans ((xs_n hg236 hk217 nb234).trans ((xs_k hg233 (by decide)).trans ((hg209 a0 5012 0 3 (qb204 _ _ hk188) (by decide)).trans ((xs_n hg206 hk188 nb204).trans ((xs_k hg203 (by decide)).trans ((hg181 a0 5012 0 3 (qb176 _ _ hk161) (by decide)).trans ((xs_n hg178 hk161 nb176).trans ((xs_k hg175 (by decide)).trans ((hg154 a0 5012 0 3 (qb149 _ _ hk135) (by decide)).trans ((xs_n hg151 hk135 nb149).trans ((xs_k hg148 (by decide)).trans ((hg128 a0 5012 0 3 (qb123 _ _ hk110) (by decide)).trans ((xs_n hg125 hk110 nb123).trans ((xs_k hg122 (by decide)).trans ((hg103 a0 5012 0 3 (qb98 _ _ hk86) (by decide)).trans ((xs_n hg100 hk86 nb98).trans ((xs_k hg97 (by decide)).trans ((hg77 a0 5012 0 3 (qb72 _ _ hk61) (by decide)).trans ((xs_n hg74 hk61 nb72).trans (xs_s hg71))))))))))))))))))))))))))))))) hk293 | 4 => xk1 300 0 sl_12_4 ((xs_k hg309 (by decide)).trans ((xs_k hg308 (by decide)).trans ((xs_k hg307 (by decide)).trans ((xs_k hg306 (by decide)).trans ((xs_k hg305 (by decide)).trans ((xs_k hg304 (by decide)).trans ((xs_k hg303 (by decide)).trans ((hg273 a0 5012 0 4 (qb268 _ _ hk249) (by decide)).trans ((xs_n hg270 hk249 nb268).trans ((xs_k hg267 (by decide)).trans ((hg239 a0 5012 0 4 (qb234 _ _ hk217) (by decide)).trans ((xs_n hg236 hk217 nb234).trans ((xs_k hg233 (by decide)).trans ((hg209 a0 5012 0 4 (qb204 _ _ hk188) (by decide)).trans ((xs_n hg206 hk188 nb204).trans ((xs_k hg203 (by decide)).trans ((hg181 a0 5012 0 4 (qb176 _ _ hk161) (by decide)).trans ((xs_n hg178 hk161 nb176).trans ((xs_k hg175 (by decide)).trans ((hg154 a0 5012 0 4 (qb149 _ _ hk135) (by decide)).trans ((xs_n hg151 hk135 nb149).trans ((xs_k hg148 (by decide)).trans ((hg128 a0 5012 0 4 (qb123 _ _ hk110) (by decide)).trans ((xs_n hg125 hk110 nb123).trans ((xs_k hg122 (by decide)).trans ((hg103 a0 5012 0 4 (qb98 _ _ hk86) (by decide)).trans ((xs_n hg100 hk86 nb98).trans (xs_s hg97)))))))))))))))))))))))))))) hk294 | 5 => xk1 11 0 sl_12_5 ((xs_k hg309 (by decide)).trans ((xs_k hg308 (by decide)).trans ((xs_k hg307 (by decide)).trans ((xs_k hg306 (by decide)).trans ((xs_k hg305 (by decide)).trans ((xs_k hg304 (by decide)).trans ((xs_k hg303 (by decide)).trans ((hg273 a0 5012 0 5 (qb268 _ _ hk249) (by decide)).trans ((xs_n hg270 hk249 nb268).trans ((xs_k hg267 (by decide)).trans ((hg239 a0 5012 0 5 (qb234 _ _ hk217) (by decide)).trans ((xs_n hg236 hk217 nb234).trans ((xs_k hg233 (by decide)).trans ((hg209 a0 5012 0 5 (qb204 _ _ hk188) (by decide)).trans ((xs_n hg206 hk188 nb204).trans ((xs_k hg203 (by decide)).trans ((hg181 a0 5012 0 5 (qb176 _ _ hk161) (by decide)).trans ((xs_n hg178 hk161 nb176).trans ((xs_k hg175 (by decide)).trans ((hg154 a0 5012 0 5 (qb149 _ _ hk135) (by decide)).trans ((xs_n hg151 hk135 nb149).trans ((xs_k hg148 (by decide)).trans ((hg128 a0 5012 0 5 (qb123 _ _ hk110) (by decide)).trans ((xs_n hg125 hk110 nb123).trans (xs_s hg122))))))))))))))))))))))))) hk295 | 6 => xk1 8 0 sl_12_6 ((xs_k hg309 (by decide)).trans ((xs_k hg308 (by decide)).trans ((xs_k hg307 (by decide)).trans ((xs_k hg306 (by decide)).trans ((xs_k hg305 (by decide)).trans ((xs_k hg304 (by decide)).trans ((xs_k hg303 (by decide)).trans ((hg273 a0 5012 0 6 (qb268 _ _ hk249) (by decide)).trans ((xs_n hg270 hk249 nb268).trans ((xs_k hg267 (by decide)).trans ((hg239 a0 5012 0 6 (qb234 _ _ hk217) (by decide)).trans ((xs_n hg236 hk217 nb234).trans ((xs_k hg233 (by decide)).trans ((hg209 a0 5012 0 6 (qb204 _ _ hk188) (by decide)).trans ((xs_n hg206 hk188 nb204).trans ((xs_k hg203 (by decide)).trans ((hg181 a0 5012 0 6 (qb176 _ _ hk161) (by decide)).trans ((xs_n hg178 hk161 nb176).trans ((xs_k hg175 (by decide)).trans ((hg154 a0 5012 0 6 (qb149 _ _ hk135) (by decide)).trans ((xs_n hg151 hk135 nb149).trans (xs_s hg148)))))))))))))))))))))) hk296 | 7 => xk1 11 0 sl_12_7 ((xs_k hg309 (by decide)).trans ((xs_k hg308 (by decide)).trans ((xs_k hg307 (by decide)).trans ((xs_k hg306 (by decide)).trans ((xs_k hg305 (by decide)).trans ((xs_k hg304 (by decide)).trans ((xs_k hg303 (by decide)).trans ((hg273 a0 5012 0 7 (qb268 _ _ hk249) (by decide)).trans ((xs_n hg270 hk249 nb268).trans ((xs_k hg267 (by decide)).trans ((hg239 a0 5012 0 7 (qb234 _ _ hk217) (by decide)).trans ((xs_n hg236 hk217 nb234).trans ((xs_k hg233 (by decide)).trans ((hg209 a0 5012 0 7 (qb204 _ _ hk188) (by decide)).trans ((xs_n hg206 hk188 nb204).trans ((xs_k hg203 (by decide)).trans ((hg181 a0 5012 0 7 (qb176 _ _ hk161) (by decide)).trans ((xs_n hg178 hk161 nb176).trans (xs_s hg175))))))))))))))))))) hk297 | 8 => xk1 3 0 sl_12_8 ((xs_k hg309 (by decide)).trans ((xs_k hg308 (by decide)).trans ((xs_k hg307 (by decide)).trans ((xs_k hg306 (by decide)).trans ((xs_k hg305 (by decide)).trans ((xs_k hg304 (by decide)).trans ((xs_k hg303 (by decide)).trans ((hg273 a0 5012 0 8 (qb268 _ _ hk249) (by decide)).trans ((xs_n hg270 hk249 nb268).trans ((xs_k hg267 (by decide)).trans ((hg239 a0 5012 0 8 (qb234 _ _ hk217) (by decide)).trans ((xs_n hg236 hk217 nb234).trans ((xs_k hg233 (by decide)).trans ((hg209 a0 5012 0 8 (qb204 _ _ hk188) (by decide)).trans ((xs_n hg206 hk188 nb204).trans (xs_s hg203)))))))))))))))) hk298 | 9 => xk1 9 0 sl_12_9 ((xs_k hg309 (by decide)).trans ((xs_k hg308 (by decide)).trans ((xs_k hg307 (by decide)).trans ((xs_k hg306 (by decide)).trans ((xs_k hg305 (by decide)).trans ((xs_k hg304 (by decide)).trans ((xs_k hg303 (by decide)).trans ((hg273 a0 5012 0 9 (qb268 _ _ hk249) (by decide)).trans ((xs_n hg270 hk249 nb268).trans ((xs_k hg267 (by decide)).trans ((hg239 a0 5012 0 9 (qb234 _ _ hk217) (by decide)).trans ((xs_n hg236 hk217 nb234).trans (xs_s hg233))))))))))))) hk299 | 10 => xk1 7 0 sl_12_10 ((xs_k hg309 (by decide)).trans ((xs_k hg308 (by decide)).trans ((xs_k hg307 (by decide)).trans ((xs_k hg306 (by decide)).trans ((xs_k hg305 (by decide)).trans ((xs_k hg304 (by decide)).trans ((xs_k hg303 (by decide)).trans ((hg273 a0 5012 0 10 (qb268 _ _ hk249) (by decide)).trans ((xs_n hg270 hk249 nb268).trans (xs_s hg267)))))))))) hk300 | 11 => xk1 7 0 sl_12_11 ((xs_k hg309 (by decide)).trans ((xs_k hg308 (by decide)).trans ((xs_k hg307 (by decide)).trans ((xs_k hg306 (by decide)).trans ((xs_k hg305 (by decide)).trans ((xs_k hg304 (by decide)).trans (xs_s hg303))))))) hs_y282 | 12 => xk0 sl_12_12 ((xs_k hg309 (by decide)).trans ((xs_k hg308 (by decide)).trans ((xs_k hg307 (by decide)).trans ((xs_k hg306 (by decide)).trans ((xs_k hg305 (by decide)).trans (xs_s hg304)))))) (by omega) (by omega) | 13 => xk0 sl_12_13 ((xs_k hg309 (by decide)).trans ((xs_k hg308 (by decide)).trans ((xs_k hg307 (by decide)).trans ((xs_k hg306 (by decide)).trans (xs_s hg305))))) (by omega) (by omega) | 14 => xk0 sl_12_14 ((xs_k hg309 (by decide)).trans ((xs_k hg308 (by decide)).trans ((xs_k hg307 (by decide)).trans (xs_s hg306)))) (by omega) (by omega) | 15 => xk0 sl_12_15 ((xs_k hg309 (by decide)).trans ((xs_k hg308 (by decide)).trans (xs_s hg307))) (by omega) (by omega) | 16 => xk0 sl_12_16 ((xs_k hg309 (by decide)).trans (xs_s hg308)) (by omega) (by omega) | 17 => xk0 sl_12_17 (xs_s hg309) (by omega) (by omega) | n9 + 18 => xk9 (by rfl))⟩ (by omega) (by omega)

set_option maxHeartbeats 4000000 in
set_option maxRecDepth 100000 in
theorem c_X12_init (l : Launch) (D : va_G) (kA : Nat → ClassId) (b0 : Nat) (t0 : Nat → Nat) (S : xT) (g : xG) (a0 : Nat) (hs_a0 : S a0 = some (5013, 0)) (hp0 : g a0 0 = .int (iI 0)) (hp1 : g a0 2 = .int (iI 0)) (hp2 : g a0 3 = .int (iI 0)) (hp3 : g a0 16 = .int (iI 0)) (hp4 : g a0 17 = .int (iI 0)) (hp5 : g a0 18 = .int (iI 0)) (hp6 : g a0 19 = .int (iI 0)) (hp7 : g a0 20 = .int (iI 0)) (hp8 : g a0 21 = .int (iI 0)) (hp9 : g a0 22 = .int (iI 0)) (hp10 : g a0 23 = .int (iI 0)) (hp11 : g a0 24 = .int (iI 0)) (hp12 : g a0 25 = .int (iI 0)) (hp13 : g a0 26 = .int (iI 0)) (hp14 : g a0 27 = .int (iI 0)) (hp15 : g a0 28 = .long 0) (hp16 : g a0 39 = .int (iI 0)) (hp17 : g a0 40 = .int (iI 0)) (hp18 : g a0 41 = .int (iI 0)) (hp19 : g a0 42 = .int (iI 0)) (hp20 : g a0 43 = .int (iI 0)) (hp21 : g a0 44 = .int (iI 0)) (hp22 : g a0 58 = .int (iI 0)) (hp23 : g a0 69 = .int (iI 0)) (hp24 : g a0 70 = .long 0) (hp25 : g a0 78 = .int (iI 0)) (hp26 : g a0 79 = .int (iI 0)) (hp27 : g a0 87 = .int (iI 0)) (hp28 : g a0 88 = .int (iI 0)) : xMu l yX12_init cX12_init 1 none 1 57 11099 12 D kA b0 t0 [(5013, 1), (5013, 4), (5013, 5), (5013, 6), (5013, 7), (5013, 8), (14600, 0), (5013, 9), (5013, 10), (5013, 11), (5013, 12), (15000, 0), (5013, 13), (15100, 0), (5013, 14), (5013, 15), (5013, 29), (5013, 30), (5013, 31), (5013, 32), (5013, 33), (5013, 34), (5013, 35), (5013, 36), (5013, 37), (5013, 38), (5013, 45), (5013, 46), (5013, 47), (5013, 48), (5013, 49), (5013, 50), (5013, 51), (5013, 52), (5013, 53), (5013, 54), (5013, 55), (5013, 56), (5013, 57), (5013, 59), (5013, 60), (5013, 61), (5013, 62), (5013, 63), (5013, 64), (5013, 65), (5013, 66), (5013, 67), (5013, 68), (5013, 71), (5013, 72), (5013, 73), (5013, 74), (5013, 75), (5013, 76), (5013, 77), (5013, 80), (5013, 81), (5013, 82), (5013, 83), (5013, 84), (5013, 85), (5013, 86), (5013, 89), (5013, 90)] [.ref a0] S g (fun (r : Option Value) (S1 : xT) (g1 : xG) (dc ds : Nat) => xNw2 S S1 [14100, 14200, 14300, 14400, 14500, 19301, 14600, 14700, 14800, 14900, 15000, 15100, 15200, 15300, 15400, 15500, 15600, 15700, 15800, 15900, 16000, 16100, 16200, 16300, 19401, 16400, 16500, 16600, 16700, 16800, 16900, 17000, 17100, 17200, 17300, 17400, 17500, 19501, 19601, 17600, 17700, 17800, 17900, 18000, 18100, 18200, 18300, 18400, 18500, 19701, 18600, 18700, 18800, 18900, 19000, 19100, 19200] ∧ r = none ∧ (dc ≤ 57 ∧ ds ≤ 11099) ∧ (g1 a0 3 = .int (iI 0)) ∧ (g1 a0 16 = .int (iI 0)) ∧ (g1 a0 69 = .int (iI 0)) ∧ (g1 a0 89 = .int (iI (-1))) ∧ (g1 a0 90 = .int (iI (-1))) ∧ (g1 a0 17 = .int (iI 0)) ∧ (xMy S1 g1 a0) ∧ (xMj S1 g1 a0) ∧ (∀ k9 : Nat, xok S1 (xsl 13 k9) (g1 a0 k9))) := by
  refine xEnterUV (by decide) (by simp [lg_sl, Value.category]) [(0, .ref a0)] rfl ?_
  intro K E hK hret hS0 _ hini ht
  subst ht
  refine X_aloadn hK (i := 0) 0 dX12_init_0 rfl rfl ?_
  refine X_oinit hK ⟨m_8_1, m_1_11, m_1_12⟩ ⟨by decide, by simp [Value.category]⟩ dX12_init_1 ?_
  refine X_aloadn hK (i := 0) 0 dX12_init_4 rfl rfl ?_
  refine X_sipush hK dX12_init_5 (by decide) ?_
  refine X_newa hK (ty := .int) 14100 0 (.int 0) rfl (fun _ => rfl) rfl (by decide) m_3_14 (by omega) ⟨by show _ * 4 ≤ _; omega, by omega⟩ (by omega) (by omega) (fun _ _ h9 => h9) (fun S9 k9 => by rw [sl_14100]; exact ⟨0, rfl, by decide, by decide⟩) dX12_init_8 (fun b1 S2 g3 zb1 nb1 hSb1 hg3 qb1 hs_b1 => ?_)
  refine X_putF hK fl_X12_7_5013 (fun T9 N9 C9 h9 => by cases (Option.some.inj (h9.symm.trans (rfl : vwCl[13]? = some (RX12, TX12, 91)))); rfl) (hini rfl) (qb1 _ _ hs_a0) (Or.inr (by decide)) (xokr 13 1 (by decide)) rfl rfl dX12_init_10 (fun g4 hg4 => ?_)
  refine X_aloadn hK (i := 0) 0 dX12_init_13 rfl rfl ?_
  refine X_bipush hK dX12_init_14 (by decide) ?_
  refine X_newa hK (ty := .int) 14200 0 (.int 0) rfl (fun _ => rfl) rfl (by decide) m_3_14 (by omega) ⟨by show _ * 4 ≤ _; omega, by omega⟩ (by omega) (by omega) (fun _ _ h9 => h9) (fun S9 k9 => by rw [sl_14200]; exact ⟨0, rfl, by decide, by decide⟩) dX12_init_16 (fun b5 S6 g7 zb5 nb5 hSb5 hg7 qb5 hs_b5 => ?_)
  refine X_putF hK fl_X12_13_5013 (fun T9 N9 C9 h9 => by cases (Option.some.inj (h9.symm.trans (rfl : vwCl[13]? = some (RX12, TX12, 91)))); rfl) (hini rfl) (qb5 _ _ (qb1 _ _ hs_a0)) (Or.inr (by decide)) (xokr 13 4 (by decide)) rfl rfl dX12_init_18 (fun g8 hg8 => ?_)
  refine X_aloadn hK (i := 0) 0 dX12_init_21 rfl rfl ?_
  refine X_bipush hK dX12_init_22 (by decide) ?_
  refine X_newa hK (ty := .int) 14300 0 (.int 0) rfl (fun _ => rfl) rfl (by decide) m_3_14 (by omega) ⟨by show _ * 4 ≤ _; omega, by omega⟩ (by omega) (by omega) (fun _ _ h9 => h9) (fun S9 k9 => by rw [sl_14300]; exact ⟨0, rfl, by decide, by decide⟩) dX12_init_24 (fun b9 S10 g11 zb9 nb9 hSb9 hg11 qb9 hs_b9 => ?_)
  refine X_putF hK fl_X12_16_5013 (fun T9 N9 C9 h9 => by cases (Option.some.inj (h9.symm.trans (rfl : vwCl[13]? = some (RX12, TX12, 91)))); rfl) (hini rfl) (qb9 _ _ (qb5 _ _ (qb1 _ _ hs_a0))) (Or.inr (by decide)) (xokr 13 5 (by decide)) rfl rfl dX12_init_26 (fun g12 hg12 => ?_)
  refine X_aloadn hK (i := 0) 0 dX12_init_29 rfl rfl ?_
  refine X_bipush hK dX12_init_30 (by decide) ?_
  refine X_newa hK (ty := .int) 14400 0 (.int 0) rfl (fun _ => rfl) rfl (by decide) m_3_14 (by omega) ⟨by show _ * 4 ≤ _; omega, by omega⟩ (by omega) (by omega) (fun _ _ h9 => h9) (fun S9 k9 => by rw [sl_14400]; exact ⟨0, rfl, by decide, by decide⟩) dX12_init_32 (fun b13 S14 g15 zb13 nb13 hSb13 hg15 qb13 hs_b13 => ?_)
  have hk16 := (qb13 _ _ (qb9 _ _ (qb5 _ _ (qb1 _ _ hs_a0))))
  refine X_putF hK fl_X12_19_5013 (fun T9 N9 C9 h9 => by cases (Option.some.inj (h9.symm.trans (rfl : vwCl[13]? = some (RX12, TX12, 91)))); rfl) (hini rfl) hk16 (Or.inr (by decide)) (xokr 13 6 (by decide)) rfl rfl dX12_init_34 (fun g17 hg17 => ?_)
  refine X_aloadn hK (i := 0) 0 dX12_init_37 rfl rfl ?_
  refine X_bipush hK dX12_init_38 (by decide) ?_
  refine X_newa hK (ty := .int) 14500 0 (.int 0) rfl (fun _ => rfl) rfl (by decide) m_3_14 (by omega) ⟨by show _ * 4 ≤ _; omega, by omega⟩ (by omega) (by omega) (fun _ _ h9 => h9) (fun S9 k9 => by rw [sl_14500]; exact ⟨0, rfl, by decide, by decide⟩) dX12_init_40 (fun b18 S19 g20 zb18 nb18 hSb18 hg20 qb18 hs_b18 => ?_)
  have hk21 := (qb18 _ _ (qb13 _ _ (qb9 _ _ (qb5 _ _ hs_b1))))
  refine X_putF hK fl_X12_22_5013 (fun T9 N9 C9 h9 => by cases (Option.some.inj (h9.symm.trans (rfl : vwCl[13]? = some (RX12, TX12, 91)))); rfl) (hini rfl) (qb18 _ _ hk16) (Or.inr (by decide)) (xokr 13 7 (by decide)) rfl rfl dX12_init_42 (fun g22 hg22 => ?_)
  refine X_aloadn hK (i := 0) 0 dX12_init_45 rfl rfl ?_
  refine X_bipush hK dX12_init_46 (by decide) ?_
  refine X_newa hK (ty := .boolean) 19301 1 (.int 0) rfl (fun _ => rfl) rfl (by decide) m_7_18 (by omega) ⟨by show _ * 1 ≤ _; omega, by omega⟩ (by omega) (by omega) (fun _ _ h9 => h9) (fun S9 k9 => by rw [sl_19301]; exact ⟨0, rfl, by decide, by decide⟩) dX12_init_48 (fun b23 S24 g25 zb23 nb23 hSb23 hg25 qb23 hs_b23 => ?_)
  have hk26 := (qb23 _ _ (qb18 _ _ (qb13 _ _ (qb9 _ _ hs_b5))))
  refine X_putF hK fl_X12_25_5013 (fun T9 N9 C9 h9 => by cases (Option.some.inj (h9.symm.trans (rfl : vwCl[13]? = some (RX12, TX12, 91)))); rfl) (hini rfl) (qb23 _ _ (qb18 _ _ hk16)) (Or.inr (by decide)) (xokr 13 8 (by decide)) rfl rfl dX12_init_50 (fun g27 hg27 => ?_)
  refine X_aloadn hK (i := 0) 0 dX12_init_53 rfl rfl ?_
  refine X_bipush hK dX12_init_54 (by decide) ?_
  refine X_newa hK (ty := .int) 14600 0 (.int 0) rfl (fun _ => rfl) rfl (by decide) m_3_14 (by omega) ⟨by show _ * 4 ≤ _; omega, by omega⟩ (by omega) (by omega) (fun _ _ h9 => h9) (fun S9 k9 => by rw [sl_14600]; exact ⟨0, rfl, by decide, by decide⟩) dX12_init_56 (fun b28 S29 g30 zb28 nb28 hSb28 hg30 qb28 hs_b28 => ?_)
  have hk31 := (qb28 _ _ (qb23 _ _ (qb18 _ _ (qb13 _ _ hs_b9))))
  refine X_dup hK dX12_init_58 rfl ?_
  refine X_iconst hK dX12_init_59 ?_
  refine X_iconst hK dX12_init_60 ?_
  refine X_iast hK hs_b28 (by decide) (by decide) sl_14600 (by omega) (by omega) (by omega) (by omega) dX12_init_61 (fun g32 hg32 => ?_)
  refine X_dup hK dX12_init_62 rfl ?_
  refine X_iconst hK dX12_init_63 ?_
  refine X_iconst hK dX12_init_64 ?_
  refine X_iast hK hs_b28 (by decide) (by decide) sl_14600 (by omega) (by omega) (by omega) (by omega) dX12_init_65 (fun g33 hg33 => ?_)
  refine X_dup hK dX12_init_66 rfl ?_
  refine X_iconst hK dX12_init_67 ?_
  refine X_iconst hK dX12_init_68 ?_
  refine X_iast hK hs_b28 (by decide) (by decide) sl_14600 (by omega) (by omega) (by omega) (by omega) dX12_init_69 (fun g34 hg34 => ?_)
  refine X_dup hK dX12_init_70 rfl ?_
  refine X_iconst hK dX12_init_71 ?_
  refine X_iconst hK dX12_init_72 ?_
  refine X_iast hK hs_b28 (by decide) (by decide) sl_14600 (by omega) (by omega) (by omega) (by omega) dX12_init_73 (fun g35 hg35 => ?_)
  refine X_dup hK dX12_init_74 rfl ?_
  refine X_iconst hK dX12_init_75 ?_
  refine X_iconst hK dX12_init_76 ?_
  refine X_iast hK hs_b28 (by decide) (by decide) sl_14600 (by omega) (by omega) (by omega) (by omega) dX12_init_77 (fun g36 hg36 => ?_)
  refine X_dup hK dX12_init_78 rfl ?_
  refine X_iconst hK dX12_init_79 ?_
  refine X_iconst hK dX12_init_80 ?_
  refine X_iast hK hs_b28 (by decide) (by decide) sl_14600 (by omega) (by omega) (by omega) (by omega) dX12_init_81 (fun g37 hg37 => ?_)
  refine X_dup hK dX12_init_82 rfl ?_
  refine X_bipush hK dX12_init_83 (by decide) ?_
  refine X_iconst hK dX12_init_85 ?_
  refine X_iast hK hs_b28 (by decide) (by decide) sl_14600 (by omega) (by omega) (by omega) (by omega) dX12_init_86 (fun g38 hg38 => ?_)
  refine X_dup hK dX12_init_87 rfl ?_
  refine X_bipush hK dX12_init_88 (by decide) ?_
  refine X_iconst hK dX12_init_90 ?_
  refine X_iast hK hs_b28 (by decide) (by decide) sl_14600 (by omega) (by omega) (by omega) (by omega) dX12_init_91 (fun g39 hg39 => ?_)
  refine X_dup hK dX12_init_92 rfl ?_
  refine X_bipush hK dX12_init_93 (by decide) ?_
  refine X_iconst hK dX12_init_95 ?_
  refine X_iast hK hs_b28 (by decide) (by decide) sl_14600 (by omega) (by omega) (by omega) (by omega) dX12_init_96 (fun g40 hg40 => ?_)
  refine X_dup hK dX12_init_97 rfl ?_
  refine X_bipush hK dX12_init_98 (by decide) ?_
  refine X_iconst hK dX12_init_100 ?_
  refine X_iast hK hs_b28 (by decide) (by decide) sl_14600 (by omega) (by omega) (by omega) (by omega) dX12_init_101 (fun g41 hg41 => ?_)
  refine X_putF hK fl_X12_29_5013 (fun T9 N9 C9 h9 => by cases (Option.some.inj (h9.symm.trans (rfl : vwCl[13]? = some (RX12, TX12, 91)))); rfl) (hini rfl) (qb28 _ _ (qb23 _ _ (qb18 _ _ hk16))) (Or.inr (by decide)) (xokr 13 9 (by decide)) rfl rfl dX12_init_102 (fun g42 hg42 => ?_)
  refine X_aloadn hK (i := 0) 0 dX12_init_105 rfl rfl ?_
  refine X_sipush hK dX12_init_106 (by decide) ?_
  refine X_newa hK (ty := .int) 14700 0 (.int 0) rfl (fun _ => rfl) rfl (by decide) m_3_14 (by omega) ⟨by show _ * 4 ≤ _; omega, by omega⟩ (by omega) (by omega) (fun _ _ h9 => h9) (fun S9 k9 => by rw [sl_14700]; exact ⟨0, rfl, by decide, by decide⟩) dX12_init_109 (fun b43 S44 g45 zb43 nb43 hSb43 hg45 qb43 hs_b43 => ?_)
  have hk46 := (qb43 _ _ (qb28 _ _ (qb23 _ _ (qb18 _ _ hk16))))
  have hk47 := (qb43 _ _ (qb28 _ _ (qb23 _ _ (qb18 _ _ hs_b13))))
  refine X_putF hK fl_X12_32_5013 (fun T9 N9 C9 h9 => by cases (Option.some.inj (h9.symm.trans (rfl : vwCl[13]? = some (RX12, TX12, 91)))); rfl) (hini rfl) hk46 (Or.inr (by decide)) (xokr 13 10 (by decide)) rfl rfl dX12_init_111 (fun g48 hg48 => ?_)
  refine X_aloadn hK (i := 0) 0 dX12_init_114 rfl rfl ?_
  refine X_sipush hK dX12_init_115 (by decide) ?_
  refine X_newa hK (ty := .int) 14800 0 (.int 0) rfl (fun _ => rfl) rfl (by decide) m_3_14 (by omega) ⟨by show _ * 4 ≤ _; omega, by omega⟩ (by omega) (by omega) (fun _ _ h9 => h9) (fun S9 k9 => by rw [sl_14800]; exact ⟨0, rfl, by decide, by decide⟩) dX12_init_118 (fun b49 S50 g51 zb49 nb49 hSb49 hg51 qb49 hs_b49 => ?_)
  have hk52 := (qb49 _ _ (qb43 _ _ (qb28 _ _ (qb23 _ _ hk21))))
  have hk53 := (qb49 _ _ (qb43 _ _ (qb28 _ _ (qb23 _ _ hs_b18))))
  refine X_putF hK fl_X12_35_5013 (fun T9 N9 C9 h9 => by cases (Option.some.inj (h9.symm.trans (rfl : vwCl[13]? = some (RX12, TX12, 91)))); rfl) (hini rfl) (qb49 _ _ hk46) (Or.inr (by decide)) (xokr 13 11 (by decide)) rfl rfl dX12_init_120 (fun g54 hg54 => ?_)
  refine X_aloadn hK (i := 0) 0 dX12_init_123 rfl rfl ?_
  refine X_bipush hK dX12_init_124 (by decide) ?_
  refine X_newa hK (ty := .int) 14900 0 (.int 0) rfl (fun _ => rfl) rfl (by decide) m_3_14 (by omega) ⟨by show _ * 4 ≤ _; omega, by omega⟩ (by omega) (by omega) (fun _ _ h9 => h9) (fun S9 k9 => by rw [sl_14900]; exact ⟨0, rfl, by decide, by decide⟩) dX12_init_126 (fun b55 S56 g57 zb55 nb55 hSb55 hg57 qb55 hs_b55 => ?_)
  have hk58 := (qb55 _ _ (qb49 _ _ (qb43 _ _ (qb28 _ _ hk26))))
  have hk59 := (qb55 _ _ (qb49 _ _ (qb43 _ _ (qb28 _ _ hs_b23))))
  refine X_putF hK fl_X12_38_5013 (fun T9 N9 C9 h9 => by cases (Option.some.inj (h9.symm.trans (rfl : vwCl[13]? = some (RX12, TX12, 91)))); rfl) (hini rfl) (qb55 _ _ (qb49 _ _ hk46)) (Or.inr (by decide)) (xokr 13 12 (by decide)) rfl rfl dX12_init_128 (fun g60 hg60 => ?_)
  refine X_aloadn hK (i := 0) 0 dX12_init_131 rfl rfl ?_
  refine X_iconst hK dX12_init_132 ?_
  refine X_newa hK (ty := .int) 15000 0 (.int 0) rfl (fun _ => rfl) rfl (by decide) m_3_14 (by omega) ⟨by show _ * 4 ≤ _; omega, by omega⟩ (by omega) (by omega) (fun _ _ h9 => h9) (fun S9 k9 => by rw [sl_15000]; exact ⟨0, rfl, by decide, by decide⟩) dX12_init_133 (fun b61 S62 g63 zb61 nb61 hSb61 hg63 qb61 hs_b61 => ?_)
  have hk64 := (qb61 _ _ (qb55 _ _ (qb49 _ _ (qb43 _ _ hk31))))
  have hk65 := (qb61 _ _ (qb55 _ _ (qb49 _ _ (qb43 _ _ hs_b28))))
  refine X_dup hK dX12_init_135 rfl ?_
  refine X_iconst hK dX12_init_136 ?_
  refine X_bipush hK dX12_init_137 (by decide) ?_
  refine X_iast hK hs_b61 (by decide) (by decide) sl_15000 (by omega) (by omega) (by omega) (by omega) dX12_init_139 (fun g66 hg66 => ?_)
  refine X_dup hK dX12_init_140 rfl ?_
  refine X_iconst hK dX12_init_141 ?_
  refine X_bipush hK dX12_init_142 (by decide) ?_
  refine X_iast hK hs_b61 (by decide) (by decide) sl_15000 (by omega) (by omega) (by omega) (by omega) dX12_init_144 (fun g67 hg67 => ?_)
  refine X_dup hK dX12_init_145 rfl ?_
  refine X_iconst hK dX12_init_146 ?_
  refine X_bipush hK dX12_init_147 (by decide) ?_
  refine X_iast hK hs_b61 (by decide) (by decide) sl_15000 (by omega) (by omega) (by omega) (by omega) dX12_init_149 (fun g68 hg68 => ?_)
  refine X_dup hK dX12_init_150 rfl ?_
  refine X_iconst hK dX12_init_151 ?_
  refine X_bipush hK dX12_init_152 (by decide) ?_
  refine X_iast hK hs_b61 (by decide) (by decide) sl_15000 (by omega) (by omega) (by omega) (by omega) dX12_init_154 (fun g69 hg69 => ?_)
  refine X_putF hK fl_X12_41_5013 (fun T9 N9 C9 h9 => by cases (Option.some.inj (h9.symm.trans (rfl : vwCl[13]? = some (RX12, TX12, 91)))); rfl) (hini rfl) (qb61 _ _ (qb55 _ _ (qb49 _ _ hk46))) (Or.inr (by decide)) (xokr 13 13 (by decide)) rfl rfl dX12_init_155 (fun g70 hg70 => ?_)
  refine X_aloadn hK (i := 0) 0 dX12_init_158 rfl rfl ?_
  refine X_bipush hK dX12_init_159 (by decide) ?_
  refine X_newa hK (ty := .int) 15100 0 (.int 0) rfl (fun _ => rfl) rfl (by decide) m_3_14 (by omega) ⟨by show _ * 4 ≤ _; omega, by omega⟩ (by omega) (by omega) (fun _ _ h9 => h9) (fun S9 k9 => by rw [sl_15100]; exact ⟨0, rfl, by decide, by decide⟩) dX12_init_161 (fun b71 S72 g73 zb71 nb71 hSb71 hg73 qb71 hs_b71 => ?_)
  have hk74 := (qb71 _ _ (qb61 _ _ (qb55 _ _ (qb49 _ _ hk46))))
  have hk75 := (qb71 _ _ (qb61 _ _ (qb55 _ _ (qb49 _ _ hk47))))
  have hk76 := (qb71 _ _ (qb61 _ _ (qb55 _ _ (qb49 _ _ hs_b43))))
  refine X_dup hK dX12_init_163 rfl ?_
  refine X_iconst hK dX12_init_164 ?_
  refine X_bipush hK dX12_init_165 (by decide) ?_
  refine X_iast hK hs_b71 (by decide) (by decide) sl_15100 (by omega) (by omega) (by omega) (by omega) dX12_init_167 (fun g77 hg77 => ?_)
  refine X_dup hK dX12_init_168 rfl ?_
  refine X_iconst hK dX12_init_169 ?_
  refine X_bipush hK dX12_init_170 (by decide) ?_
  refine X_iast hK hs_b71 (by decide) (by decide) sl_15100 (by omega) (by omega) (by omega) (by omega) dX12_init_172 (fun g78 hg78 => ?_)
  refine X_dup hK dX12_init_173 rfl ?_
  refine X_iconst hK dX12_init_174 ?_
  refine X_bipush hK dX12_init_175 (by decide) ?_
  refine X_iast hK hs_b71 (by decide) (by decide) sl_15100 (by omega) (by omega) (by omega) (by omega) dX12_init_177 (fun g79 hg79 => ?_)
  refine X_dup hK dX12_init_178 rfl ?_
  refine X_iconst hK dX12_init_179 ?_
  refine X_bipush hK dX12_init_180 (by decide) ?_
  refine X_iast hK hs_b71 (by decide) (by decide) sl_15100 (by omega) (by omega) (by omega) (by omega) dX12_init_182 (fun g80 hg80 => ?_)
  refine X_dup hK dX12_init_183 rfl ?_
  refine X_iconst hK dX12_init_184 ?_
  refine X_bipush hK dX12_init_185 (by decide) ?_
  refine X_iast hK hs_b71 (by decide) (by decide) sl_15100 (by omega) (by omega) (by omega) (by omega) dX12_init_187 (fun g81 hg81 => ?_)
  refine X_dup hK dX12_init_188 rfl ?_
  refine X_iconst hK dX12_init_189 ?_
  refine X_bipush hK dX12_init_190 (by decide) ?_
  refine X_iast hK hs_b71 (by decide) (by decide) sl_15100 (by omega) (by omega) (by omega) (by omega) dX12_init_192 (fun g82 hg82 => ?_)
  refine X_putF hK fl_X12_44_5013 (fun T9 N9 C9 h9 => by cases (Option.some.inj (h9.symm.trans (rfl : vwCl[13]? = some (RX12, TX12, 91)))); rfl) (hini rfl) hk74 (Or.inr (by decide)) (xokr 13 14 (by decide)) rfl rfl dX12_init_193 (fun g83 hg83 => ?_)
  refine X_aloadn hK (i := 0) 0 dX12_init_196 rfl rfl ?_
  refine X_bipush hK dX12_init_197 (by decide) ?_
  refine X_newa hK (ty := .int) 15200 0 (.int 0) rfl (fun _ => rfl) rfl (by decide) m_3_14 (by omega) ⟨by show _ * 4 ≤ _; omega, by omega⟩ (by omega) (by omega) (fun _ _ h9 => h9) (fun S9 k9 => by rw [sl_15200]; exact ⟨0, rfl, by decide, by decide⟩) dX12_init_199 (fun b84 S85 g86 zb84 nb84 hSb84 hg86 qb84 hs_b84 => ?_)
  have hk87 := (qb84 _ _ (qb71 _ _ (qb61 _ _ (qb55 _ _ hk52))))
  have hk88 := (qb84 _ _ (qb71 _ _ (qb61 _ _ (qb55 _ _ hk53))))
  have hk89 := (qb84 _ _ (qb71 _ _ (qb61 _ _ (qb55 _ _ hs_b49))))
  refine X_putF hK fl_X12_47_5013 (fun T9 N9 C9 h9 => by cases (Option.some.inj (h9.symm.trans (rfl : vwCl[13]? = some (RX12, TX12, 91)))); rfl) (hini rfl) (qb84 _ _ hk74) (Or.inr (by decide)) (xokr 13 15 (by decide)) rfl rfl dX12_init_201 (fun g90 hg90 => ?_)
  refine X_aloadn hK (i := 0) 0 dX12_init_204 rfl rfl ?_
  refine X_bipush hK dX12_init_205 (by decide) ?_
  refine X_newa hK (ty := .int) 15300 0 (.int 0) rfl (fun _ => rfl) rfl (by decide) m_3_14 (by omega) ⟨by show _ * 4 ≤ _; omega, by omega⟩ (by omega) (by omega) (fun _ _ h9 => h9) (fun S9 k9 => by rw [sl_15300]; exact ⟨0, rfl, by decide, by decide⟩) dX12_init_207 (fun b91 S92 g93 zb91 nb91 hSb91 hg93 qb91 hs_b91 => ?_)
  have hk94 := (qb91 _ _ (qb84 _ _ (qb71 _ _ (qb61 _ _ hk58))))
  have hk95 := (qb91 _ _ (qb84 _ _ (qb71 _ _ (qb61 _ _ hk59))))
  have hk96 := (qb91 _ _ (qb84 _ _ (qb71 _ _ (qb61 _ _ hs_b55))))
  refine X_putF hK fl_X12_50_5013 (fun T9 N9 C9 h9 => by cases (Option.some.inj (h9.symm.trans (rfl : vwCl[13]? = some (RX12, TX12, 91)))); rfl) (hini rfl) (qb91 _ _ (qb84 _ _ hk74)) (Or.inr (by decide)) (xokr 13 29 (by decide)) rfl rfl dX12_init_209 (fun g97 hg97 => ?_)
  refine X_aloadn hK (i := 0) 0 dX12_init_212 rfl rfl ?_
  refine X_bipush hK dX12_init_213 (by decide) ?_
  refine X_newa hK (ty := .int) 15400 0 (.int 0) rfl (fun _ => rfl) rfl (by decide) m_3_14 (by omega) ⟨by show _ * 4 ≤ _; omega, by omega⟩ (by omega) (by omega) (fun _ _ h9 => h9) (fun S9 k9 => by rw [sl_15400]; exact ⟨0, rfl, by decide, by decide⟩) dX12_init_215 (fun b98 S99 g100 zb98 nb98 hSb98 hg100 qb98 hs_b98 => ?_)
  have hk101 := (qb98 _ _ (qb91 _ _ (qb84 _ _ (qb71 _ _ hk64))))
  have hk102 := (qb98 _ _ (qb91 _ _ (qb84 _ _ (qb71 _ _ hk65))))
  have hk103 := (qb98 _ _ (qb91 _ _ (qb84 _ _ (qb71 _ _ hs_b61))))
  refine X_putF hK fl_X12_53_5013 (fun T9 N9 C9 h9 => by cases (Option.some.inj (h9.symm.trans (rfl : vwCl[13]? = some (RX12, TX12, 91)))); rfl) (hini rfl) (qb98 _ _ (qb91 _ _ (qb84 _ _ hk74))) (Or.inr (by decide)) (xokr 13 30 (by decide)) rfl rfl dX12_init_217 (fun g104 hg104 => ?_)
  refine X_aloadn hK (i := 0) 0 dX12_init_220 rfl rfl ?_
  refine X_sipush hK dX12_init_221 (by decide) ?_
  refine X_newa hK (ty := .int) 15500 0 (.int 0) rfl (fun _ => rfl) rfl (by decide) m_3_14 (by omega) ⟨by show _ * 4 ≤ _; omega, by omega⟩ (by omega) (by omega) (fun _ _ h9 => h9) (fun S9 k9 => by rw [sl_15500]; exact ⟨0, rfl, by decide, by decide⟩) dX12_init_224 (fun b105 S106 g107 zb105 nb105 hSb105 hg107 qb105 hs_b105 => ?_)
  have hk108 := (qb105 _ _ (qb98 _ _ (qb91 _ _ (qb84 _ _ hk74))))
  have hk109 := (qb105 _ _ (qb98 _ _ (qb91 _ _ (qb84 _ _ hk75))))
  have hk110 := (qb105 _ _ (qb98 _ _ (qb91 _ _ (qb84 _ _ hk76))))
  have hk111 := (qb105 _ _ (qb98 _ _ (qb91 _ _ (qb84 _ _ hs_b71))))
  refine X_putF hK fl_X12_56_5013 (fun T9 N9 C9 h9 => by cases (Option.some.inj (h9.symm.trans (rfl : vwCl[13]? = some (RX12, TX12, 91)))); rfl) (hini rfl) hk108 (Or.inr (by decide)) (xokr 13 31 (by decide)) rfl rfl dX12_init_226 (fun g112 hg112 => ?_)
  refine X_aloadn hK (i := 0) 0 dX12_init_229 rfl rfl ?_
  refine X_sipush hK dX12_init_230 (by decide) ?_
  refine X_newa hK (ty := .int) 15600 0 (.int 0) rfl (fun _ => rfl) rfl (by decide) m_3_14 (by omega) ⟨by show _ * 4 ≤ _; omega, by omega⟩ (by omega) (by omega) (fun _ _ h9 => h9) (fun S9 k9 => by rw [sl_15600]; exact ⟨0, rfl, by decide, by decide⟩) dX12_init_233 (fun b113 S114 g115 zb113 nb113 hSb113 hg115 qb113 hs_b113 => ?_)
  have hk116 := (qb113 _ _ (qb105 _ _ (qb98 _ _ (qb91 _ _ hk87))))
  have hk117 := (qb113 _ _ (qb105 _ _ (qb98 _ _ (qb91 _ _ hk88))))
  have hk118 := (qb113 _ _ (qb105 _ _ (qb98 _ _ (qb91 _ _ hk89))))
  have hk119 := (qb113 _ _ (qb105 _ _ (qb98 _ _ (qb91 _ _ hs_b84))))
  refine X_putF hK fl_X12_59_5013 (fun T9 N9 C9 h9 => by cases (Option.some.inj (h9.symm.trans (rfl : vwCl[13]? = some (RX12, TX12, 91)))); rfl) (hini rfl) (qb113 _ _ hk108) (Or.inr (by decide)) (xokr 13 32 (by decide)) rfl rfl dX12_init_235 (fun g120 hg120 => ?_)
  refine X_aloadn hK (i := 0) 0 dX12_init_238 rfl rfl ?_
  refine X_sipush hK dX12_init_239 (by decide) ?_
  refine X_newa hK (ty := .int) 15700 0 (.int 0) rfl (fun _ => rfl) rfl (by decide) m_3_14 (by omega) ⟨by show _ * 4 ≤ _; omega, by omega⟩ (by omega) (by omega) (fun _ _ h9 => h9) (fun S9 k9 => by rw [sl_15700]; exact ⟨0, rfl, by decide, by decide⟩) dX12_init_242 (fun b121 S122 g123 zb121 nb121 hSb121 hg123 qb121 hs_b121 => ?_)
  have hk124 := (qb121 _ _ (qb113 _ _ (qb105 _ _ (qb98 _ _ hk94))))
  have hk125 := (qb121 _ _ (qb113 _ _ (qb105 _ _ (qb98 _ _ hk95))))
  have hk126 := (qb121 _ _ (qb113 _ _ (qb105 _ _ (qb98 _ _ hk96))))
  have hk127 := (qb121 _ _ (qb113 _ _ (qb105 _ _ (qb98 _ _ hs_b91))))
  refine X_putF hK fl_X12_62_5013 (fun T9 N9 C9 h9 => by cases (Option.some.inj (h9.symm.trans (rfl : vwCl[13]? = some (RX12, TX12, 91)))); rfl) (hini rfl) (qb121 _ _ (qb113 _ _ hk108)) (Or.inr (by decide)) (xokr 13 33 (by decide)) rfl rfl dX12_init_244 (fun g128 hg128 => ?_)
  refine X_aloadn hK (i := 0) 0 dX12_init_247 rfl rfl ?_
  refine X_sipush hK dX12_init_248 (by decide) ?_
  refine X_newa hK (ty := .int) 15800 0 (.int 0) rfl (fun _ => rfl) rfl (by decide) m_3_14 (by omega) ⟨by show _ * 4 ≤ _; omega, by omega⟩ (by omega) (by omega) (fun _ _ h9 => h9) (fun S9 k9 => by rw [sl_15800]; exact ⟨0, rfl, by decide, by decide⟩) dX12_init_251 (fun b129 S130 g131 zb129 nb129 hSb129 hg131 qb129 hs_b129 => ?_)
  have hk132 := (qb129 _ _ (qb121 _ _ (qb113 _ _ (qb105 _ _ hk101))))
  have hk133 := (qb129 _ _ (qb121 _ _ (qb113 _ _ (qb105 _ _ hk102))))
  have hk134 := (qb129 _ _ (qb121 _ _ (qb113 _ _ (qb105 _ _ hk103))))
  have hk135 := (qb129 _ _ (qb121 _ _ (qb113 _ _ (qb105 _ _ hs_b98))))
  refine X_putF hK fl_X12_65_5013 (fun T9 N9 C9 h9 => by cases (Option.some.inj (h9.symm.trans (rfl : vwCl[13]? = some (RX12, TX12, 91)))); rfl) (hini rfl) (qb129 _ _ (qb121 _ _ (qb113 _ _ hk108))) (Or.inr (by decide)) (xokr 13 34 (by decide)) rfl rfl dX12_init_253 (fun g136 hg136 => ?_)
  refine X_aloadn hK (i := 0) 0 dX12_init_256 rfl rfl ?_
  refine X_sipush hK dX12_init_257 (by decide) ?_
  refine X_newa hK (ty := .int) 15900 0 (.int 0) rfl (fun _ => rfl) rfl (by decide) m_3_14 (by omega) ⟨by show _ * 4 ≤ _; omega, by omega⟩ (by omega) (by omega) (fun _ _ h9 => h9) (fun S9 k9 => by rw [sl_15900]; exact ⟨0, rfl, by decide, by decide⟩) dX12_init_260 (fun b137 S138 g139 zb137 nb137 hSb137 hg139 qb137 hs_b137 => ?_)
  have hk140 := (qb137 _ _ (qb129 _ _ (qb121 _ _ (qb113 _ _ hk108))))
  have hk141 := (qb137 _ _ (qb129 _ _ (qb121 _ _ (qb113 _ _ hk109))))
  have hk142 := (qb137 _ _ (qb129 _ _ (qb121 _ _ (qb113 _ _ hk110))))
  have hk143 := (qb137 _ _ (qb129 _ _ (qb121 _ _ (qb113 _ _ hk111))))
  have hk144 := (qb137 _ _ (qb129 _ _ (qb121 _ _ (qb113 _ _ hs_b105))))
  refine X_putF hK fl_X12_68_5013 (fun T9 N9 C9 h9 => by cases (Option.some.inj (h9.symm.trans (rfl : vwCl[13]? = some (RX12, TX12, 91)))); rfl) (hini rfl) hk140 (Or.inr (by decide)) (xokr 13 35 (by decide)) rfl rfl dX12_init_262 (fun g145 hg145 => ?_)
  refine X_aloadn hK (i := 0) 0 dX12_init_265 rfl rfl ?_
  refine X_sipush hK dX12_init_266 (by decide) ?_
  refine X_newa hK (ty := .int) 16000 0 (.int 0) rfl (fun _ => rfl) rfl (by decide) m_3_14 (by omega) ⟨by show _ * 4 ≤ _; omega, by omega⟩ (by omega) (by omega) (fun _ _ h9 => h9) (fun S9 k9 => by rw [sl_16000]; exact ⟨0, rfl, by decide, by decide⟩) dX12_init_269 (fun b146 S147 g148 zb146 nb146 hSb146 hg148 qb146 hs_b146 => ?_)
  have hk149 := (qb146 _ _ (qb137 _ _ (qb129 _ _ (qb121 _ _ hk116))))
  have hk150 := (qb146 _ _ (qb137 _ _ (qb129 _ _ (qb121 _ _ hk117))))
  have hk151 := (qb146 _ _ (qb137 _ _ (qb129 _ _ (qb121 _ _ hk118))))
  have hk152 := (qb146 _ _ (qb137 _ _ (qb129 _ _ (qb121 _ _ hk119))))
  have hk153 := (qb146 _ _ (qb137 _ _ (qb129 _ _ (qb121 _ _ hs_b113))))
  refine X_putF hK fl_X12_71_5013 (fun T9 N9 C9 h9 => by cases (Option.some.inj (h9.symm.trans (rfl : vwCl[13]? = some (RX12, TX12, 91)))); rfl) (hini rfl) (qb146 _ _ hk140) (Or.inr (by decide)) (xokr 13 36 (by decide)) rfl rfl dX12_init_271 (fun g154 hg154 => ?_)
  refine X_aloadn hK (i := 0) 0 dX12_init_274 rfl rfl ?_
  refine X_sipush hK dX12_init_275 (by decide) ?_
  refine X_newa hK (ty := .int) 16100 0 (.int 0) rfl (fun _ => rfl) rfl (by decide) m_3_14 (by omega) ⟨by show _ * 4 ≤ _; omega, by omega⟩ (by omega) (by omega) (fun _ _ h9 => h9) (fun S9 k9 => by rw [sl_16100]; exact ⟨0, rfl, by decide, by decide⟩) dX12_init_278 (fun b155 S156 g157 zb155 nb155 hSb155 hg157 qb155 hs_b155 => ?_)
  have hk158 := (qb155 _ _ (qb146 _ _ (qb137 _ _ (qb129 _ _ hk124))))
  have hk159 := (qb155 _ _ (qb146 _ _ (qb137 _ _ (qb129 _ _ hk125))))
  have hk160 := (qb155 _ _ (qb146 _ _ (qb137 _ _ (qb129 _ _ hk126))))
  have hk161 := (qb155 _ _ (qb146 _ _ (qb137 _ _ (qb129 _ _ hk127))))
  have hk162 := (qb155 _ _ (qb146 _ _ (qb137 _ _ (qb129 _ _ hs_b121))))
  refine X_putF hK fl_X12_74_5013 (fun T9 N9 C9 h9 => by cases (Option.some.inj (h9.symm.trans (rfl : vwCl[13]? = some (RX12, TX12, 91)))); rfl) (hini rfl) (qb155 _ _ (qb146 _ _ hk140)) (Or.inr (by decide)) (xokr 13 37 (by decide)) rfl rfl dX12_init_280 (fun g163 hg163 => ?_)
  refine X_aloadn hK (i := 0) 0 dX12_init_283 rfl rfl ?_
  refine X_bipush hK dX12_init_284 (by decide) ?_
  refine X_newa hK (ty := .int) 16200 0 (.int 0) rfl (fun _ => rfl) rfl (by decide) m_3_14 (by omega) ⟨by show _ * 4 ≤ _; omega, by omega⟩ (by omega) (by omega) (fun _ _ h9 => h9) (fun S9 k9 => by rw [sl_16200]; exact ⟨0, rfl, by decide, by decide⟩) dX12_init_286 (fun b164 S165 g166 zb164 nb164 hSb164 hg166 qb164 hs_b164 => ?_)
  have hk167 := (qb164 _ _ (qb155 _ _ (qb146 _ _ (qb137 _ _ hk132))))
  have hk168 := (qb164 _ _ (qb155 _ _ (qb146 _ _ (qb137 _ _ hk133))))
  have hk169 := (qb164 _ _ (qb155 _ _ (qb146 _ _ (qb137 _ _ hk134))))
  have hk170 := (qb164 _ _ (qb155 _ _ (qb146 _ _ (qb137 _ _ hk135))))
  have hk171 := (qb164 _ _ (qb155 _ _ (qb146 _ _ (qb137 _ _ hs_b129))))
  refine X_putF hK fl_X12_77_5013 (fun T9 N9 C9 h9 => by cases (Option.some.inj (h9.symm.trans (rfl : vwCl[13]? = some (RX12, TX12, 91)))); rfl) (hini rfl) (qb164 _ _ (qb155 _ _ (qb146 _ _ hk140))) (Or.inr (by decide)) (xokr 13 38 (by decide)) rfl rfl dX12_init_288 (fun g172 hg172 => ?_)
  refine X_aloadn hK (i := 0) 0 dX12_init_291 rfl rfl ?_
  refine X_bipush hK dX12_init_292 (by decide) ?_
  refine X_newa hK (ty := .int) 16300 0 (.int 0) rfl (fun _ => rfl) rfl (by decide) m_3_14 (by omega) ⟨by show _ * 4 ≤ _; omega, by omega⟩ (by omega) (by omega) (fun _ _ h9 => h9) (fun S9 k9 => by rw [sl_16300]; exact ⟨0, rfl, by decide, by decide⟩) dX12_init_294 (fun b173 S174 g175 zb173 nb173 hSb173 hg175 qb173 hs_b173 => ?_)
  have hk176 := (qb173 _ _ (qb164 _ _ (qb155 _ _ (qb146 _ _ hk140))))
  have hk177 := (qb173 _ _ (qb164 _ _ (qb155 _ _ (qb146 _ _ hk141))))
  have hk178 := (qb173 _ _ (qb164 _ _ (qb155 _ _ (qb146 _ _ hk142))))
  have hk179 := (qb173 _ _ (qb164 _ _ (qb155 _ _ (qb146 _ _ hk143))))
  have hk180 := (qb173 _ _ (qb164 _ _ (qb155 _ _ (qb146 _ _ hk144))))
  have hk181 := (qb173 _ _ (qb164 _ _ (qb155 _ _ (qb146 _ _ hs_b137))))
  refine X_putF hK fl_X12_80_5013 (fun T9 N9 C9 h9 => by cases (Option.some.inj (h9.symm.trans (rfl : vwCl[13]? = some (RX12, TX12, 91)))); rfl) (hini rfl) hk176 (Or.inr (by decide)) (xokr 13 45 (by decide)) rfl rfl dX12_init_296 (fun g182 hg182 => ?_)
  refine X_aloadn hK (i := 0) 0 dX12_init_299 rfl rfl ?_
  refine X_bipush hK dX12_init_300 (by decide) ?_
  refine X_newa hK (ty := .boolean) 19401 1 (.int 0) rfl (fun _ => rfl) rfl (by decide) m_7_18 (by omega) ⟨by show _ * 1 ≤ _; omega, by omega⟩ (by omega) (by omega) (fun _ _ h9 => h9) (fun S9 k9 => by rw [sl_19401]; exact ⟨0, rfl, by decide, by decide⟩) dX12_init_302 (fun b183 S184 g185 zb183 nb183 hSb183 hg185 qb183 hs_b183 => ?_)
  have hk186 := (qb183 _ _ (qb173 _ _ (qb164 _ _ (qb155 _ _ hk149))))
  have hk187 := (qb183 _ _ (qb173 _ _ (qb164 _ _ (qb155 _ _ hk150))))
  have hk188 := (qb183 _ _ (qb173 _ _ (qb164 _ _ (qb155 _ _ hk151))))
  have hk189 := (qb183 _ _ (qb173 _ _ (qb164 _ _ (qb155 _ _ hk152))))
  have hk190 := (qb183 _ _ (qb173 _ _ (qb164 _ _ (qb155 _ _ hk153))))
  have hk191 := (qb183 _ _ (qb173 _ _ (qb164 _ _ (qb155 _ _ hs_b146))))
  refine X_putF hK fl_X12_83_5013 (fun T9 N9 C9 h9 => by cases (Option.some.inj (h9.symm.trans (rfl : vwCl[13]? = some (RX12, TX12, 91)))); rfl) (hini rfl) (qb183 _ _ hk176) (Or.inr (by decide)) (xokr 13 46 (by decide)) rfl rfl dX12_init_304 (fun g192 hg192 => ?_)
  refine X_aloadn hK (i := 0) 0 dX12_init_307 rfl rfl ?_
  refine X_iconst hK dX12_init_308 ?_
  refine X_putv hK fl_X12_86_5013 (qb183 _ _ hk176) (by decide) (xokr 13 47 (by decide)) rfl rfl dX12_init_309 (fun g193 hg193 => ?_)
  refine X_aloadn hK (i := 0) 0 dX12_init_312 rfl rfl ?_
  refine X_sipush hK dX12_init_313 (by decide) ?_
  refine X_newa hK (ty := .int) 16400 0 (.int 0) rfl (fun _ => rfl) rfl (by decide) m_3_14 (by omega) ⟨by show _ * 4 ≤ _; omega, by omega⟩ (by omega) (by omega) (fun _ _ h9 => h9) (fun S9 k9 => by rw [sl_16400]; exact ⟨0, rfl, by decide, by decide⟩) dX12_init_316 (fun b194 S195 g196 zb194 nb194 hSb194 hg196 qb194 hs_b194 => ?_)
  have hk197 := (qb194 _ _ (qb183 _ _ (qb173 _ _ (qb164 _ _ hk158))))
  have hk198 := (qb194 _ _ (qb183 _ _ (qb173 _ _ (qb164 _ _ hk159))))
  have hk199 := (qb194 _ _ (qb183 _ _ (qb173 _ _ (qb164 _ _ hk160))))
  have hk200 := (qb194 _ _ (qb183 _ _ (qb173 _ _ (qb164 _ _ hk161))))
  have hk201 := (qb194 _ _ (qb183 _ _ (qb173 _ _ (qb164 _ _ hk162))))
  have hk202 := (qb194 _ _ (qb183 _ _ (qb173 _ _ (qb164 _ _ hs_b155))))
  refine X_putF hK fl_X12_90_5013 (fun T9 N9 C9 h9 => by cases (Option.some.inj (h9.symm.trans (rfl : vwCl[13]? = some (RX12, TX12, 91)))); rfl) (hini rfl) (qb194 _ _ (qb183 _ _ hk176)) (Or.inr (by decide)) (xokr 13 48 (by decide)) rfl rfl dX12_init_318 (fun g203 hg203 => ?_)
  refine X_aloadn hK (i := 0) 0 dX12_init_321 rfl rfl ?_
  refine X_sipush hK dX12_init_322 (by decide) ?_
  refine X_newa hK (ty := .int) 16500 0 (.int 0) rfl (fun _ => rfl) rfl (by decide) m_3_14 (by omega) ⟨by show _ * 4 ≤ _; omega, by omega⟩ (by omega) (by omega) (fun _ _ h9 => h9) (fun S9 k9 => by rw [sl_16500]; exact ⟨0, rfl, by decide, by decide⟩) dX12_init_325 (fun b204 S205 g206 zb204 nb204 hSb204 hg206 qb204 hs_b204 => ?_)
  have hk207 := (qb204 _ _ (qb194 _ _ (qb183 _ _ (qb173 _ _ hk167))))
  have hk208 := (qb204 _ _ (qb194 _ _ (qb183 _ _ (qb173 _ _ hk168))))
  have hk209 := (qb204 _ _ (qb194 _ _ (qb183 _ _ (qb173 _ _ hk169))))
  have hk210 := (qb204 _ _ (qb194 _ _ (qb183 _ _ (qb173 _ _ hk170))))
  have hk211 := (qb204 _ _ (qb194 _ _ (qb183 _ _ (qb173 _ _ hk171))))
  have hk212 := (qb204 _ _ (qb194 _ _ (qb183 _ _ (qb173 _ _ hs_b164))))
  refine X_putF hK fl_X12_93_5013 (fun T9 N9 C9 h9 => by cases (Option.some.inj (h9.symm.trans (rfl : vwCl[13]? = some (RX12, TX12, 91)))); rfl) (hini rfl) (qb204 _ _ (qb194 _ _ (qb183 _ _ hk176))) (Or.inr (by decide)) (xokr 13 49 (by decide)) rfl rfl dX12_init_327 (fun g213 hg213 => ?_)
  refine X_aloadn hK (i := 0) 0 dX12_init_330 rfl rfl ?_
  refine X_sipush hK dX12_init_331 (by decide) ?_
  refine X_newa hK (ty := .int) 16600 0 (.int 0) rfl (fun _ => rfl) rfl (by decide) m_3_14 (by omega) ⟨by show _ * 4 ≤ _; omega, by omega⟩ (by omega) (by omega) (fun _ _ h9 => h9) (fun S9 k9 => by rw [sl_16600]; exact ⟨0, rfl, by decide, by decide⟩) dX12_init_334 (fun b214 S215 g216 zb214 nb214 hSb214 hg216 qb214 hs_b214 => ?_)
  have hk217 := (qb214 _ _ (qb204 _ _ (qb194 _ _ (qb183 _ _ hk176))))
  have hk218 := (qb214 _ _ (qb204 _ _ (qb194 _ _ (qb183 _ _ hk177))))
  have hk219 := (qb214 _ _ (qb204 _ _ (qb194 _ _ (qb183 _ _ hk178))))
  have hk220 := (qb214 _ _ (qb204 _ _ (qb194 _ _ (qb183 _ _ hk179))))
  have hk221 := (qb214 _ _ (qb204 _ _ (qb194 _ _ (qb183 _ _ hk180))))
  have hk222 := (qb214 _ _ (qb204 _ _ (qb194 _ _ (qb183 _ _ hk181))))
  have hk223 := (qb214 _ _ (qb204 _ _ (qb194 _ _ (qb183 _ _ hs_b173))))
  refine X_putF hK fl_X12_96_5013 (fun T9 N9 C9 h9 => by cases (Option.some.inj (h9.symm.trans (rfl : vwCl[13]? = some (RX12, TX12, 91)))); rfl) (hini rfl) hk217 (Or.inr (by decide)) (xokr 13 50 (by decide)) rfl rfl dX12_init_336 (fun g224 hg224 => ?_)
  refine X_aloadn hK (i := 0) 0 dX12_init_339 rfl rfl ?_
  refine X_sipush hK dX12_init_340 (by decide) ?_
  refine X_newa hK (ty := .int) 16700 0 (.int 0) rfl (fun _ => rfl) rfl (by decide) m_3_14 (by omega) ⟨by show _ * 4 ≤ _; omega, by omega⟩ (by omega) (by omega) (fun _ _ h9 => h9) (fun S9 k9 => by rw [sl_16700]; exact ⟨0, rfl, by decide, by decide⟩) dX12_init_343 (fun b225 S226 g227 zb225 nb225 hSb225 hg227 qb225 hs_b225 => ?_)
  have hk228 := (qb225 _ _ (qb214 _ _ (qb204 _ _ (qb194 _ _ hk186))))
  have hk229 := (qb225 _ _ (qb214 _ _ (qb204 _ _ (qb194 _ _ hk187))))
  have hk230 := (qb225 _ _ (qb214 _ _ (qb204 _ _ (qb194 _ _ hk188))))
  have hk231 := (qb225 _ _ (qb214 _ _ (qb204 _ _ (qb194 _ _ hk189))))
  have hk232 := (qb225 _ _ (qb214 _ _ (qb204 _ _ (qb194 _ _ hk190))))
  have hk233 := (qb225 _ _ (qb214 _ _ (qb204 _ _ (qb194 _ _ hk191))))
  have hk234 := (qb225 _ _ (qb214 _ _ (qb204 _ _ (qb194 _ _ hs_b183))))
  refine X_putF hK fl_X12_99_5013 (fun T9 N9 C9 h9 => by cases (Option.some.inj (h9.symm.trans (rfl : vwCl[13]? = some (RX12, TX12, 91)))); rfl) (hini rfl) (qb225 _ _ hk217) (Or.inr (by decide)) (xokr 13 51 (by decide)) rfl rfl dX12_init_345 (fun g235 hg235 => ?_)
  refine X_aloadn hK (i := 0) 0 dX12_init_348 rfl rfl ?_
  refine X_sipush hK dX12_init_349 (by decide) ?_
  refine X_newa hK (ty := .int) 16800 0 (.int 0) rfl (fun _ => rfl) rfl (by decide) m_3_14 (by omega) ⟨by show _ * 4 ≤ _; omega, by omega⟩ (by omega) (by omega) (fun _ _ h9 => h9) (fun S9 k9 => by rw [sl_16800]; exact ⟨0, rfl, by decide, by decide⟩) dX12_init_352 (fun b236 S237 g238 zb236 nb236 hSb236 hg238 qb236 hs_b236 => ?_)
  have hk239 := (qb236 _ _ (qb225 _ _ (qb214 _ _ (qb204 _ _ hk197))))
  have hk240 := (qb236 _ _ (qb225 _ _ (qb214 _ _ (qb204 _ _ hk198))))
  have hk241 := (qb236 _ _ (qb225 _ _ (qb214 _ _ (qb204 _ _ hk199))))
  have hk242 := (qb236 _ _ (qb225 _ _ (qb214 _ _ (qb204 _ _ hk200))))
  have hk243 := (qb236 _ _ (qb225 _ _ (qb214 _ _ (qb204 _ _ hk201))))
  have hk244 := (qb236 _ _ (qb225 _ _ (qb214 _ _ (qb204 _ _ hk202))))
  have hk245 := (qb236 _ _ (qb225 _ _ (qb214 _ _ (qb204 _ _ hs_b194))))
  refine X_putF hK fl_X12_102_5013 (fun T9 N9 C9 h9 => by cases (Option.some.inj (h9.symm.trans (rfl : vwCl[13]? = some (RX12, TX12, 91)))); rfl) (hini rfl) (qb236 _ _ (qb225 _ _ hk217)) (Or.inr (by decide)) (xokr 13 52 (by decide)) rfl rfl dX12_init_354 (fun g246 hg246 => ?_)
  refine X_aloadn hK (i := 0) 0 dX12_init_357 rfl rfl ?_
  refine X_sipush hK dX12_init_358 (by decide) ?_
  refine X_newa hK (ty := .int) 16900 0 (.int 0) rfl (fun _ => rfl) rfl (by decide) m_3_14 (by omega) ⟨by show _ * 4 ≤ _; omega, by omega⟩ (by omega) (by omega) (fun _ _ h9 => h9) (fun S9 k9 => by rw [sl_16900]; exact ⟨0, rfl, by decide, by decide⟩) dX12_init_361 (fun b247 S248 g249 zb247 nb247 hSb247 hg249 qb247 hs_b247 => ?_)
  have hk250 := (qb247 _ _ (qb236 _ _ (qb225 _ _ (qb214 _ _ hk207))))
  have hk251 := (qb247 _ _ (qb236 _ _ (qb225 _ _ (qb214 _ _ hk208))))
  have hk252 := (qb247 _ _ (qb236 _ _ (qb225 _ _ (qb214 _ _ hk209))))
  have hk253 := (qb247 _ _ (qb236 _ _ (qb225 _ _ (qb214 _ _ hk210))))
  have hk254 := (qb247 _ _ (qb236 _ _ (qb225 _ _ (qb214 _ _ hk211))))
  have hk255 := (qb247 _ _ (qb236 _ _ (qb225 _ _ (qb214 _ _ hk212))))
  have hk256 := (qb247 _ _ (qb236 _ _ (qb225 _ _ (qb214 _ _ hs_b204))))
  refine X_putF hK fl_X12_105_5013 (fun T9 N9 C9 h9 => by cases (Option.some.inj (h9.symm.trans (rfl : vwCl[13]? = some (RX12, TX12, 91)))); rfl) (hini rfl) (qb247 _ _ (qb236 _ _ (qb225 _ _ hk217))) (Or.inr (by decide)) (xokr 13 53 (by decide)) rfl rfl dX12_init_363 (fun g257 hg257 => ?_)
  refine X_aloadn hK (i := 0) 0 dX12_init_366 rfl rfl ?_
  refine X_sipush hK dX12_init_367 (by decide) ?_
  refine X_newa hK (ty := .int) 17000 0 (.int 0) rfl (fun _ => rfl) rfl (by decide) m_3_14 (by omega) ⟨by show _ * 4 ≤ _; omega, by omega⟩ (by omega) (by omega) (fun _ _ h9 => h9) (fun S9 k9 => by rw [sl_17000]; exact ⟨0, rfl, by decide, by decide⟩) dX12_init_370 (fun b258 S259 g260 zb258 nb258 hSb258 hg260 qb258 hs_b258 => ?_)
  have hk261 := (qb258 _ _ (qb247 _ _ (qb236 _ _ (qb225 _ _ hk217))))
  have hk262 := (qb258 _ _ (qb247 _ _ (qb236 _ _ (qb225 _ _ hk218))))
  have hk263 := (qb258 _ _ (qb247 _ _ (qb236 _ _ (qb225 _ _ hk219))))
  have hk264 := (qb258 _ _ (qb247 _ _ (qb236 _ _ (qb225 _ _ hk220))))
  have hk265 := (qb258 _ _ (qb247 _ _ (qb236 _ _ (qb225 _ _ hk221))))
  have hk266 := (qb258 _ _ (qb247 _ _ (qb236 _ _ (qb225 _ _ hk222))))
  have hk267 := (qb258 _ _ (qb247 _ _ (qb236 _ _ (qb225 _ _ hk223))))
  have hk268 := (qb258 _ _ (qb247 _ _ (qb236 _ _ (qb225 _ _ hs_b214))))
  refine X_putF hK fl_X12_108_5013 (fun T9 N9 C9 h9 => by cases (Option.some.inj (h9.symm.trans (rfl : vwCl[13]? = some (RX12, TX12, 91)))); rfl) (hini rfl) hk261 (Or.inr (by decide)) (xokr 13 54 (by decide)) rfl rfl dX12_init_372 (fun g269 hg269 => ?_)
  refine X_aloadn hK (i := 0) 0 dX12_init_375 rfl rfl ?_
  refine X_sipush hK dX12_init_376 (by decide) ?_
  refine X_newa hK (ty := .int) 17100 0 (.int 0) rfl (fun _ => rfl) rfl (by decide) m_3_14 (by omega) ⟨by show _ * 4 ≤ _; omega, by omega⟩ (by omega) (by omega) (fun _ _ h9 => h9) (fun S9 k9 => by rw [sl_17100]; exact ⟨0, rfl, by decide, by decide⟩) dX12_init_379 (fun b270 S271 g272 zb270 nb270 hSb270 hg272 qb270 hs_b270 => ?_)
  have hk273 := (qb270 _ _ (qb258 _ _ (qb247 _ _ (qb236 _ _ hk228))))
  have hk274 := (qb270 _ _ (qb258 _ _ (qb247 _ _ (qb236 _ _ hk229))))
  have hk275 := (qb270 _ _ (qb258 _ _ (qb247 _ _ (qb236 _ _ hk230))))
  have hk276 := (qb270 _ _ (qb258 _ _ (qb247 _ _ (qb236 _ _ hk231))))
  have hk277 := (qb270 _ _ (qb258 _ _ (qb247 _ _ (qb236 _ _ hk232))))
  have hk278 := (qb270 _ _ (qb258 _ _ (qb247 _ _ (qb236 _ _ hk233))))
  have hk279 := (qb270 _ _ (qb258 _ _ (qb247 _ _ (qb236 _ _ hk234))))
  have hk280 := (qb270 _ _ (qb258 _ _ (qb247 _ _ (qb236 _ _ hs_b225))))
  refine X_putF hK fl_X12_111_5013 (fun T9 N9 C9 h9 => by cases (Option.some.inj (h9.symm.trans (rfl : vwCl[13]? = some (RX12, TX12, 91)))); rfl) (hini rfl) (qb270 _ _ hk261) (Or.inr (by decide)) (xokr 13 55 (by decide)) rfl rfl dX12_init_381 (fun g281 hg281 => ?_)
  refine X_aloadn hK (i := 0) 0 dX12_init_384 rfl rfl ?_
  refine X_sipush hK dX12_init_385 (by decide) ?_
  refine X_newa hK (ty := .int) 17200 0 (.int 0) rfl (fun _ => rfl) rfl (by decide) m_3_14 (by omega) ⟨by show _ * 4 ≤ _; omega, by omega⟩ (by omega) (by omega) (fun _ _ h9 => h9) (fun S9 k9 => by rw [sl_17200]; exact ⟨0, rfl, by decide, by decide⟩) dX12_init_388 (fun b282 S283 g284 zb282 nb282 hSb282 hg284 qb282 hs_b282 => ?_)
  have hk285 := (qb282 _ _ (qb270 _ _ (qb258 _ _ (qb247 _ _ hk239))))
  have hk286 := (qb282 _ _ (qb270 _ _ (qb258 _ _ (qb247 _ _ hk240))))
  have hk287 := (qb282 _ _ (qb270 _ _ (qb258 _ _ (qb247 _ _ hk241))))
  have hk288 := (qb282 _ _ (qb270 _ _ (qb258 _ _ (qb247 _ _ hk242))))
  have hk289 := (qb282 _ _ (qb270 _ _ (qb258 _ _ (qb247 _ _ hk243))))
  have hk290 := (qb282 _ _ (qb270 _ _ (qb258 _ _ (qb247 _ _ hk244))))
  have hk291 := (qb282 _ _ (qb270 _ _ (qb258 _ _ (qb247 _ _ hk245))))
  have hk292 := (qb282 _ _ (qb270 _ _ (qb258 _ _ (qb247 _ _ hs_b236))))
  refine X_putF hK fl_X12_114_5013 (fun T9 N9 C9 h9 => by cases (Option.some.inj (h9.symm.trans (rfl : vwCl[13]? = some (RX12, TX12, 91)))); rfl) (hini rfl) (qb282 _ _ (qb270 _ _ hk261)) (Or.inr (by decide)) (xokr 13 56 (by decide)) rfl rfl dX12_init_390 (fun g293 hg293 => ?_)
  refine X_aloadn hK (i := 0) 0 dX12_init_393 rfl rfl ?_
  refine X_sipush hK dX12_init_394 (by decide) ?_
  refine X_newa hK (ty := .int) 17300 0 (.int 0) rfl (fun _ => rfl) rfl (by decide) m_3_14 (by omega) ⟨by show _ * 4 ≤ _; omega, by omega⟩ (by omega) (by omega) (fun _ _ h9 => h9) (fun S9 k9 => by rw [sl_17300]; exact ⟨0, rfl, by decide, by decide⟩) dX12_init_397 (fun b294 S295 g296 zb294 nb294 hSb294 hg296 qb294 hs_b294 => ?_)
  have hk297 := (qb294 _ _ (qb282 _ _ (qb270 _ _ (qb258 _ _ hk250))))
  have hk298 := (qb294 _ _ (qb282 _ _ (qb270 _ _ (qb258 _ _ hk251))))
  have hk299 := (qb294 _ _ (qb282 _ _ (qb270 _ _ (qb258 _ _ hk252))))
  have hk300 := (qb294 _ _ (qb282 _ _ (qb270 _ _ (qb258 _ _ hk253))))
  have hk301 := (qb294 _ _ (qb282 _ _ (qb270 _ _ (qb258 _ _ hk254))))
  have hk302 := (qb294 _ _ (qb282 _ _ (qb270 _ _ (qb258 _ _ hk255))))
  have hk303 := (qb294 _ _ (qb282 _ _ (qb270 _ _ (qb258 _ _ hk256))))
  have hk304 := (qb294 _ _ (qb282 _ _ (qb270 _ _ (qb258 _ _ hs_b247))))
  refine X_putF hK fl_X12_117_5013 (fun T9 N9 C9 h9 => by cases (Option.some.inj (h9.symm.trans (rfl : vwCl[13]? = some (RX12, TX12, 91)))); rfl) (hini rfl) (qb294 _ _ (qb282 _ _ (qb270 _ _ hk261))) (Or.inr (by decide)) (xokr 13 57 (by decide)) rfl rfl dX12_init_399 (fun g305 hg305 => ?_)
  refine X_aloadn hK (i := 0) 0 dX12_init_402 rfl rfl ?_
  refine X_iconst hK dX12_init_403 ?_
  refine X_putv hK fl_X12_120_5013 (qb294 _ _ (qb282 _ _ (qb270 _ _ hk261))) (by decide) (xokr 13 59 (by decide)) rfl rfl dX12_init_404 (fun g306 hg306 => ?_)
  refine X_aloadn hK (i := 0) 0 dX12_init_407 rfl rfl ?_
  refine X_sipush hK dX12_init_408 (by decide) ?_
  refine X_newa hK (ty := .int) 17400 0 (.int 0) rfl (fun _ => rfl) rfl (by decide) m_3_14 (by omega) ⟨by show _ * 4 ≤ _; omega, by omega⟩ (by omega) (by omega) (fun _ _ h9 => h9) (fun S9 k9 => by rw [sl_17400]; exact ⟨0, rfl, by decide, by decide⟩) dX12_init_411 (fun b307 S308 g309 zb307 nb307 hSb307 hg309 qb307 hs_b307 => ?_)
  have hk310 := (qb307 _ _ (qb294 _ _ (qb282 _ _ (qb270 _ _ hk261))))
  have hk311 := (qb307 _ _ (qb294 _ _ (qb282 _ _ (qb270 _ _ hk262))))
  have hk312 := (qb307 _ _ (qb294 _ _ (qb282 _ _ (qb270 _ _ hk263))))
  have hk313 := (qb307 _ _ (qb294 _ _ (qb282 _ _ (qb270 _ _ hk264))))
  have hk314 := (qb307 _ _ (qb294 _ _ (qb282 _ _ (qb270 _ _ hk265))))
  have hk315 := (qb307 _ _ (qb294 _ _ (qb282 _ _ (qb270 _ _ hk266))))
  have hk316 := (qb307 _ _ (qb294 _ _ (qb282 _ _ (qb270 _ _ hk267))))
  have hk317 := (qb307 _ _ (qb294 _ _ (qb282 _ _ (qb270 _ _ hk268))))
  have hk318 := (qb307 _ _ (qb294 _ _ (qb282 _ _ (qb270 _ _ hs_b258))))
  refine X_putF hK fl_X12_123_5013 (fun T9 N9 C9 h9 => by cases (Option.some.inj (h9.symm.trans (rfl : vwCl[13]? = some (RX12, TX12, 91)))); rfl) (hini rfl) hk310 (Or.inr (by decide)) (xokr 13 60 (by decide)) rfl rfl dX12_init_413 (fun g319 hg319 => ?_)
  refine X_aloadn hK (i := 0) 0 dX12_init_416 rfl rfl ?_
  refine X_sipush hK dX12_init_417 (by decide) ?_
  refine X_newa hK (ty := .int) 17500 0 (.int 0) rfl (fun _ => rfl) rfl (by decide) m_3_14 (by omega) ⟨by show _ * 4 ≤ _; omega, by omega⟩ (by omega) (by omega) (fun _ _ h9 => h9) (fun S9 k9 => by rw [sl_17500]; exact ⟨0, rfl, by decide, by decide⟩) dX12_init_420 (fun b320 S321 g322 zb320 nb320 hSb320 hg322 qb320 hs_b320 => ?_)
  have hk323 := (qb320 _ _ (qb307 _ _ (qb294 _ _ (qb282 _ _ hk273))))
  have hk324 := (qb320 _ _ (qb307 _ _ (qb294 _ _ (qb282 _ _ hk274))))
  have hk325 := (qb320 _ _ (qb307 _ _ (qb294 _ _ (qb282 _ _ hk275))))
  have hk326 := (qb320 _ _ (qb307 _ _ (qb294 _ _ (qb282 _ _ hk276))))
  have hk327 := (qb320 _ _ (qb307 _ _ (qb294 _ _ (qb282 _ _ hk277))))
  have hk328 := (qb320 _ _ (qb307 _ _ (qb294 _ _ (qb282 _ _ hk278))))
  have hk329 := (qb320 _ _ (qb307 _ _ (qb294 _ _ (qb282 _ _ hk279))))
  have hk330 := (qb320 _ _ (qb307 _ _ (qb294 _ _ (qb282 _ _ hk280))))
  have hk331 := (qb320 _ _ (qb307 _ _ (qb294 _ _ (qb282 _ _ hs_b270))))
  refine X_putF hK fl_X12_126_5013 (fun T9 N9 C9 h9 => by cases (Option.some.inj (h9.symm.trans (rfl : vwCl[13]? = some (RX12, TX12, 91)))); rfl) (hini rfl) (qb320 _ _ hk310) (Or.inr (by decide)) (xokr 13 61 (by decide)) rfl rfl dX12_init_422 (fun g332 hg332 => ?_)
  refine X_aloadn hK (i := 0) 0 dX12_init_425 rfl rfl ?_
  refine X_sipush hK dX12_init_426 (by decide) ?_
  refine X_newa hK (ty := .boolean) 19501 1 (.int 0) rfl (fun _ => rfl) rfl (by decide) m_7_18 (by omega) ⟨by show _ * 1 ≤ _; omega, by omega⟩ (by omega) (by omega) (fun _ _ h9 => h9) (fun S9 k9 => by rw [sl_19501]; exact ⟨0, rfl, by decide, by decide⟩) dX12_init_429 (fun b333 S334 g335 zb333 nb333 hSb333 hg335 qb333 hs_b333 => ?_)
  have hk336 := (qb333 _ _ (qb320 _ _ (qb307 _ _ (qb294 _ _ hk285))))
  have hk337 := (qb333 _ _ (qb320 _ _ (qb307 _ _ (qb294 _ _ hk286))))
  have hk338 := (qb333 _ _ (qb320 _ _ (qb307 _ _ (qb294 _ _ hk287))))
  have hk339 := (qb333 _ _ (qb320 _ _ (qb307 _ _ (qb294 _ _ hk288))))
  have hk340 := (qb333 _ _ (qb320 _ _ (qb307 _ _ (qb294 _ _ hk289))))
  have hk341 := (qb333 _ _ (qb320 _ _ (qb307 _ _ (qb294 _ _ hk290))))
  have hk342 := (qb333 _ _ (qb320 _ _ (qb307 _ _ (qb294 _ _ hk291))))
  have hk343 := (qb333 _ _ (qb320 _ _ (qb307 _ _ (qb294 _ _ hk292))))
  have hk344 := (qb333 _ _ (qb320 _ _ (qb307 _ _ (qb294 _ _ hs_b282))))
  refine X_putF hK fl_X12_129_5013 (fun T9 N9 C9 h9 => by cases (Option.some.inj (h9.symm.trans (rfl : vwCl[13]? = some (RX12, TX12, 91)))); rfl) (hini rfl) (qb333 _ _ (qb320 _ _ hk310)) (Or.inr (by decide)) (xokr 13 62 (by decide)) rfl rfl dX12_init_431 (fun g345 hg345 => ?_)
  refine X_aloadn hK (i := 0) 0 dX12_init_434 rfl rfl ?_
  refine X_sipush hK dX12_init_435 (by decide) ?_
  refine X_newa hK (ty := .boolean) 19601 1 (.int 0) rfl (fun _ => rfl) rfl (by decide) m_7_18 (by omega) ⟨by show _ * 1 ≤ _; omega, by omega⟩ (by omega) (by omega) (fun _ _ h9 => h9) (fun S9 k9 => by rw [sl_19601]; exact ⟨0, rfl, by decide, by decide⟩) dX12_init_438 (fun b346 S347 g348 zb346 nb346 hSb346 hg348 qb346 hs_b346 => ?_)
  have hk349 := (qb346 _ _ (qb333 _ _ (qb320 _ _ (qb307 _ _ hk297))))
  have hk350 := (qb346 _ _ (qb333 _ _ (qb320 _ _ (qb307 _ _ hk298))))
  have hk351 := (qb346 _ _ (qb333 _ _ (qb320 _ _ (qb307 _ _ hk299))))
  have hk352 := (qb346 _ _ (qb333 _ _ (qb320 _ _ (qb307 _ _ hk300))))
  have hk353 := (qb346 _ _ (qb333 _ _ (qb320 _ _ (qb307 _ _ hk301))))
  have hk354 := (qb346 _ _ (qb333 _ _ (qb320 _ _ (qb307 _ _ hk302))))
  have hk355 := (qb346 _ _ (qb333 _ _ (qb320 _ _ (qb307 _ _ hk303))))
  have hk356 := (qb346 _ _ (qb333 _ _ (qb320 _ _ (qb307 _ _ hk304))))
  have hk357 := (qb346 _ _ (qb333 _ _ (qb320 _ _ (qb307 _ _ hs_b294))))
  refine X_putF hK fl_X12_132_5013 (fun T9 N9 C9 h9 => by cases (Option.some.inj (h9.symm.trans (rfl : vwCl[13]? = some (RX12, TX12, 91)))); rfl) (hini rfl) (qb346 _ _ (qb333 _ _ (qb320 _ _ hk310))) (Or.inr (by decide)) (xokr 13 63 (by decide)) rfl rfl dX12_init_440 (fun g358 hg358 => ?_)
  refine X_aloadn hK (i := 0) 0 dX12_init_443 rfl rfl ?_
  refine X_bipush hK dX12_init_444 (by decide) ?_
  refine X_newa hK (ty := .int) 17600 0 (.int 0) rfl (fun _ => rfl) rfl (by decide) m_3_14 (by omega) ⟨by show _ * 4 ≤ _; omega, by omega⟩ (by omega) (by omega) (fun _ _ h9 => h9) (fun S9 k9 => by rw [sl_17600]; exact ⟨0, rfl, by decide, by decide⟩) dX12_init_446 (fun b359 S360 g361 zb359 nb359 hSb359 hg361 qb359 hs_b359 => ?_)
  have hk362 := (qb359 _ _ (qb346 _ _ (qb333 _ _ (qb320 _ _ hk310))))
  have hk363 := (qb359 _ _ (qb346 _ _ (qb333 _ _ (qb320 _ _ hk311))))
  have hk364 := (qb359 _ _ (qb346 _ _ (qb333 _ _ (qb320 _ _ hk312))))
  have hk365 := (qb359 _ _ (qb346 _ _ (qb333 _ _ (qb320 _ _ hk313))))
  have hk366 := (qb359 _ _ (qb346 _ _ (qb333 _ _ (qb320 _ _ hk314))))
  have hk367 := (qb359 _ _ (qb346 _ _ (qb333 _ _ (qb320 _ _ hk315))))
  have hk368 := (qb359 _ _ (qb346 _ _ (qb333 _ _ (qb320 _ _ hk316))))
  have hk369 := (qb359 _ _ (qb346 _ _ (qb333 _ _ (qb320 _ _ hk317))))
  have hk370 := (qb359 _ _ (qb346 _ _ (qb333 _ _ (qb320 _ _ hk318))))
  have hk371 := (qb359 _ _ (qb346 _ _ (qb333 _ _ (qb320 _ _ hs_b307))))
  refine X_putF hK fl_X12_135_5013 (fun T9 N9 C9 h9 => by cases (Option.some.inj (h9.symm.trans (rfl : vwCl[13]? = some (RX12, TX12, 91)))); rfl) (hini rfl) hk362 (Or.inr (by decide)) (xokr 13 64 (by decide)) rfl rfl dX12_init_448 (fun g372 hg372 => ?_)
  refine X_aloadn hK (i := 0) 0 dX12_init_451 rfl rfl ?_
  refine X_bipush hK dX12_init_452 (by decide) ?_
  refine X_newa hK (ty := .int) 17700 0 (.int 0) rfl (fun _ => rfl) rfl (by decide) m_3_14 (by omega) ⟨by show _ * 4 ≤ _; omega, by omega⟩ (by omega) (by omega) (fun _ _ h9 => h9) (fun S9 k9 => by rw [sl_17700]; exact ⟨0, rfl, by decide, by decide⟩) dX12_init_454 (fun b373 S374 g375 zb373 nb373 hSb373 hg375 qb373 hs_b373 => ?_)
  have hk376 := (qb373 _ _ (qb359 _ _ (qb346 _ _ (qb333 _ _ hk323))))
  have hk377 := (qb373 _ _ (qb359 _ _ (qb346 _ _ (qb333 _ _ hk324))))
  have hk378 := (qb373 _ _ (qb359 _ _ (qb346 _ _ (qb333 _ _ hk325))))
  have hk379 := (qb373 _ _ (qb359 _ _ (qb346 _ _ (qb333 _ _ hk326))))
  have hk380 := (qb373 _ _ (qb359 _ _ (qb346 _ _ (qb333 _ _ hk327))))
  have hk381 := (qb373 _ _ (qb359 _ _ (qb346 _ _ (qb333 _ _ hk328))))
  have hk382 := (qb373 _ _ (qb359 _ _ (qb346 _ _ (qb333 _ _ hk329))))
  have hk383 := (qb373 _ _ (qb359 _ _ (qb346 _ _ (qb333 _ _ hk330))))
  have hk384 := (qb373 _ _ (qb359 _ _ (qb346 _ _ (qb333 _ _ hk331))))
  have hk385 := (qb373 _ _ (qb359 _ _ (qb346 _ _ (qb333 _ _ hs_b320))))
  refine X_putF hK fl_X12_138_5013 (fun T9 N9 C9 h9 => by cases (Option.some.inj (h9.symm.trans (rfl : vwCl[13]? = some (RX12, TX12, 91)))); rfl) (hini rfl) (qb373 _ _ hk362) (Or.inr (by decide)) (xokr 13 65 (by decide)) rfl rfl dX12_init_456 (fun g386 hg386 => ?_)
  refine X_aloadn hK (i := 0) 0 dX12_init_459 rfl rfl ?_
  refine X_bipush hK dX12_init_460 (by decide) ?_
  refine X_newa hK (ty := .int) 17800 0 (.int 0) rfl (fun _ => rfl) rfl (by decide) m_3_14 (by omega) ⟨by show _ * 4 ≤ _; omega, by omega⟩ (by omega) (by omega) (fun _ _ h9 => h9) (fun S9 k9 => by rw [sl_17800]; exact ⟨0, rfl, by decide, by decide⟩) dX12_init_462 (fun b387 S388 g389 zb387 nb387 hSb387 hg389 qb387 hs_b387 => ?_)
  have hk390 := (qb387 _ _ (qb373 _ _ (qb359 _ _ (qb346 _ _ hk336))))
  have hk391 := (qb387 _ _ (qb373 _ _ (qb359 _ _ (qb346 _ _ hk337))))
  have hk392 := (qb387 _ _ (qb373 _ _ (qb359 _ _ (qb346 _ _ hk338))))
  have hk393 := (qb387 _ _ (qb373 _ _ (qb359 _ _ (qb346 _ _ hk339))))
  have hk394 := (qb387 _ _ (qb373 _ _ (qb359 _ _ (qb346 _ _ hk340))))
  have hk395 := (qb387 _ _ (qb373 _ _ (qb359 _ _ (qb346 _ _ hk341))))
  have hk396 := (qb387 _ _ (qb373 _ _ (qb359 _ _ (qb346 _ _ hk342))))
  have hk397 := (qb387 _ _ (qb373 _ _ (qb359 _ _ (qb346 _ _ hk343))))
  have hk398 := (qb387 _ _ (qb373 _ _ (qb359 _ _ (qb346 _ _ hk344))))
  have hk399 := (qb387 _ _ (qb373 _ _ (qb359 _ _ (qb346 _ _ hs_b333))))
  refine X_putF hK fl_X12_141_5013 (fun T9 N9 C9 h9 => by cases (Option.some.inj (h9.symm.trans (rfl : vwCl[13]? = some (RX12, TX12, 91)))); rfl) (hini rfl) (qb387 _ _ (qb373 _ _ hk362)) (Or.inr (by decide)) (xokr 13 66 (by decide)) rfl rfl dX12_init_464 (fun g400 hg400 => ?_)
  refine X_aloadn hK (i := 0) 0 dX12_init_467 rfl rfl ?_
  refine X_bipush hK dX12_init_468 (by decide) ?_
  refine X_newa hK (ty := .int) 17900 0 (.int 0) rfl (fun _ => rfl) rfl (by decide) m_3_14 (by omega) ⟨by show _ * 4 ≤ _; omega, by omega⟩ (by omega) (by omega) (fun _ _ h9 => h9) (fun S9 k9 => by rw [sl_17900]; exact ⟨0, rfl, by decide, by decide⟩) dX12_init_470 (fun b401 S402 g403 zb401 nb401 hSb401 hg403 qb401 hs_b401 => ?_)
  have hk404 := (qb401 _ _ (qb387 _ _ (qb373 _ _ (qb359 _ _ hk349))))
  have hk405 := (qb401 _ _ (qb387 _ _ (qb373 _ _ (qb359 _ _ hk350))))
  have hk406 := (qb401 _ _ (qb387 _ _ (qb373 _ _ (qb359 _ _ hk351))))
  have hk407 := (qb401 _ _ (qb387 _ _ (qb373 _ _ (qb359 _ _ hk352))))
  have hk408 := (qb401 _ _ (qb387 _ _ (qb373 _ _ (qb359 _ _ hk353))))
  have hk409 := (qb401 _ _ (qb387 _ _ (qb373 _ _ (qb359 _ _ hk354))))
  have hk410 := (qb401 _ _ (qb387 _ _ (qb373 _ _ (qb359 _ _ hk355))))
  have hk411 := (qb401 _ _ (qb387 _ _ (qb373 _ _ (qb359 _ _ hk356))))
  have hk412 := (qb401 _ _ (qb387 _ _ (qb373 _ _ (qb359 _ _ hk357))))
  have hk413 := (qb401 _ _ (qb387 _ _ (qb373 _ _ (qb359 _ _ hs_b346))))
  refine X_putF hK fl_X12_144_5013 (fun T9 N9 C9 h9 => by cases (Option.some.inj (h9.symm.trans (rfl : vwCl[13]? = some (RX12, TX12, 91)))); rfl) (hini rfl) (qb401 _ _ (qb387 _ _ (qb373 _ _ hk362))) (Or.inr (by decide)) (xokr 13 67 (by decide)) rfl rfl dX12_init_472 (fun g414 hg414 => ?_)
  refine X_aloadn hK (i := 0) 0 dX12_init_475 rfl rfl ?_
  refine X_bipush hK dX12_init_476 (by decide) ?_
  refine X_newa hK (ty := .int) 18000 0 (.int 0) rfl (fun _ => rfl) rfl (by decide) m_3_14 (by omega) ⟨by show _ * 4 ≤ _; omega, by omega⟩ (by omega) (by omega) (fun _ _ h9 => h9) (fun S9 k9 => by rw [sl_18000]; exact ⟨0, rfl, by decide, by decide⟩) dX12_init_478 (fun b415 S416 g417 zb415 nb415 hSb415 hg417 qb415 hs_b415 => ?_)
  have hk418 := (qb415 _ _ (qb401 _ _ (qb387 _ _ (qb373 _ _ hk362))))
  have hk419 := (qb415 _ _ (qb401 _ _ (qb387 _ _ (qb373 _ _ hk363))))
  have hk420 := (qb415 _ _ (qb401 _ _ (qb387 _ _ (qb373 _ _ hk364))))
  have hk421 := (qb415 _ _ (qb401 _ _ (qb387 _ _ (qb373 _ _ hk365))))
  have hk422 := (qb415 _ _ (qb401 _ _ (qb387 _ _ (qb373 _ _ hk366))))
  have hk423 := (qb415 _ _ (qb401 _ _ (qb387 _ _ (qb373 _ _ hk367))))
  have hk424 := (qb415 _ _ (qb401 _ _ (qb387 _ _ (qb373 _ _ hk368))))
  have hk425 := (qb415 _ _ (qb401 _ _ (qb387 _ _ (qb373 _ _ hk369))))
  have hk426 := (qb415 _ _ (qb401 _ _ (qb387 _ _ (qb373 _ _ hk370))))
  have hk427 := (qb415 _ _ (qb401 _ _ (qb387 _ _ (qb373 _ _ hk371))))
  have hk428 := (qb415 _ _ (qb401 _ _ (qb387 _ _ (qb373 _ _ hs_b359))))
  refine X_putF hK fl_X12_147_5013 (fun T9 N9 C9 h9 => by cases (Option.some.inj (h9.symm.trans (rfl : vwCl[13]? = some (RX12, TX12, 91)))); rfl) (hini rfl) hk418 (Or.inr (by decide)) (xokr 13 68 (by decide)) rfl rfl dX12_init_480 (fun g429 hg429 => ?_)
  refine X_aloadn hK (i := 0) 0 dX12_init_483 rfl rfl ?_
  refine X_iconst hK dX12_init_484 ?_
  refine X_putv hK fl_X12_150_5013 hk418 (by decide) (xokr 13 71 (by decide)) rfl rfl dX12_init_485 (fun g430 hg430 => ?_)
  refine X_aloadn hK (i := 0) 0 dX12_init_488 rfl rfl ?_
  refine X_bipush hK dX12_init_489 (by decide) ?_
  refine X_newa hK (ty := .int) 18100 0 (.int 0) rfl (fun _ => rfl) rfl (by decide) m_3_14 (by omega) ⟨by show _ * 4 ≤ _; omega, by omega⟩ (by omega) (by omega) (fun _ _ h9 => h9) (fun S9 k9 => by rw [sl_18100]; exact ⟨0, rfl, by decide, by decide⟩) dX12_init_491 (fun b431 S432 g433 zb431 nb431 hSb431 hg433 qb431 hs_b431 => ?_)
  have hk434 := (qb431 _ _ (qb415 _ _ (qb401 _ _ (qb387 _ _ hk376))))
  have hk435 := (qb431 _ _ (qb415 _ _ (qb401 _ _ (qb387 _ _ hk377))))
  have hk436 := (qb431 _ _ (qb415 _ _ (qb401 _ _ (qb387 _ _ hk378))))
  have hk437 := (qb431 _ _ (qb415 _ _ (qb401 _ _ (qb387 _ _ hk379))))
  have hk438 := (qb431 _ _ (qb415 _ _ (qb401 _ _ (qb387 _ _ hk380))))
  have hk439 := (qb431 _ _ (qb415 _ _ (qb401 _ _ (qb387 _ _ hk381))))
  have hk440 := (qb431 _ _ (qb415 _ _ (qb401 _ _ (qb387 _ _ hk382))))
  have hk441 := (qb431 _ _ (qb415 _ _ (qb401 _ _ (qb387 _ _ hk383))))
  have hk442 := (qb431 _ _ (qb415 _ _ (qb401 _ _ (qb387 _ _ hk384))))
  have hk443 := (qb431 _ _ (qb415 _ _ (qb401 _ _ (qb387 _ _ hk385))))
  have hk444 := (qb431 _ _ (qb415 _ _ (qb401 _ _ (qb387 _ _ hs_b373))))
  refine X_putF hK fl_X12_153_5013 (fun T9 N9 C9 h9 => by cases (Option.some.inj (h9.symm.trans (rfl : vwCl[13]? = some (RX12, TX12, 91)))); rfl) (hini rfl) (qb431 _ _ hk418) (Or.inr (by decide)) (xokr 13 72 (by decide)) rfl rfl dX12_init_493 (fun g445 hg445 => ?_)
  refine X_aloadn hK (i := 0) 0 dX12_init_496 rfl rfl ?_
  refine X_bipush hK dX12_init_497 (by decide) ?_
  refine X_newa hK (ty := .int) 18200 0 (.int 0) rfl (fun _ => rfl) rfl (by decide) m_3_14 (by omega) ⟨by show _ * 4 ≤ _; omega, by omega⟩ (by omega) (by omega) (fun _ _ h9 => h9) (fun S9 k9 => by rw [sl_18200]; exact ⟨0, rfl, by decide, by decide⟩) dX12_init_499 (fun b446 S447 g448 zb446 nb446 hSb446 hg448 qb446 hs_b446 => ?_)
  have hk449 := (qb446 _ _ (qb431 _ _ (qb415 _ _ (qb401 _ _ hk390))))
  have hk450 := (qb446 _ _ (qb431 _ _ (qb415 _ _ (qb401 _ _ hk391))))
  have hk451 := (qb446 _ _ (qb431 _ _ (qb415 _ _ (qb401 _ _ hk392))))
  have hk452 := (qb446 _ _ (qb431 _ _ (qb415 _ _ (qb401 _ _ hk393))))
  have hk453 := (qb446 _ _ (qb431 _ _ (qb415 _ _ (qb401 _ _ hk394))))
  have hk454 := (qb446 _ _ (qb431 _ _ (qb415 _ _ (qb401 _ _ hk395))))
  have hk455 := (qb446 _ _ (qb431 _ _ (qb415 _ _ (qb401 _ _ hk396))))
  have hk456 := (qb446 _ _ (qb431 _ _ (qb415 _ _ (qb401 _ _ hk397))))
  have hk457 := (qb446 _ _ (qb431 _ _ (qb415 _ _ (qb401 _ _ hk398))))
  have hk458 := (qb446 _ _ (qb431 _ _ (qb415 _ _ (qb401 _ _ hk399))))
  have hk459 := (qb446 _ _ (qb431 _ _ (qb415 _ _ (qb401 _ _ hs_b387))))
  refine X_putF hK fl_X12_156_5013 (fun T9 N9 C9 h9 => by cases (Option.some.inj (h9.symm.trans (rfl : vwCl[13]? = some (RX12, TX12, 91)))); rfl) (hini rfl) (qb446 _ _ (qb431 _ _ hk418)) (Or.inr (by decide)) (xokr 13 73 (by decide)) rfl rfl dX12_init_501 (fun g460 hg460 => ?_)
  refine X_aloadn hK (i := 0) 0 dX12_init_504 rfl rfl ?_
  refine X_bipush hK dX12_init_505 (by decide) ?_
  refine X_newa hK (ty := .int) 18300 0 (.int 0) rfl (fun _ => rfl) rfl (by decide) m_3_14 (by omega) ⟨by show _ * 4 ≤ _; omega, by omega⟩ (by omega) (by omega) (fun _ _ h9 => h9) (fun S9 k9 => by rw [sl_18300]; exact ⟨0, rfl, by decide, by decide⟩) dX12_init_507 (fun b461 S462 g463 zb461 nb461 hSb461 hg463 qb461 hs_b461 => ?_)
  have hk464 := (qb461 _ _ (qb446 _ _ (qb431 _ _ (qb415 _ _ hk404))))
  have hk465 := (qb461 _ _ (qb446 _ _ (qb431 _ _ (qb415 _ _ hk405))))
  have hk466 := (qb461 _ _ (qb446 _ _ (qb431 _ _ (qb415 _ _ hk406))))
  have hk467 := (qb461 _ _ (qb446 _ _ (qb431 _ _ (qb415 _ _ hk407))))
  have hk468 := (qb461 _ _ (qb446 _ _ (qb431 _ _ (qb415 _ _ hk408))))
  have hk469 := (qb461 _ _ (qb446 _ _ (qb431 _ _ (qb415 _ _ hk409))))
  have hk470 := (qb461 _ _ (qb446 _ _ (qb431 _ _ (qb415 _ _ hk410))))
  have hk471 := (qb461 _ _ (qb446 _ _ (qb431 _ _ (qb415 _ _ hk411))))
  have hk472 := (qb461 _ _ (qb446 _ _ (qb431 _ _ (qb415 _ _ hk412))))
  have hk473 := (qb461 _ _ (qb446 _ _ (qb431 _ _ (qb415 _ _ hk413))))
  have hk474 := (qb461 _ _ (qb446 _ _ (qb431 _ _ (qb415 _ _ hs_b401))))
  refine X_putF hK fl_X12_159_5013 (fun T9 N9 C9 h9 => by cases (Option.some.inj (h9.symm.trans (rfl : vwCl[13]? = some (RX12, TX12, 91)))); rfl) (hini rfl) (qb461 _ _ (qb446 _ _ (qb431 _ _ hk418))) (Or.inr (by decide)) (xokr 13 74 (by decide)) rfl rfl dX12_init_509 (fun g475 hg475 => ?_)
  refine X_aloadn hK (i := 0) 0 dX12_init_512 rfl rfl ?_
  refine X_bipush hK dX12_init_513 (by decide) ?_
  refine X_newa hK (ty := .int) 18400 0 (.int 0) rfl (fun _ => rfl) rfl (by decide) m_3_14 (by omega) ⟨by show _ * 4 ≤ _; omega, by omega⟩ (by omega) (by omega) (fun _ _ h9 => h9) (fun S9 k9 => by rw [sl_18400]; exact ⟨0, rfl, by decide, by decide⟩) dX12_init_515 (fun b476 S477 g478 zb476 nb476 hSb476 hg478 qb476 hs_b476 => ?_)
  have hk479 := (qb476 _ _ (qb461 _ _ (qb446 _ _ (qb431 _ _ hk418))))
  have hk480 := (qb476 _ _ (qb461 _ _ (qb446 _ _ (qb431 _ _ hk419))))
  have hk481 := (qb476 _ _ (qb461 _ _ (qb446 _ _ (qb431 _ _ hk420))))
  have hk482 := (qb476 _ _ (qb461 _ _ (qb446 _ _ (qb431 _ _ hk421))))
  have hk483 := (qb476 _ _ (qb461 _ _ (qb446 _ _ (qb431 _ _ hk422))))
  have hk484 := (qb476 _ _ (qb461 _ _ (qb446 _ _ (qb431 _ _ hk423))))
  have hk485 := (qb476 _ _ (qb461 _ _ (qb446 _ _ (qb431 _ _ hk424))))
  have hk486 := (qb476 _ _ (qb461 _ _ (qb446 _ _ (qb431 _ _ hk425))))
  have hk487 := (qb476 _ _ (qb461 _ _ (qb446 _ _ (qb431 _ _ hk426))))
  have hk488 := (qb476 _ _ (qb461 _ _ (qb446 _ _ (qb431 _ _ hk427))))
  have hk489 := (qb476 _ _ (qb461 _ _ (qb446 _ _ (qb431 _ _ hk428))))
  have hk490 := (qb476 _ _ (qb461 _ _ (qb446 _ _ (qb431 _ _ hs_b415))))
  refine X_putF hK fl_X12_162_5013 (fun T9 N9 C9 h9 => by cases (Option.some.inj (h9.symm.trans (rfl : vwCl[13]? = some (RX12, TX12, 91)))); rfl) (hini rfl) hk479 (Or.inr (by decide)) (xokr 13 75 (by decide)) rfl rfl dX12_init_517 (fun g491 hg491 => ?_)
  refine X_aloadn hK (i := 0) 0 dX12_init_520 rfl rfl ?_
  refine X_bipush hK dX12_init_521 (by decide) ?_
  refine X_newa hK (ty := .int) 18500 0 (.int 0) rfl (fun _ => rfl) rfl (by decide) m_3_14 (by omega) ⟨by show _ * 4 ≤ _; omega, by omega⟩ (by omega) (by omega) (fun _ _ h9 => h9) (fun S9 k9 => by rw [sl_18500]; exact ⟨0, rfl, by decide, by decide⟩) dX12_init_523 (fun b492 S493 g494 zb492 nb492 hSb492 hg494 qb492 hs_b492 => ?_)
  have hk495 := (qb492 _ _ (qb476 _ _ (qb461 _ _ (qb446 _ _ hk434))))
  have hk496 := (qb492 _ _ (qb476 _ _ (qb461 _ _ (qb446 _ _ hk435))))
  have hk497 := (qb492 _ _ (qb476 _ _ (qb461 _ _ (qb446 _ _ hk436))))
  have hk498 := (qb492 _ _ (qb476 _ _ (qb461 _ _ (qb446 _ _ hk437))))
  have hk499 := (qb492 _ _ (qb476 _ _ (qb461 _ _ (qb446 _ _ hk438))))
  have hk500 := (qb492 _ _ (qb476 _ _ (qb461 _ _ (qb446 _ _ hk439))))
  have hk501 := (qb492 _ _ (qb476 _ _ (qb461 _ _ (qb446 _ _ hk440))))
  have hk502 := (qb492 _ _ (qb476 _ _ (qb461 _ _ (qb446 _ _ hk441))))
  have hk503 := (qb492 _ _ (qb476 _ _ (qb461 _ _ (qb446 _ _ hk442))))
  have hk504 := (qb492 _ _ (qb476 _ _ (qb461 _ _ (qb446 _ _ hk443))))
  have hk505 := (qb492 _ _ (qb476 _ _ (qb461 _ _ (qb446 _ _ hk444))))
  have hk506 := (qb492 _ _ (qb476 _ _ (qb461 _ _ (qb446 _ _ hs_b431))))
  refine X_putF hK fl_X12_165_5013 (fun T9 N9 C9 h9 => by cases (Option.some.inj (h9.symm.trans (rfl : vwCl[13]? = some (RX12, TX12, 91)))); rfl) (hini rfl) (qb492 _ _ hk479) (Or.inr (by decide)) (xokr 13 76 (by decide)) rfl rfl dX12_init_525 (fun g507 hg507 => ?_)
  refine X_aloadn hK (i := 0) 0 dX12_init_528 rfl rfl ?_
  refine X_bipush hK dX12_init_529 (by decide) ?_
  refine X_newa hK (ty := .boolean) 19701 1 (.int 0) rfl (fun _ => rfl) rfl (by decide) m_7_18 (by omega) ⟨by show _ * 1 ≤ _; omega, by omega⟩ (by omega) (by omega) (fun _ _ h9 => h9) (fun S9 k9 => by rw [sl_19701]; exact ⟨0, rfl, by decide, by decide⟩) dX12_init_531 (fun b508 S509 g510 zb508 nb508 hSb508 hg510 qb508 hs_b508 => ?_)
  have hk511 := (qb508 _ _ (qb492 _ _ (qb476 _ _ (qb461 _ _ hk449))))
  have hk512 := (qb508 _ _ (qb492 _ _ (qb476 _ _ (qb461 _ _ hk450))))
  have hk513 := (qb508 _ _ (qb492 _ _ (qb476 _ _ (qb461 _ _ hk451))))
  have hk514 := (qb508 _ _ (qb492 _ _ (qb476 _ _ (qb461 _ _ hk452))))
  have hk515 := (qb508 _ _ (qb492 _ _ (qb476 _ _ (qb461 _ _ hk453))))
  have hk516 := (qb508 _ _ (qb492 _ _ (qb476 _ _ (qb461 _ _ hk454))))
  have hk517 := (qb508 _ _ (qb492 _ _ (qb476 _ _ (qb461 _ _ hk455))))
  have hk518 := (qb508 _ _ (qb492 _ _ (qb476 _ _ (qb461 _ _ hk456))))
  have hk519 := (qb508 _ _ (qb492 _ _ (qb476 _ _ (qb461 _ _ hk457))))
  have hk520 := (qb508 _ _ (qb492 _ _ (qb476 _ _ (qb461 _ _ hk458))))
  have hk521 := (qb508 _ _ (qb492 _ _ (qb476 _ _ (qb461 _ _ hk459))))
  have hk522 := (qb508 _ _ (qb492 _ _ (qb476 _ _ (qb461 _ _ hs_b446))))
  refine X_putF hK fl_X12_168_5013 (fun T9 N9 C9 h9 => by cases (Option.some.inj (h9.symm.trans (rfl : vwCl[13]? = some (RX12, TX12, 91)))); rfl) (hini rfl) (qb508 _ _ (qb492 _ _ hk479)) (Or.inr (by decide)) (xokr 13 77 (by decide)) rfl rfl dX12_init_533 (fun g523 hg523 => ?_)
  refine X_aloadn hK (i := 0) 0 dX12_init_536 rfl rfl ?_
  refine X_bipush hK dX12_init_537 (by decide) ?_
  refine X_newa hK (ty := .int) 18600 0 (.int 0) rfl (fun _ => rfl) rfl (by decide) m_3_14 (by omega) ⟨by show _ * 4 ≤ _; omega, by omega⟩ (by omega) (by omega) (fun _ _ h9 => h9) (fun S9 k9 => by rw [sl_18600]; exact ⟨0, rfl, by decide, by decide⟩) dX12_init_539 (fun b524 S525 g526 zb524 nb524 hSb524 hg526 qb524 hs_b524 => ?_)
  have hk527 := (qb524 _ _ (qb508 _ _ (qb492 _ _ (qb476 _ _ hk464))))
  have hk528 := (qb524 _ _ (qb508 _ _ (qb492 _ _ (qb476 _ _ hk465))))
  have hk529 := (qb524 _ _ (qb508 _ _ (qb492 _ _ (qb476 _ _ hk466))))
  have hk530 := (qb524 _ _ (qb508 _ _ (qb492 _ _ (qb476 _ _ hk467))))
  have hk531 := (qb524 _ _ (qb508 _ _ (qb492 _ _ (qb476 _ _ hk468))))
  have hk532 := (qb524 _ _ (qb508 _ _ (qb492 _ _ (qb476 _ _ hk469))))
  have hk533 := (qb524 _ _ (qb508 _ _ (qb492 _ _ (qb476 _ _ hk470))))
  have hk534 := (qb524 _ _ (qb508 _ _ (qb492 _ _ (qb476 _ _ hk471))))
  have hk535 := (qb524 _ _ (qb508 _ _ (qb492 _ _ (qb476 _ _ hk472))))
  have hk536 := (qb524 _ _ (qb508 _ _ (qb492 _ _ (qb476 _ _ hk473))))
  have hk537 := (qb524 _ _ (qb508 _ _ (qb492 _ _ (qb476 _ _ hk474))))
  have hk538 := (qb524 _ _ (qb508 _ _ (qb492 _ _ (qb476 _ _ hs_b461))))
  refine X_putF hK fl_X12_171_5013 (fun T9 N9 C9 h9 => by cases (Option.some.inj (h9.symm.trans (rfl : vwCl[13]? = some (RX12, TX12, 91)))); rfl) (hini rfl) (qb524 _ _ (qb508 _ _ (qb492 _ _ hk479))) (Or.inr (by decide)) (xokr 13 80 (by decide)) rfl rfl dX12_init_541 (fun g539 hg539 => ?_)
  refine X_aloadn hK (i := 0) 0 dX12_init_544 rfl rfl ?_
  refine X_bipush hK dX12_init_545 (by decide) ?_
  refine X_newa hK (ty := .int) 18700 0 (.int 0) rfl (fun _ => rfl) rfl (by decide) m_3_14 (by omega) ⟨by show _ * 4 ≤ _; omega, by omega⟩ (by omega) (by omega) (fun _ _ h9 => h9) (fun S9 k9 => by rw [sl_18700]; exact ⟨0, rfl, by decide, by decide⟩) dX12_init_547 (fun b540 S541 g542 zb540 nb540 hSb540 hg542 qb540 hs_b540 => ?_)
  have hk543 := (qb540 _ _ (qb524 _ _ (qb508 _ _ (qb492 _ _ hk479))))
  have hk544 := (qb540 _ _ (qb524 _ _ (qb508 _ _ (qb492 _ _ hk480))))
  have hk545 := (qb540 _ _ (qb524 _ _ (qb508 _ _ (qb492 _ _ hk481))))
  have hk546 := (qb540 _ _ (qb524 _ _ (qb508 _ _ (qb492 _ _ hk482))))
  have hk547 := (qb540 _ _ (qb524 _ _ (qb508 _ _ (qb492 _ _ hk483))))
  have hk548 := (qb540 _ _ (qb524 _ _ (qb508 _ _ (qb492 _ _ hk484))))
  have hk549 := (qb540 _ _ (qb524 _ _ (qb508 _ _ (qb492 _ _ hk485))))
  have hk550 := (qb540 _ _ (qb524 _ _ (qb508 _ _ (qb492 _ _ hk486))))
  have hk551 := (qb540 _ _ (qb524 _ _ (qb508 _ _ (qb492 _ _ hk487))))
  have hk552 := (qb540 _ _ (qb524 _ _ (qb508 _ _ (qb492 _ _ hk488))))
  have hk553 := (qb540 _ _ (qb524 _ _ (qb508 _ _ (qb492 _ _ hk489))))
  have hk554 := (qb540 _ _ (qb524 _ _ (qb508 _ _ (qb492 _ _ hk490))))
  have hk555 := (qb540 _ _ (qb524 _ _ (qb508 _ _ (qb492 _ _ hs_b476))))
  refine X_putF hK fl_X12_174_5013 (fun T9 N9 C9 h9 => by cases (Option.some.inj (h9.symm.trans (rfl : vwCl[13]? = some (RX12, TX12, 91)))); rfl) (hini rfl) hk543 (Or.inr (by decide)) (xokr 13 81 (by decide)) rfl rfl dX12_init_549 (fun g556 hg556 => ?_)
  refine X_aloadn hK (i := 0) 0 dX12_init_552 rfl rfl ?_
  refine X_bipush hK dX12_init_553 (by decide) ?_
  refine X_newa hK (ty := .int) 18800 0 (.int 0) rfl (fun _ => rfl) rfl (by decide) m_3_14 (by omega) ⟨by show _ * 4 ≤ _; omega, by omega⟩ (by omega) (by omega) (fun _ _ h9 => h9) (fun S9 k9 => by rw [sl_18800]; exact ⟨0, rfl, by decide, by decide⟩) dX12_init_555 (fun b557 S558 g559 zb557 nb557 hSb557 hg559 qb557 hs_b557 => ?_)
  have hk560 := (qb557 _ _ (qb540 _ _ (qb524 _ _ (qb508 _ _ hk495))))
  have hk561 := (qb557 _ _ (qb540 _ _ (qb524 _ _ (qb508 _ _ hk496))))
  have hk562 := (qb557 _ _ (qb540 _ _ (qb524 _ _ (qb508 _ _ hk497))))
  have hk563 := (qb557 _ _ (qb540 _ _ (qb524 _ _ (qb508 _ _ hk498))))
  have hk564 := (qb557 _ _ (qb540 _ _ (qb524 _ _ (qb508 _ _ hk499))))
  have hk565 := (qb557 _ _ (qb540 _ _ (qb524 _ _ (qb508 _ _ hk500))))
  have hk566 := (qb557 _ _ (qb540 _ _ (qb524 _ _ (qb508 _ _ hk501))))
  have hk567 := (qb557 _ _ (qb540 _ _ (qb524 _ _ (qb508 _ _ hk502))))
  have hk568 := (qb557 _ _ (qb540 _ _ (qb524 _ _ (qb508 _ _ hk503))))
  have hk569 := (qb557 _ _ (qb540 _ _ (qb524 _ _ (qb508 _ _ hk504))))
  have hk570 := (qb557 _ _ (qb540 _ _ (qb524 _ _ (qb508 _ _ hk505))))
  have hk571 := (qb557 _ _ (qb540 _ _ (qb524 _ _ (qb508 _ _ hk506))))
  have hk572 := (qb557 _ _ (qb540 _ _ (qb524 _ _ (qb508 _ _ hs_b492))))
  refine X_putF hK fl_X12_177_5013 (fun T9 N9 C9 h9 => by cases (Option.some.inj (h9.symm.trans (rfl : vwCl[13]? = some (RX12, TX12, 91)))); rfl) (hini rfl) (qb557 _ _ hk543) (Or.inr (by decide)) (xokr 13 82 (by decide)) rfl rfl dX12_init_557 (fun g573 hg573 => ?_)
  refine X_aloadn hK (i := 0) 0 dX12_init_560 rfl rfl ?_
  refine X_bipush hK dX12_init_561 (by decide) ?_
  refine X_newa hK (ty := .int) 18900 0 (.int 0) rfl (fun _ => rfl) rfl (by decide) m_3_14 (by omega) ⟨by show _ * 4 ≤ _; omega, by omega⟩ (by omega) (by omega) (fun _ _ h9 => h9) (fun S9 k9 => by rw [sl_18900]; exact ⟨0, rfl, by decide, by decide⟩) dX12_init_563 (fun b574 S575 g576 zb574 nb574 hSb574 hg576 qb574 hs_b574 => ?_)
  have hk577 := (qb574 _ _ (qb557 _ _ (qb540 _ _ (qb524 _ _ hk511))))
  have hk578 := (qb574 _ _ (qb557 _ _ (qb540 _ _ (qb524 _ _ hk512))))
  have hk579 := (qb574 _ _ (qb557 _ _ (qb540 _ _ (qb524 _ _ hk513))))
  have hk580 := (qb574 _ _ (qb557 _ _ (qb540 _ _ (qb524 _ _ hk514))))
  have hk581 := (qb574 _ _ (qb557 _ _ (qb540 _ _ (qb524 _ _ hk515))))
  have hk582 := (qb574 _ _ (qb557 _ _ (qb540 _ _ (qb524 _ _ hk516))))
  have hk583 := (qb574 _ _ (qb557 _ _ (qb540 _ _ (qb524 _ _ hk517))))
  have hk584 := (qb574 _ _ (qb557 _ _ (qb540 _ _ (qb524 _ _ hk518))))
  have hk585 := (qb574 _ _ (qb557 _ _ (qb540 _ _ (qb524 _ _ hk519))))
  have hk586 := (qb574 _ _ (qb557 _ _ (qb540 _ _ (qb524 _ _ hk520))))
  have hk587 := (qb574 _ _ (qb557 _ _ (qb540 _ _ (qb524 _ _ hk521))))
  have hk588 := (qb574 _ _ (qb557 _ _ (qb540 _ _ (qb524 _ _ hk522))))
  have hk589 := (qb574 _ _ (qb557 _ _ (qb540 _ _ (qb524 _ _ hs_b508))))
  refine X_putF hK fl_X12_180_5013 (fun T9 N9 C9 h9 => by cases (Option.some.inj (h9.symm.trans (rfl : vwCl[13]? = some (RX12, TX12, 91)))); rfl) (hini rfl) (qb574 _ _ (qb557 _ _ hk543)) (Or.inr (by decide)) (xokr 13 83 (by decide)) rfl rfl dX12_init_565 (fun g590 hg590 => ?_)
  refine X_aloadn hK (i := 0) 0 dX12_init_568 rfl rfl ?_
  refine X_bipush hK dX12_init_569 (by decide) ?_
  refine X_newa hK (ty := .int) 19000 0 (.int 0) rfl (fun _ => rfl) rfl (by decide) m_3_14 (by omega) ⟨by show _ * 4 ≤ _; omega, by omega⟩ (by omega) (by omega) (fun _ _ h9 => h9) (fun S9 k9 => by rw [sl_19000]; exact ⟨0, rfl, by decide, by decide⟩) dX12_init_571 (fun b591 S592 g593 zb591 nb591 hSb591 hg593 qb591 hs_b591 => ?_)
  have hk594 := (qb591 _ _ (qb574 _ _ (qb557 _ _ (qb540 _ _ hk527))))
  have hk595 := (qb591 _ _ (qb574 _ _ (qb557 _ _ (qb540 _ _ hk528))))
  have hk596 := (qb591 _ _ (qb574 _ _ (qb557 _ _ (qb540 _ _ hk529))))
  have hk597 := (qb591 _ _ (qb574 _ _ (qb557 _ _ (qb540 _ _ hk530))))
  have hk598 := (qb591 _ _ (qb574 _ _ (qb557 _ _ (qb540 _ _ hk531))))
  have hk599 := (qb591 _ _ (qb574 _ _ (qb557 _ _ (qb540 _ _ hk532))))
  have hk600 := (qb591 _ _ (qb574 _ _ (qb557 _ _ (qb540 _ _ hk533))))
  have hk601 := (qb591 _ _ (qb574 _ _ (qb557 _ _ (qb540 _ _ hk534))))
  have hk602 := (qb591 _ _ (qb574 _ _ (qb557 _ _ (qb540 _ _ hk535))))
  have hk603 := (qb591 _ _ (qb574 _ _ (qb557 _ _ (qb540 _ _ hk536))))
  have hk604 := (qb591 _ _ (qb574 _ _ (qb557 _ _ (qb540 _ _ hk537))))
  have hk605 := (qb591 _ _ (qb574 _ _ (qb557 _ _ (qb540 _ _ hk538))))
  have hk606 := (qb591 _ _ (qb574 _ _ (qb557 _ _ (qb540 _ _ hs_b524))))
  refine X_putF hK fl_X12_183_5013 (fun T9 N9 C9 h9 => by cases (Option.some.inj (h9.symm.trans (rfl : vwCl[13]? = some (RX12, TX12, 91)))); rfl) (hini rfl) (qb591 _ _ (qb574 _ _ (qb557 _ _ hk543))) (Or.inr (by decide)) (xokr 13 84 (by decide)) rfl rfl dX12_init_573 (fun g607 hg607 => ?_)
  refine X_aloadn hK (i := 0) 0 dX12_init_576 rfl rfl ?_
  refine X_bipush hK dX12_init_577 (by decide) ?_
  refine X_newa hK (ty := .int) 19100 0 (.int 0) rfl (fun _ => rfl) rfl (by decide) m_3_14 (by omega) ⟨by show _ * 4 ≤ _; omega, by omega⟩ (by omega) (by omega) (fun _ _ h9 => h9) (fun S9 k9 => by rw [sl_19100]; exact ⟨0, rfl, by decide, by decide⟩) dX12_init_579 (fun b608 S609 g610 zb608 nb608 hSb608 hg610 qb608 hs_b608 => ?_)
  have hk611 := (qb608 _ _ (qb591 _ _ (qb574 _ _ (qb557 _ _ hk543))))
  have hk612 := (qb608 _ _ (qb591 _ _ (qb574 _ _ (qb557 _ _ hk544))))
  have hk613 := (qb608 _ _ (qb591 _ _ (qb574 _ _ (qb557 _ _ hk545))))
  have hk614 := (qb608 _ _ (qb591 _ _ (qb574 _ _ (qb557 _ _ hk546))))
  have hk615 := (qb608 _ _ (qb591 _ _ (qb574 _ _ (qb557 _ _ hk547))))
  have hk616 := (qb608 _ _ (qb591 _ _ (qb574 _ _ (qb557 _ _ hk548))))
  have hk617 := (qb608 _ _ (qb591 _ _ (qb574 _ _ (qb557 _ _ hk549))))
  have hk618 := (qb608 _ _ (qb591 _ _ (qb574 _ _ (qb557 _ _ hk550))))
  have hk619 := (qb608 _ _ (qb591 _ _ (qb574 _ _ (qb557 _ _ hk551))))
  have hk620 := (qb608 _ _ (qb591 _ _ (qb574 _ _ (qb557 _ _ hk552))))
  have hk621 := (qb608 _ _ (qb591 _ _ (qb574 _ _ (qb557 _ _ hk553))))
  have hk622 := (qb608 _ _ (qb591 _ _ (qb574 _ _ (qb557 _ _ hk554))))
  have hk623 := (qb608 _ _ (qb591 _ _ (qb574 _ _ (qb557 _ _ hk555))))
  have hk624 := (qb608 _ _ (qb591 _ _ (qb574 _ _ (qb557 _ _ hs_b540))))
  refine X_putF hK fl_X12_186_5013 (fun T9 N9 C9 h9 => by cases (Option.some.inj (h9.symm.trans (rfl : vwCl[13]? = some (RX12, TX12, 91)))); rfl) (hini rfl) hk611 (Or.inr (by decide)) (xokr 13 85 (by decide)) rfl rfl dX12_init_581 (fun g625 hg625 => ?_)
  refine X_aloadn hK (i := 0) 0 dX12_init_584 rfl rfl ?_
  refine X_bipush hK dX12_init_585 (by decide) ?_
  refine X_newa hK (ty := .int) 19200 0 (.int 0) rfl (fun _ => rfl) rfl (by decide) m_3_14 (by omega) ⟨by show _ * 4 ≤ _; omega, by omega⟩ (by omega) (by omega) (fun _ _ h9 => h9) (fun S9 k9 => by rw [sl_19200]; exact ⟨0, rfl, by decide, by decide⟩) dX12_init_587 (fun b626 S627 g628 zb626 nb626 hSb626 hg628 qb626 hs_b626 => ?_)
  have hk629 := (qb626 _ _ (qb608 _ _ (qb591 _ _ (qb574 _ _ hk560))))
  have hk630 := (qb626 _ _ (qb608 _ _ (qb591 _ _ (qb574 _ _ hk561))))
  have hk631 := (qb626 _ _ (qb608 _ _ (qb591 _ _ (qb574 _ _ hk562))))
  have hk632 := (qb626 _ _ (qb608 _ _ (qb591 _ _ (qb574 _ _ hk563))))
  have hk633 := (qb626 _ _ (qb608 _ _ (qb591 _ _ (qb574 _ _ hk564))))
  have hk634 := (qb626 _ _ (qb608 _ _ (qb591 _ _ (qb574 _ _ hk565))))
  have hk635 := (qb626 _ _ (qb608 _ _ (qb591 _ _ (qb574 _ _ hk566))))
  have hk636 := (qb626 _ _ (qb608 _ _ (qb591 _ _ (qb574 _ _ hk567))))
  have hk637 := (qb626 _ _ (qb608 _ _ (qb591 _ _ (qb574 _ _ hk568))))
  have hk638 := (qb626 _ _ (qb608 _ _ (qb591 _ _ (qb574 _ _ hk569))))
  have hk639 := (qb626 _ _ (qb608 _ _ (qb591 _ _ (qb574 _ _ hk570))))
  have hk640 := (qb626 _ _ (qb608 _ _ (qb591 _ _ (qb574 _ _ hk571))))
  have hk641 := (qb626 _ _ (qb608 _ _ (qb591 _ _ (qb574 _ _ hk572))))
  have hk642 := (qb626 _ _ (qb608 _ _ (qb591 _ _ (qb574 _ _ hs_b557))))
  refine X_putF hK fl_X12_189_5013 (fun T9 N9 C9 h9 => by cases (Option.some.inj (h9.symm.trans (rfl : vwCl[13]? = some (RX12, TX12, 91)))); rfl) (hini rfl) (qb626 _ _ hk611) (Or.inr (by decide)) (xokr 13 86 (by decide)) rfl rfl dX12_init_589 (fun g643 hg643 => ?_)
  refine X_aloadn hK (i := 0) 0 dX12_init_592 rfl rfl ?_
  refine X_iconst hK dX12_init_593 ?_
  refine X_putv hK fl_X12_192_5013 (qb626 _ _ hk611) (by decide) (xokr 13 89 (by decide)) rfl rfl dX12_init_594 (fun g644 hg644 => ?_)
  refine X_aloadn hK (i := 0) 0 dX12_init_597 rfl rfl ?_
  refine X_iconst hK dX12_init_598 ?_
  refine X_putv hK fl_X12_195_5013 (qb626 _ _ hk611) (by decide) (xokr 13 90 (by decide)) rfl rfl dX12_init_599 (fun g645 hg645 => ?_)
  have rw646 : xRaw S627 g a0 13 [] := fun k9 h9 => absurd h9 List.not_mem_nil
  have rw647 := xRaw.add (k := 0) rw646 (xk0 sl_13_0 hp0 (by omega) (by omega))
  have rw648 := xRaw.add (k := 2) rw647 (xk0 sl_13_2 hp1 (by omega) (by omega))
  have rw649 := xRaw.add (k := 3) rw648 (xk0 sl_13_3 hp2 (by omega) (by omega))
  have rw650 := xRaw.add (k := 16) rw649 (xk0 sl_13_16 hp3 (by omega) (by omega))
  have rw651 := xRaw.add (k := 17) rw650 (xk0 sl_13_17 hp4 (by omega) (by omega))
  have rw652 := xRaw.add (k := 18) rw651 (xk0 sl_13_18 hp5 (by omega) (by omega))
  have rw653 := xRaw.add (k := 19) rw652 (xk0 sl_13_19 hp6 (by omega) (by omega))
  have rw654 := xRaw.add (k := 20) rw653 (xk0 sl_13_20 hp7 (by omega) (by omega))
  have rw655 := xRaw.add (k := 21) rw654 (xk0 sl_13_21 hp8 (by omega) (by omega))
  have rw656 := xRaw.add (k := 22) rw655 (xk0 sl_13_22 hp9 (by omega) (by omega))
  have rw657 := xRaw.add (k := 23) rw656 (xk0 sl_13_23 hp10 (by omega) (by omega))
  have rw658 := xRaw.add (k := 24) rw657 (xk0 sl_13_24 hp11 (by omega) (by omega))
  have rw659 := xRaw.add (k := 25) rw658 (xk0 sl_13_25 hp12 (by omega) (by omega))
  have rw660 := xRaw.add (k := 26) rw659 (xk0 sl_13_26 hp13 (by omega) (by omega))
  have rw661 := xRaw.add (k := 27) rw660 (xk0 sl_13_27 hp14 (by omega) (by omega))
  have rw662 := xRaw.add (k := 28) rw661 (xk3 sl_13_28 hp15)
  have rw663 := xRaw.add (k := 39) rw662 (xk0 sl_13_39 hp16 (by omega) (by omega))
  have rw664 := xRaw.add (k := 40) rw663 (xk0 sl_13_40 hp17 (by omega) (by omega))
  have rw665 := xRaw.add (k := 41) rw664 (xk0 sl_13_41 hp18 (by omega) (by omega))
  have rw666 := xRaw.add (k := 42) rw665 (xk0 sl_13_42 hp19 (by omega) (by omega))
  have rw667 := xRaw.add (k := 43) rw666 (xk0 sl_13_43 hp20 (by omega) (by omega))
  have rw668 := xRaw.add (k := 44) rw667 (xk0 sl_13_44 hp21 (by omega) (by omega))
  have rw669 := xRaw.add (k := 58) rw668 (xk0 sl_13_58 hp22 (by omega) (by omega))
  have rw670 := xRaw.add (k := 69) rw669 (xk0 sl_13_69 hp23 (by omega) (by omega))
  have rw671 := xRaw.add (k := 70) rw670 (xk3 sl_13_70 hp24)
  have rw672 := xRaw.add (k := 78) rw671 (xk0 sl_13_78 hp25 (by omega) (by omega))
  have rw673 := xRaw.add (k := 79) rw672 (xk0 sl_13_79 hp26 (by omega) (by omega))
  have rw674 := xRaw.add (k := 87) rw673 (xk0 sl_13_87 hp27 (by omega) (by omega))
  have rw675 := xRaw.add (k := 88) rw674 (xk0 sl_13_88 hp28 (by omega) (by omega))
  have rw676 := xRaw.n rw675 hg3 hs_a0 nb1
  have rw677 := xRaw.put rw676 hg4 (xk1 14100 420 sl_13_1 rfl hk629)
  have rw678 := xRaw.n rw677 hg7 (qb1 _ _ hs_a0) nb5
  have rw679 := xRaw.put rw678 hg8 (xk1 14200 40 sl_13_4 rfl (qb626 _ _ (qb608 _ _ (qb591 _ _ hk577))))
  have rw680 := xRaw.n rw679 hg11 (qb5 _ _ (qb1 _ _ hs_a0)) nb9
  have rw681 := xRaw.put rw680 hg12 (xk1 14300 40 sl_13_5 rfl (qb626 _ _ (qb608 _ _ hk594)))
  have rw682 := xRaw.n rw681 hg15 (qb9 _ _ (qb5 _ _ (qb1 _ _ hs_a0))) nb13
  have rw683 := xRaw.put rw682 hg17 (xk1 14400 40 sl_13_6 rfl (qb626 _ _ hk612))
  have rw684 := xRaw.n rw683 hg20 hk16 nb18
  have rw685 := xRaw.put rw684 hg22 (xk1 14500 40 sl_13_7 rfl hk630)
  have rw686 := xRaw.n rw685 hg25 (qb18 _ _ hk16) nb23
  have rw687 := xRaw.put rw686 hg27 (xk1 19301 40 sl_13_8 rfl (qb626 _ _ (qb608 _ _ (qb591 _ _ hk578))))
  have rw688 := xRaw.n rw687 hg30 (qb23 _ _ (qb18 _ _ hk16)) nb28
  have rw689 := xRaw.u rw688 hg32 (xne (qb626 _ _ hk611) (qb626 _ _ (qb608 _ _ hk595)) (by decide))
  have rw690 := xRaw.u rw689 hg33 (xne (qb626 _ _ hk611) (qb626 _ _ (qb608 _ _ hk595)) (by decide))
  have rw691 := xRaw.u rw690 hg34 (xne (qb626 _ _ hk611) (qb626 _ _ (qb608 _ _ hk595)) (by decide))
  have rw692 := xRaw.u rw691 hg35 (xne (qb626 _ _ hk611) (qb626 _ _ (qb608 _ _ hk595)) (by decide))
  have rw693 := xRaw.u rw692 hg36 (xne (qb626 _ _ hk611) (qb626 _ _ (qb608 _ _ hk595)) (by decide))
  have rw694 := xRaw.u rw693 hg37 (xne (qb626 _ _ hk611) (qb626 _ _ (qb608 _ _ hk595)) (by decide))
  have rw695 := xRaw.u rw694 hg38 (xne (qb626 _ _ hk611) (qb626 _ _ (qb608 _ _ hk595)) (by decide))
  have rw696 := xRaw.u rw695 hg39 (xne (qb626 _ _ hk611) (qb626 _ _ (qb608 _ _ hk595)) (by decide))
  have rw697 := xRaw.u rw696 hg40 (xne (qb626 _ _ hk611) (qb626 _ _ (qb608 _ _ hk595)) (by decide))
  have rw698 := xRaw.u rw697 hg41 (xne (qb626 _ _ hk611) (qb626 _ _ (qb608 _ _ hk595)) (by decide))
  have rw699 := xRaw.put rw698 hg42 (xk1 14600 10 sl_13_9 rfl (qb626 _ _ (qb608 _ _ hk595)))
  have rw700 := xRaw.n rw699 hg45 (qb28 _ _ (qb23 _ _ (qb18 _ _ hk16))) nb43
  have rw701 := xRaw.put rw700 hg48 (xk1 14700 400 sl_13_10 rfl (qb626 _ _ hk613))
  have rw702 := xRaw.n rw701 hg51 hk46 nb49
  have rw703 := xRaw.put rw702 hg54 (xk1 14800 1600 sl_13_11 rfl hk631)
  have rw704 := xRaw.n rw703 hg57 (qb49 _ _ hk46) nb55
  have rw705 := xRaw.put rw704 hg60 (xk1 14900 40 sl_13_12 rfl (qb626 _ _ (qb608 _ _ (qb591 _ _ hk579))))
  have rw706 := xRaw.n rw705 hg63 (qb55 _ _ (qb49 _ _ hk46)) nb61
  have rw707 := xRaw.u rw706 hg66 (xne (qb626 _ _ hk611) (qb626 _ _ (qb608 _ _ hk596)) (by decide))
  have rw708 := xRaw.u rw707 hg67 (xne (qb626 _ _ hk611) (qb626 _ _ (qb608 _ _ hk596)) (by decide))
  have rw709 := xRaw.u rw708 hg68 (xne (qb626 _ _ hk611) (qb626 _ _ (qb608 _ _ hk596)) (by decide))
  have rw710 := xRaw.u rw709 hg69 (xne (qb626 _ _ hk611) (qb626 _ _ (qb608 _ _ hk596)) (by decide))
  have rw711 := xRaw.put rw710 hg70 (xk1 15000 4 sl_13_13 rfl (qb626 _ _ (qb608 _ _ hk596)))
  have rw712 := xRaw.n rw711 hg73 (qb61 _ _ (qb55 _ _ (qb49 _ _ hk46))) nb71
  have rw713 := xRaw.u rw712 hg77 (xne (qb626 _ _ hk611) (qb626 _ _ hk614) (by decide))
  have rw714 := xRaw.u rw713 hg78 (xne (qb626 _ _ hk611) (qb626 _ _ hk614) (by decide))
  have rw715 := xRaw.u rw714 hg79 (xne (qb626 _ _ hk611) (qb626 _ _ hk614) (by decide))
  have rw716 := xRaw.u rw715 hg80 (xne (qb626 _ _ hk611) (qb626 _ _ hk614) (by decide))
  have rw717 := xRaw.u rw716 hg81 (xne (qb626 _ _ hk611) (qb626 _ _ hk614) (by decide))
  have rw718 := xRaw.u rw717 hg82 (xne (qb626 _ _ hk611) (qb626 _ _ hk614) (by decide))
  have rw719 := xRaw.put rw718 hg83 (xk1 15100 6 sl_13_14 rfl (qb626 _ _ hk614))
  have rw720 := xRaw.n rw719 hg86 hk74 nb84
  have rw721 := xRaw.put rw720 hg90 (xk1 15200 100 sl_13_15 rfl hk632)
  have rw722 := xRaw.n rw721 hg93 (qb84 _ _ hk74) nb91
  have rw723 := xRaw.put rw722 hg97 (xk1 15300 11 sl_13_29 rfl (qb626 _ _ (qb608 _ _ (qb591 _ _ hk580))))
  have rw724 := xRaw.n rw723 hg100 (qb91 _ _ (qb84 _ _ hk74)) nb98
  have rw725 := xRaw.put rw724 hg104 (xk1 15400 11 sl_13_30 rfl (qb626 _ _ (qb608 _ _ hk597)))
  have rw726 := xRaw.n rw725 hg107 (qb98 _ _ (qb91 _ _ (qb84 _ _ hk74))) nb105
  have rw727 := xRaw.put rw726 hg112 (xk1 15500 176 sl_13_31 rfl (qb626 _ _ hk615))
  have rw728 := xRaw.n rw727 hg115 hk108 nb113
  have rw729 := xRaw.put rw728 hg120 (xk1 15600 176 sl_13_32 rfl hk633)
  have rw730 := xRaw.n rw729 hg123 (qb113 _ _ hk108) nb121
  have rw731 := xRaw.put rw730 hg128 (xk1 15700 176 sl_13_33 rfl (qb626 _ _ (qb608 _ _ (qb591 _ _ hk581))))
  have rw732 := xRaw.n rw731 hg131 (qb121 _ _ (qb113 _ _ hk108)) nb129
  have rw733 := xRaw.put rw732 hg136 (xk1 15800 176 sl_13_34 rfl (qb626 _ _ (qb608 _ _ hk598)))
  have rw734 := xRaw.n rw733 hg139 (qb129 _ _ (qb121 _ _ (qb113 _ _ hk108))) nb137
  have rw735 := xRaw.put rw734 hg145 (xk1 15900 1320 sl_13_35 rfl (qb626 _ _ hk616))
  have rw736 := xRaw.n rw735 hg148 hk140 nb146
  have rw737 := xRaw.put rw736 hg154 (xk1 16000 1320 sl_13_36 rfl hk634)
  have rw738 := xRaw.n rw737 hg157 (qb146 _ _ hk140) nb155
  have rw739 := xRaw.put rw738 hg163 (xk1 16100 1320 sl_13_37 rfl (qb626 _ _ (qb608 _ _ (qb591 _ _ hk582))))
  have rw740 := xRaw.n rw739 hg166 (qb155 _ _ (qb146 _ _ hk140)) nb164
  have rw741 := xRaw.put rw740 hg172 (xk1 16200 64 sl_13_38 rfl (qb626 _ _ (qb608 _ _ hk599)))
  have rw742 := xRaw.n rw741 hg175 (qb164 _ _ (qb155 _ _ (qb146 _ _ hk140))) nb173
  have rw743 := xRaw.put rw742 hg182 (xk1 16300 12 sl_13_45 rfl (qb626 _ _ hk617))
  have rw744 := xRaw.n rw743 hg185 hk176 nb183
  have rw745 := xRaw.put rw744 hg192 (xk1 19401 64 sl_13_46 rfl hk635)
  have rw746 := xRaw.put rw745 hg193 (xk0 sl_13_47 rfl (by omega) (by omega))
  have rw747 := xRaw.n rw746 hg196 (qb183 _ _ hk176) nb194
  have rw748 := xRaw.put rw747 hg203 (xk1 16400 200 sl_13_48 rfl (qb626 _ _ (qb608 _ _ (qb591 _ _ hk583))))
  have rw749 := xRaw.n rw748 hg206 (qb194 _ _ (qb183 _ _ hk176)) nb204
  have rw750 := xRaw.put rw749 hg213 (xk1 16500 200 sl_13_49 rfl (qb626 _ _ (qb608 _ _ hk600)))
  have rw751 := xRaw.n rw750 hg216 (qb204 _ _ (qb194 _ _ (qb183 _ _ hk176))) nb214
  have rw752 := xRaw.put rw751 hg224 (xk1 16600 200 sl_13_50 rfl (qb626 _ _ hk618))
  have rw753 := xRaw.n rw752 hg227 hk217 nb225
  have rw754 := xRaw.put rw753 hg235 (xk1 16700 200 sl_13_51 rfl hk636)
  have rw755 := xRaw.n rw754 hg238 (qb225 _ _ hk217) nb236
  have rw756 := xRaw.put rw755 hg246 (xk1 16800 200 sl_13_52 rfl (qb626 _ _ (qb608 _ _ (qb591 _ _ hk584))))
  have rw757 := xRaw.n rw756 hg249 (qb236 _ _ (qb225 _ _ hk217)) nb247
  have rw758 := xRaw.put rw757 hg257 (xk1 16900 200 sl_13_53 rfl (qb626 _ _ (qb608 _ _ hk601)))
  have rw759 := xRaw.n rw758 hg260 (qb247 _ _ (qb236 _ _ (qb225 _ _ hk217))) nb258
  have rw760 := xRaw.put rw759 hg269 (xk1 17000 200 sl_13_54 rfl (qb626 _ _ hk619))
  have rw761 := xRaw.n rw760 hg272 hk261 nb270
  have rw762 := xRaw.put rw761 hg281 (xk1 17100 200 sl_13_55 rfl hk637)
  have rw763 := xRaw.n rw762 hg284 (qb270 _ _ hk261) nb282
  have rw764 := xRaw.put rw763 hg293 (xk1 17200 200 sl_13_56 rfl (qb626 _ _ (qb608 _ _ (qb591 _ _ hk585))))
  have rw765 := xRaw.n rw764 hg296 (qb282 _ _ (qb270 _ _ hk261)) nb294
  have rw766 := xRaw.put rw765 hg305 (xk1 17300 200 sl_13_57 rfl (qb626 _ _ (qb608 _ _ hk602)))
  have rw767 := xRaw.put rw766 hg306 (xk0 sl_13_59 rfl (by omega) (by omega))
  have rw768 := xRaw.n rw767 hg309 (qb294 _ _ (qb282 _ _ (qb270 _ _ hk261))) nb307
  have rw769 := xRaw.put rw768 hg319 (xk1 17400 200 sl_13_60 rfl (qb626 _ _ hk620))
  have rw770 := xRaw.n rw769 hg322 hk310 nb320
  have rw771 := xRaw.put rw770 hg332 (xk1 17500 200 sl_13_61 rfl hk638)
  have rw772 := xRaw.n rw771 hg335 (qb320 _ _ hk310) nb333
  have rw773 := xRaw.put rw772 hg345 (xk1 19501 200 sl_13_62 rfl (qb626 _ _ (qb608 _ _ (qb591 _ _ hk586))))
  have rw774 := xRaw.n rw773 hg348 (qb333 _ _ (qb320 _ _ hk310)) nb346
  have rw775 := xRaw.put rw774 hg358 (xk1 19601 200 sl_13_63 rfl (qb626 _ _ (qb608 _ _ hk603)))
  have rw776 := xRaw.n rw775 hg361 (qb346 _ _ (qb333 _ _ (qb320 _ _ hk310))) nb359
  have rw777 := xRaw.put rw776 hg372 (xk1 17600 60 sl_13_64 rfl (qb626 _ _ hk621))
  have rw778 := xRaw.n rw777 hg375 hk362 nb373
  have rw779 := xRaw.put rw778 hg386 (xk1 17700 60 sl_13_65 rfl hk639)
  have rw780 := xRaw.n rw779 hg389 (qb373 _ _ hk362) nb387
  have rw781 := xRaw.put rw780 hg400 (xk1 17800 60 sl_13_66 rfl (qb626 _ _ (qb608 _ _ (qb591 _ _ hk587))))
  have rw782 := xRaw.n rw781 hg403 (qb387 _ _ (qb373 _ _ hk362)) nb401
  have rw783 := xRaw.put rw782 hg414 (xk1 17900 60 sl_13_67 rfl (qb626 _ _ (qb608 _ _ hk604)))
  have rw784 := xRaw.n rw783 hg417 (qb401 _ _ (qb387 _ _ (qb373 _ _ hk362))) nb415
  have rw785 := xRaw.put rw784 hg429 (xk1 18000 60 sl_13_68 rfl (qb626 _ _ hk622))
  have rw786 := xRaw.put rw785 hg430 (xk0 sl_13_71 rfl (by omega) (by omega))
  have rw787 := xRaw.n rw786 hg433 hk418 nb431
  have rw788 := xRaw.put rw787 hg445 (xk1 18100 64 sl_13_72 rfl hk640)
  have rw789 := xRaw.n rw788 hg448 (qb431 _ _ hk418) nb446
  have rw790 := xRaw.put rw789 hg460 (xk1 18200 64 sl_13_73 rfl (qb626 _ _ (qb608 _ _ (qb591 _ _ hk588))))
  have rw791 := xRaw.n rw790 hg463 (qb446 _ _ (qb431 _ _ hk418)) nb461
  have rw792 := xRaw.put rw791 hg475 (xk1 18300 8 sl_13_74 rfl (qb626 _ _ (qb608 _ _ hk605)))
  have rw793 := xRaw.n rw792 hg478 (qb461 _ _ (qb446 _ _ (qb431 _ _ hk418))) nb476
  have rw794 := xRaw.put rw793 hg491 (xk1 18400 8 sl_13_75 rfl (qb626 _ _ hk623))
  have rw795 := xRaw.n rw794 hg494 hk479 nb492
  have rw796 := xRaw.put rw795 hg507 (xk1 18500 8 sl_13_76 rfl hk641)
  have rw797 := xRaw.n rw796 hg510 (qb492 _ _ hk479) nb508
  have rw798 := xRaw.put rw797 hg523 (xk1 19701 64 sl_13_77 rfl (qb626 _ _ (qb608 _ _ (qb591 _ _ hk589))))
  have rw799 := xRaw.n rw798 hg526 (qb508 _ _ (qb492 _ _ hk479)) nb524
  have rw800 := xRaw.put rw799 hg539 (xk1 18600 64 sl_13_80 rfl (qb626 _ _ (qb608 _ _ hk606)))
  have rw801 := xRaw.n rw800 hg542 (qb524 _ _ (qb508 _ _ (qb492 _ _ hk479))) nb540
  have rw802 := xRaw.put rw801 hg556 (xk1 18700 64 sl_13_81 rfl (qb626 _ _ hk624))
  have rw803 := xRaw.n rw802 hg559 hk543 nb557
  have rw804 := xRaw.put rw803 hg573 (xk1 18800 10 sl_13_82 rfl hk642)
  have rw805 := xRaw.n rw804 hg576 (qb557 _ _ hk543) nb574
  have rw806 := xRaw.put rw805 hg590 (xk1 18900 10 sl_13_83 rfl (qb626 _ _ (qb608 _ _ (qb591 _ _ hs_b574))))
  have rw807 := xRaw.n rw806 hg593 (qb574 _ _ (qb557 _ _ hk543)) nb591
  have rw808 := xRaw.put rw807 hg607 (xk1 19000 9 sl_13_84 rfl (qb626 _ _ (qb608 _ _ hs_b591)))
  have rw809 := xRaw.n rw808 hg610 (qb591 _ _ (qb574 _ _ (qb557 _ _ hk543))) nb608
  have rw810 := xRaw.put rw809 hg625 (xk1 19100 10 sl_13_85 rfl (qb626 _ _ hs_b608))
  have rw811 := xRaw.n rw810 hg628 hk611 nb626
  have rw812 := xRaw.put rw811 hg643 (xk1 19200 10 sl_13_86 rfl hs_b626)
  have rw813 := xRaw.put rw812 hg644 (xk0 sl_13_89 rfl (by omega) (by omega))
  have rw814 := xRaw.put rw813 hg645 (xk0 sl_13_90 rfl (by omega) (by omega))
  exact hret _ _ _ _ _ _ dX12_init_602 ⟨(xNw2.tr (xNw2.tr (xNw2.tr (xNw2.tr (xNw2.tr (xNw2.tr (xNw2.tr (xNw2.tr (xNw2.tr (xNw2.tr (xNw2.tr (xNw2.tr (xNw2.tr (xNw2.tr (xNw2.tr (xNw2.tr (xNw2.tr (xNw2.tr (xNw2.tr (xNw2.tr (xNw2.tr (xNw2.tr (xNw2.tr (xNw2.tr (xNw2.tr (xNw2.tr (xNw2.tr (xNw2.tr (xNw2.tr (xNw2.tr (xNw2.tr (xNw2.tr (xNw2.tr (xNw2.tr (xNw2.tr (xNw2.tr (xNw2.tr (xNw2.tr (xNw2.tr (xNw2.tr (xNw2.tr (xNw2.tr (xNw2.tr (xNw2.tr (xNw2.tr (xNw2.tr (xNw2.tr (xNw2.tr (xNw2.tr (xNw2.tr (xNw2.tr (xNw2.tr (xNw2.tr (xNw2.tr (xNw2.tr (xNw2.tr (xNw2.tr xNw2.rf (hSb1 ▸ xNw2.set (by decide)) (fun _ h => h)) (hSb5 ▸ xNw2.set (by decide)) (fun _ h => h)) (hSb9 ▸ xNw2.set (by decide)) (fun _ h => h)) (hSb13 ▸ xNw2.set (by decide)) (fun _ h => h)) (hSb18 ▸ xNw2.set (by decide)) (fun _ h => h)) (hSb23 ▸ xNw2.set (by decide)) (fun _ h => h)) (hSb28 ▸ xNw2.set (by decide)) (fun _ h => h)) (hSb43 ▸ xNw2.set (by decide)) (fun _ h => h)) (hSb49 ▸ xNw2.set (by decide)) (fun _ h => h)) (hSb55 ▸ xNw2.set (by decide)) (fun _ h => h)) (hSb61 ▸ xNw2.set (by decide)) (fun _ h => h)) (hSb71 ▸ xNw2.set (by decide)) (fun _ h => h)) (hSb84 ▸ xNw2.set (by decide)) (fun _ h => h)) (hSb91 ▸ xNw2.set (by decide)) (fun _ h => h)) (hSb98 ▸ xNw2.set (by decide)) (fun _ h => h)) (hSb105 ▸ xNw2.set (by decide)) (fun _ h => h)) (hSb113 ▸ xNw2.set (by decide)) (fun _ h => h)) (hSb121 ▸ xNw2.set (by decide)) (fun _ h => h)) (hSb129 ▸ xNw2.set (by decide)) (fun _ h => h)) (hSb137 ▸ xNw2.set (by decide)) (fun _ h => h)) (hSb146 ▸ xNw2.set (by decide)) (fun _ h => h)) (hSb155 ▸ xNw2.set (by decide)) (fun _ h => h)) (hSb164 ▸ xNw2.set (by decide)) (fun _ h => h)) (hSb173 ▸ xNw2.set (by decide)) (fun _ h => h)) (hSb183 ▸ xNw2.set (by decide)) (fun _ h => h)) (hSb194 ▸ xNw2.set (by decide)) (fun _ h => h)) (hSb204 ▸ xNw2.set (by decide)) (fun _ h => h)) (hSb214 ▸ xNw2.set (by decide)) (fun _ h => h)) (hSb225 ▸ xNw2.set (by decide)) (fun _ h => h)) (hSb236 ▸ xNw2.set (by decide)) (fun _ h => h)) (hSb247 ▸ xNw2.set (by decide)) (fun _ h => h)) (hSb258 ▸ xNw2.set (by decide)) (fun _ h => h)) (hSb270 ▸ xNw2.set (by decide)) (fun _ h => h)) (hSb282 ▸ xNw2.set (by decide)) (fun _ h => h)) (hSb294 ▸ xNw2.set (by decide)) (fun _ h => h)) (hSb307 ▸ xNw2.set (by decide)) (fun _ h => h)) (hSb320 ▸ xNw2.set (by decide)) (fun _ h => h)) (hSb333 ▸ xNw2.set (by decide)) (fun _ h => h)) (hSb346 ▸ xNw2.set (by decide)) (fun _ h => h)) (hSb359 ▸ xNw2.set (by decide)) (fun _ h => h)) (hSb373 ▸ xNw2.set (by decide)) (fun _ h => h)) (hSb387 ▸ xNw2.set (by decide)) (fun _ h => h)) (hSb401 ▸ xNw2.set (by decide)) (fun _ h => h)) (hSb415 ▸ xNw2.set (by decide)) (fun _ h => h)) (hSb431 ▸ xNw2.set (by decide)) (fun _ h => h)) (hSb446 ▸ xNw2.set (by decide)) (fun _ h => h)) (hSb461 ▸ xNw2.set (by decide)) (fun _ h => h)) (hSb476 ▸ xNw2.set (by decide)) (fun _ h => h)) (hSb492 ▸ xNw2.set (by decide)) (fun _ h => h)) (hSb508 ▸ xNw2.set (by decide)) (fun _ h => h)) (hSb524 ▸ xNw2.set (by decide)) (fun _ h => h)) (hSb540 ▸ xNw2.set (by decide)) (fun _ h => h)) (hSb557 ▸ xNw2.set (by decide)) (fun _ h => h)) (hSb574 ▸ xNw2.set (by decide)) (fun _ h => h)) (hSb591 ▸ xNw2.set (by decide)) (fun _ h => h)) (hSb608 ▸ xNw2.set (by decide)) (fun _ h => h)) (hSb626 ▸ xNw2.set (by decide)) (fun _ h => h)), rfl, (by omega), (((xs_k hg645 (by decide)).trans ((xs_k hg644 (by decide)).trans ((xs_k hg643 (by decide)).trans ((xs_n hg628 hk611 nb626).trans ((xs_k hg625 (by decide)).trans ((xs_n hg610 (qb591 _ _ (qb574 _ _ (qb557 _ _ hk543))) nb608).trans ((xs_k hg607 (by decide)).trans ((xs_n hg593 (qb574 _ _ (qb557 _ _ hk543)) nb591).trans ((xs_k hg590 (by decide)).trans ((xs_n hg576 (qb557 _ _ hk543) nb574).trans ((xs_k hg573 (by decide)).trans ((xs_n hg559 hk543 nb557).trans ((xs_k hg556 (by decide)).trans ((xs_n hg542 (qb524 _ _ (qb508 _ _ (qb492 _ _ hk479))) nb540).trans ((xs_k hg539 (by decide)).trans ((xs_n hg526 (qb508 _ _ (qb492 _ _ hk479)) nb524).trans ((xs_k hg523 (by decide)).trans ((xs_n hg510 (qb492 _ _ hk479) nb508).trans ((xs_k hg507 (by decide)).trans ((xs_n hg494 hk479 nb492).trans ((xs_k hg491 (by decide)).trans ((xs_n hg478 (qb461 _ _ (qb446 _ _ (qb431 _ _ hk418))) nb476).trans ((xs_k hg475 (by decide)).trans ((xs_n hg463 (qb446 _ _ (qb431 _ _ hk418)) nb461).trans ((xs_k hg460 (by decide)).trans ((xs_n hg448 (qb431 _ _ hk418) nb446).trans ((xs_k hg445 (by decide)).trans ((xs_n hg433 hk418 nb431).trans ((xs_k hg430 (by decide)).trans ((xs_k hg429 (by decide)).trans ((xs_n hg417 (qb401 _ _ (qb387 _ _ (qb373 _ _ hk362))) nb415).trans ((xs_k hg414 (by decide)).trans ((xs_n hg403 (qb387 _ _ (qb373 _ _ hk362)) nb401).trans ((xs_k hg400 (by decide)).trans ((xs_n hg389 (qb373 _ _ hk362) nb387).trans ((xs_k hg386 (by decide)).trans ((xs_n hg375 hk362 nb373).trans ((xs_k hg372 (by decide)).trans ((xs_n hg361 (qb346 _ _ (qb333 _ _ (qb320 _ _ hk310))) nb359).trans ((xs_k hg358 (by decide)).trans ((xs_n hg348 (qb333 _ _ (qb320 _ _ hk310)) nb346).trans ((xs_k hg345 (by decide)).trans ((xs_n hg335 (qb320 _ _ hk310) nb333).trans ((xs_k hg332 (by decide)).trans ((xs_n hg322 hk310 nb320).trans ((xs_k hg319 (by decide)).trans ((xs_n hg309 (qb294 _ _ (qb282 _ _ (qb270 _ _ hk261))) nb307).trans ((xs_k hg306 (by decide)).trans ((xs_k hg305 (by decide)).trans ((xs_n hg296 (qb282 _ _ (qb270 _ _ hk261)) nb294).trans ((xs_k hg293 (by decide)).trans ((xs_n hg284 (qb270 _ _ hk261) nb282).trans ((xs_k hg281 (by decide)).trans ((xs_n hg272 hk261 nb270).trans ((xs_k hg269 (by decide)).trans ((xs_n hg260 (qb247 _ _ (qb236 _ _ (qb225 _ _ hk217))) nb258).trans ((xs_k hg257 (by decide)).trans ((xs_n hg249 (qb236 _ _ (qb225 _ _ hk217)) nb247).trans ((xs_k hg246 (by decide)).trans ((xs_n hg238 (qb225 _ _ hk217) nb236).trans ((xs_k hg235 (by decide)).trans ((xs_n hg227 hk217 nb225).trans ((xs_k hg224 (by decide)).trans ((xs_n hg216 (qb204 _ _ (qb194 _ _ (qb183 _ _ hk176))) nb214).trans ((xs_k hg213 (by decide)).trans ((xs_n hg206 (qb194 _ _ (qb183 _ _ hk176)) nb204).trans ((xs_k hg203 (by decide)).trans ((xs_n hg196 (qb183 _ _ hk176) nb194).trans ((xs_k hg193 (by decide)).trans ((xs_k hg192 (by decide)).trans ((xs_n hg185 hk176 nb183).trans ((xs_k hg182 (by decide)).trans ((xs_n hg175 (qb164 _ _ (qb155 _ _ (qb146 _ _ hk140))) nb173).trans ((xs_k hg172 (by decide)).trans ((xs_n hg166 (qb155 _ _ (qb146 _ _ hk140)) nb164).trans ((xs_k hg163 (by decide)).trans ((xs_n hg157 (qb146 _ _ hk140) nb155).trans ((xs_k hg154 (by decide)).trans ((xs_n hg148 hk140 nb146).trans ((xs_k hg145 (by decide)).trans ((xs_n hg139 (qb129 _ _ (qb121 _ _ (qb113 _ _ hk108))) nb137).trans ((xs_k hg136 (by decide)).trans ((xs_n hg131 (qb121 _ _ (qb113 _ _ hk108)) nb129).trans ((xs_k hg128 (by decide)).trans ((xs_n hg123 (qb113 _ _ hk108) nb121).trans ((xs_k hg120 (by decide)).trans ((xs_n hg115 hk108 nb113).trans ((xs_k hg112 (by decide)).trans ((xs_n hg107 (qb98 _ _ (qb91 _ _ (qb84 _ _ hk74))) nb105).trans ((xs_k hg104 (by decide)).trans ((xs_n hg100 (qb91 _ _ (qb84 _ _ hk74)) nb98).trans ((xs_k hg97 (by decide)).trans ((xs_n hg93 (qb84 _ _ hk74) nb91).trans ((xs_k hg90 (by decide)).trans ((xs_n hg86 hk74 nb84).trans ((xs_k hg83 (by decide)).trans ((xs_a hg82 (xne (qb626 _ _ hk611) (qb626 _ _ hk614) (by decide))).trans ((xs_a hg81 (xne (qb626 _ _ hk611) (qb626 _ _ hk614) (by decide))).trans ((xs_a hg80 (xne (qb626 _ _ hk611) (qb626 _ _ hk614) (by decide))).trans ((xs_a hg79 (xne (qb626 _ _ hk611) (qb626 _ _ hk614) (by decide))).trans ((xs_a hg78 (xne (qb626 _ _ hk611) (qb626 _ _ hk614) (by decide))).trans ((xs_a hg77 (xne (qb626 _ _ hk611) (qb626 _ _ hk614) (by decide))).trans ((xs_n hg73 (qb61 _ _ (qb55 _ _ (qb49 _ _ hk46))) nb71).trans ((xs_k hg70 (by decide)).trans ((xs_a hg69 (xne (qb626 _ _ hk611) (qb626 _ _ (qb608 _ _ hk596)) (by decide))).trans ((xs_a hg68 (xne (qb626 _ _ hk611) (qb626 _ _ (qb608 _ _ hk596)) (by decide))).trans ((xs_a hg67 (xne (qb626 _ _ hk611) (qb626 _ _ (qb608 _ _ hk596)) (by decide))).trans ((xs_a hg66 (xne (qb626 _ _ hk611) (qb626 _ _ (qb608 _ _ hk596)) (by decide))).trans ((xs_n hg63 (qb55 _ _ (qb49 _ _ hk46)) nb61).trans ((xs_k hg60 (by decide)).trans ((xs_n hg57 (qb49 _ _ hk46) nb55).trans ((xs_k hg54 (by decide)).trans ((xs_n hg51 hk46 nb49).trans ((xs_k hg48 (by decide)).trans ((xs_n hg45 (qb28 _ _ (qb23 _ _ (qb18 _ _ hk16))) nb43).trans ((xs_k hg42 (by decide)).trans ((xs_a hg41 (xne (qb626 _ _ hk611) (qb626 _ _ (qb608 _ _ hk595)) (by decide))).trans ((xs_a hg40 (xne (qb626 _ _ hk611) (qb626 _ _ (qb608 _ _ hk595)) (by decide))).trans ((xs_a hg39 (xne (qb626 _ _ hk611) (qb626 _ _ (qb608 _ _ hk595)) (by decide))).trans ((xs_a hg38 (xne (qb626 _ _ hk611) (qb626 _ _ (qb608 _ _ hk595)) (by decide))).trans ((xs_a hg37 (xne (qb626 _ _ hk611) (qb626 _ _ (qb608 _ _ hk595)) (by decide))).trans ((xs_a hg36 (xne (qb626 _ _ hk611) (qb626 _ _ (qb608 _ _ hk595)) (by decide))).trans ((xs_a hg35 (xne (qb626 _ _ hk611) (qb626 _ _ (qb608 _ _ hk595)) (by decide))).trans ((xs_a hg34 (xne (qb626 _ _ hk611) (qb626 _ _ (qb608 _ _ hk595)) (by decide))).trans ((xs_a hg33 (xne (qb626 _ _ hk611) (qb626 _ _ (qb608 _ _ hk595)) (by decide))).trans ((xs_a hg32 (xne (qb626 _ _ hk611) (qb626 _ _ (qb608 _ _ hk595)) (by decide))).trans ((xs_n hg30 (qb23 _ _ (qb18 _ _ hk16)) nb28).trans ((xs_k hg27 (by decide)).trans ((xs_n hg25 (qb18 _ _ hk16) nb23).trans ((xs_k hg22 (by decide)).trans ((xs_n hg20 hk16 nb18).trans ((xs_k hg17 (by decide)).trans ((xs_n hg15 (qb9 _ _ (qb5 _ _ (qb1 _ _ hs_a0))) nb13).trans ((xs_k hg12 (by decide)).trans ((xs_n hg11 (qb5 _ _ (qb1 _ _ hs_a0)) nb9).trans ((xs_k hg8 (by decide)).trans ((xs_n hg7 (qb1 _ _ hs_a0) nb5).trans ((xs_k hg4 (by decide)).trans ((xs_n hg3 hs_a0 nb1).trans hp2))))))))))))))))))))))))))))))))))))))))))))))))))))))))))))))))))))))))))))))))))))))))))))))))))))))))))))))))))))))))))))))))))))))))))).trans (by congr 2 <;> omega)), (((xs_k hg645 (by decide)).trans ((xs_k hg644 (by decide)).trans ((xs_k hg643 (by decide)).trans ((xs_n hg628 hk611 nb626).trans ((xs_k hg625 (by decide)).trans ((xs_n hg610 (qb591 _ _ (qb574 _ _ (qb557 _ _ hk543))) nb608).trans ((xs_k hg607 (by decide)).trans ((xs_n hg593 (qb574 _ _ (qb557 _ _ hk543)) nb591).trans ((xs_k hg590 (by decide)).trans ((xs_n hg576 (qb557 _ _ hk543) nb574).trans ((xs_k hg573 (by decide)).trans ((xs_n hg559 hk543 nb557).trans ((xs_k hg556 (by decide)).trans ((xs_n hg542 (qb524 _ _ (qb508 _ _ (qb492 _ _ hk479))) nb540).trans ((xs_k hg539 (by decide)).trans ((xs_n hg526 (qb508 _ _ (qb492 _ _ hk479)) nb524).trans ((xs_k hg523 (by decide)).trans ((xs_n hg510 (qb492 _ _ hk479) nb508).trans ((xs_k hg507 (by decide)).trans ((xs_n hg494 hk479 nb492).trans ((xs_k hg491 (by decide)).trans ((xs_n hg478 (qb461 _ _ (qb446 _ _ (qb431 _ _ hk418))) nb476).trans ((xs_k hg475 (by decide)).trans ((xs_n hg463 (qb446 _ _ (qb431 _ _ hk418)) nb461).trans ((xs_k hg460 (by decide)).trans ((xs_n hg448 (qb431 _ _ hk418) nb446).trans ((xs_k hg445 (by decide)).trans ((xs_n hg433 hk418 nb431).trans ((xs_k hg430 (by decide)).trans ((xs_k hg429 (by decide)).trans ((xs_n hg417 (qb401 _ _ (qb387 _ _ (qb373 _ _ hk362))) nb415).trans ((xs_k hg414 (by decide)).trans ((xs_n hg403 (qb387 _ _ (qb373 _ _ hk362)) nb401).trans ((xs_k hg400 (by decide)).trans ((xs_n hg389 (qb373 _ _ hk362) nb387).trans ((xs_k hg386 (by decide)).trans ((xs_n hg375 hk362 nb373).trans ((xs_k hg372 (by decide)).trans ((xs_n hg361 (qb346 _ _ (qb333 _ _ (qb320 _ _ hk310))) nb359).trans ((xs_k hg358 (by decide)).trans ((xs_n hg348 (qb333 _ _ (qb320 _ _ hk310)) nb346).trans ((xs_k hg345 (by decide)).trans ((xs_n hg335 (qb320 _ _ hk310) nb333).trans ((xs_k hg332 (by decide)).trans ((xs_n hg322 hk310 nb320).trans ((xs_k hg319 (by decide)).trans ((xs_n hg309 (qb294 _ _ (qb282 _ _ (qb270 _ _ hk261))) nb307).trans ((xs_k hg306 (by decide)).trans ((xs_k hg305 (by decide)).trans ((xs_n hg296 (qb282 _ _ (qb270 _ _ hk261)) nb294).trans ((xs_k hg293 (by decide)).trans ((xs_n hg284 (qb270 _ _ hk261) nb282).trans ((xs_k hg281 (by decide)).trans ((xs_n hg272 hk261 nb270).trans ((xs_k hg269 (by decide)).trans ((xs_n hg260 (qb247 _ _ (qb236 _ _ (qb225 _ _ hk217))) nb258).trans ((xs_k hg257 (by decide)).trans ((xs_n hg249 (qb236 _ _ (qb225 _ _ hk217)) nb247).trans ((xs_k hg246 (by decide)).trans ((xs_n hg238 (qb225 _ _ hk217) nb236).trans ((xs_k hg235 (by decide)).trans ((xs_n hg227 hk217 nb225).trans ((xs_k hg224 (by decide)).trans ((xs_n hg216 (qb204 _ _ (qb194 _ _ (qb183 _ _ hk176))) nb214).trans ((xs_k hg213 (by decide)).trans ((xs_n hg206 (qb194 _ _ (qb183 _ _ hk176)) nb204).trans ((xs_k hg203 (by decide)).trans ((xs_n hg196 (qb183 _ _ hk176) nb194).trans ((xs_k hg193 (by decide)).trans ((xs_k hg192 (by decide)).trans ((xs_n hg185 hk176 nb183).trans ((xs_k hg182 (by decide)).trans ((xs_n hg175 (qb164 _ _ (qb155 _ _ (qb146 _ _ hk140))) nb173).trans ((xs_k hg172 (by decide)).trans ((xs_n hg166 (qb155 _ _ (qb146 _ _ hk140)) nb164).trans ((xs_k hg163 (by decide)).trans ((xs_n hg157 (qb146 _ _ hk140) nb155).trans ((xs_k hg154 (by decide)).trans ((xs_n hg148 hk140 nb146).trans ((xs_k hg145 (by decide)).trans ((xs_n hg139 (qb129 _ _ (qb121 _ _ (qb113 _ _ hk108))) nb137).trans ((xs_k hg136 (by decide)).trans ((xs_n hg131 (qb121 _ _ (qb113 _ _ hk108)) nb129).trans ((xs_k hg128 (by decide)).trans ((xs_n hg123 (qb113 _ _ hk108) nb121).trans ((xs_k hg120 (by decide)).trans ((xs_n hg115 hk108 nb113).trans ((xs_k hg112 (by decide)).trans ((xs_n hg107 (qb98 _ _ (qb91 _ _ (qb84 _ _ hk74))) nb105).trans ((xs_k hg104 (by decide)).trans ((xs_n hg100 (qb91 _ _ (qb84 _ _ hk74)) nb98).trans ((xs_k hg97 (by decide)).trans ((xs_n hg93 (qb84 _ _ hk74) nb91).trans ((xs_k hg90 (by decide)).trans ((xs_n hg86 hk74 nb84).trans ((xs_k hg83 (by decide)).trans ((xs_a hg82 (xne (qb626 _ _ hk611) (qb626 _ _ hk614) (by decide))).trans ((xs_a hg81 (xne (qb626 _ _ hk611) (qb626 _ _ hk614) (by decide))).trans ((xs_a hg80 (xne (qb626 _ _ hk611) (qb626 _ _ hk614) (by decide))).trans ((xs_a hg79 (xne (qb626 _ _ hk611) (qb626 _ _ hk614) (by decide))).trans ((xs_a hg78 (xne (qb626 _ _ hk611) (qb626 _ _ hk614) (by decide))).trans ((xs_a hg77 (xne (qb626 _ _ hk611) (qb626 _ _ hk614) (by decide))).trans ((xs_n hg73 (qb61 _ _ (qb55 _ _ (qb49 _ _ hk46))) nb71).trans ((xs_k hg70 (by decide)).trans ((xs_a hg69 (xne (qb626 _ _ hk611) (qb626 _ _ (qb608 _ _ hk596)) (by decide))).trans ((xs_a hg68 (xne (qb626 _ _ hk611) (qb626 _ _ (qb608 _ _ hk596)) (by decide))).trans ((xs_a hg67 (xne (qb626 _ _ hk611) (qb626 _ _ (qb608 _ _ hk596)) (by decide))).trans ((xs_a hg66 (xne (qb626 _ _ hk611) (qb626 _ _ (qb608 _ _ hk596)) (by decide))).trans ((xs_n hg63 (qb55 _ _ (qb49 _ _ hk46)) nb61).trans ((xs_k hg60 (by decide)).trans ((xs_n hg57 (qb49 _ _ hk46) nb55).trans ((xs_k hg54 (by decide)).trans ((xs_n hg51 hk46 nb49).trans ((xs_k hg48 (by decide)).trans ((xs_n hg45 (qb28 _ _ (qb23 _ _ (qb18 _ _ hk16))) nb43).trans ((xs_k hg42 (by decide)).trans ((xs_a hg41 (xne (qb626 _ _ hk611) (qb626 _ _ (qb608 _ _ hk595)) (by decide))).trans ((xs_a hg40 (xne (qb626 _ _ hk611) (qb626 _ _ (qb608 _ _ hk595)) (by decide))).trans ((xs_a hg39 (xne (qb626 _ _ hk611) (qb626 _ _ (qb608 _ _ hk595)) (by decide))).trans ((xs_a hg38 (xne (qb626 _ _ hk611) (qb626 _ _ (qb608 _ _ hk595)) (by decide))).trans ((xs_a hg37 (xne (qb626 _ _ hk611) (qb626 _ _ (qb608 _ _ hk595)) (by decide))).trans ((xs_a hg36 (xne (qb626 _ _ hk611) (qb626 _ _ (qb608 _ _ hk595)) (by decide))).trans ((xs_a hg35 (xne (qb626 _ _ hk611) (qb626 _ _ (qb608 _ _ hk595)) (by decide))).trans ((xs_a hg34 (xne (qb626 _ _ hk611) (qb626 _ _ (qb608 _ _ hk595)) (by decide))).trans ((xs_a hg33 (xne (qb626 _ _ hk611) (qb626 _ _ (qb608 _ _ hk595)) (by decide))).trans ((xs_a hg32 (xne (qb626 _ _ hk611) (qb626 _ _ (qb608 _ _ hk595)) (by decide))).trans ((xs_n hg30 (qb23 _ _ (qb18 _ _ hk16)) nb28).trans ((xs_k hg27 (by decide)).trans ((xs_n hg25 (qb18 _ _ hk16) nb23).trans ((xs_k hg22 (by decide)).trans ((xs_n hg20 hk16 nb18).trans ((xs_k hg17 (by decide)).trans ((xs_n hg15 (qb9 _ _ (qb5 _ _ (qb1 _ _ hs_a0))) nb13).trans ((xs_k hg12 (by decide)).trans ((xs_n hg11 (qb5 _ _ (qb1 _ _ hs_a0)) nb9).trans ((xs_k hg8 (by decide)).trans ((xs_n hg7 (qb1 _ _ hs_a0) nb5).trans ((xs_k hg4 (by decide)).trans ((xs_n hg3 hs_a0 nb1).trans hp3))))))))))))))))))))))))))))))))))))))))))))))))))))))))))))))))))))))))))))))))))))))))))))))))))))))))))))))))))))))))))))))))))))))))))).trans (by congr 2 <;> omega)), (((xs_k hg645 (by decide)).trans ((xs_k hg644 (by decide)).trans ((xs_k hg643 (by decide)).trans ((xs_n hg628 hk611 nb626).trans ((xs_k hg625 (by decide)).trans ((xs_n hg610 (qb591 _ _ (qb574 _ _ (qb557 _ _ hk543))) nb608).trans ((xs_k hg607 (by decide)).trans ((xs_n hg593 (qb574 _ _ (qb557 _ _ hk543)) nb591).trans ((xs_k hg590 (by decide)).trans ((xs_n hg576 (qb557 _ _ hk543) nb574).trans ((xs_k hg573 (by decide)).trans ((xs_n hg559 hk543 nb557).trans ((xs_k hg556 (by decide)).trans ((xs_n hg542 (qb524 _ _ (qb508 _ _ (qb492 _ _ hk479))) nb540).trans ((xs_k hg539 (by decide)).trans ((xs_n hg526 (qb508 _ _ (qb492 _ _ hk479)) nb524).trans ((xs_k hg523 (by decide)).trans ((xs_n hg510 (qb492 _ _ hk479) nb508).trans ((xs_k hg507 (by decide)).trans ((xs_n hg494 hk479 nb492).trans ((xs_k hg491 (by decide)).trans ((xs_n hg478 (qb461 _ _ (qb446 _ _ (qb431 _ _ hk418))) nb476).trans ((xs_k hg475 (by decide)).trans ((xs_n hg463 (qb446 _ _ (qb431 _ _ hk418)) nb461).trans ((xs_k hg460 (by decide)).trans ((xs_n hg448 (qb431 _ _ hk418) nb446).trans ((xs_k hg445 (by decide)).trans ((xs_n hg433 hk418 nb431).trans ((xs_k hg430 (by decide)).trans ((xs_k hg429 (by decide)).trans ((xs_n hg417 (qb401 _ _ (qb387 _ _ (qb373 _ _ hk362))) nb415).trans ((xs_k hg414 (by decide)).trans ((xs_n hg403 (qb387 _ _ (qb373 _ _ hk362)) nb401).trans ((xs_k hg400 (by decide)).trans ((xs_n hg389 (qb373 _ _ hk362) nb387).trans ((xs_k hg386 (by decide)).trans ((xs_n hg375 hk362 nb373).trans ((xs_k hg372 (by decide)).trans ((xs_n hg361 (qb346 _ _ (qb333 _ _ (qb320 _ _ hk310))) nb359).trans ((xs_k hg358 (by decide)).trans ((xs_n hg348 (qb333 _ _ (qb320 _ _ hk310)) nb346).trans ((xs_k hg345 (by decide)).trans ((xs_n hg335 (qb320 _ _ hk310) nb333).trans ((xs_k hg332 (by decide)).trans ((xs_n hg322 hk310 nb320).trans ((xs_k hg319 (by decide)).trans ((xs_n hg309 (qb294 _ _ (qb282 _ _ (qb270 _ _ hk261))) nb307).trans ((xs_k hg306 (by decide)).trans ((xs_k hg305 (by decide)).trans ((xs_n hg296 (qb282 _ _ (qb270 _ _ hk261)) nb294).trans ((xs_k hg293 (by decide)).trans ((xs_n hg284 (qb270 _ _ hk261) nb282).trans ((xs_k hg281 (by decide)).trans ((xs_n hg272 hk261 nb270).trans ((xs_k hg269 (by decide)).trans ((xs_n hg260 (qb247 _ _ (qb236 _ _ (qb225 _ _ hk217))) nb258).trans ((xs_k hg257 (by decide)).trans ((xs_n hg249 (qb236 _ _ (qb225 _ _ hk217)) nb247).trans ((xs_k hg246 (by decide)).trans ((xs_n hg238 (qb225 _ _ hk217) nb236).trans ((xs_k hg235 (by decide)).trans ((xs_n hg227 hk217 nb225).trans ((xs_k hg224 (by decide)).trans ((xs_n hg216 (qb204 _ _ (qb194 _ _ (qb183 _ _ hk176))) nb214).trans ((xs_k hg213 (by decide)).trans ((xs_n hg206 (qb194 _ _ (qb183 _ _ hk176)) nb204).trans ((xs_k hg203 (by decide)).trans ((xs_n hg196 (qb183 _ _ hk176) nb194).trans ((xs_k hg193 (by decide)).trans ((xs_k hg192 (by decide)).trans ((xs_n hg185 hk176 nb183).trans ((xs_k hg182 (by decide)).trans ((xs_n hg175 (qb164 _ _ (qb155 _ _ (qb146 _ _ hk140))) nb173).trans ((xs_k hg172 (by decide)).trans ((xs_n hg166 (qb155 _ _ (qb146 _ _ hk140)) nb164).trans ((xs_k hg163 (by decide)).trans ((xs_n hg157 (qb146 _ _ hk140) nb155).trans ((xs_k hg154 (by decide)).trans ((xs_n hg148 hk140 nb146).trans ((xs_k hg145 (by decide)).trans ((xs_n hg139 (qb129 _ _ (qb121 _ _ (qb113 _ _ hk108))) nb137).trans ((xs_k hg136 (by decide)).trans ((xs_n hg131 (qb121 _ _ (qb113 _ _ hk108)) nb129).trans ((xs_k hg128 (by decide)).trans ((xs_n hg123 (qb113 _ _ hk108) nb121).trans ((xs_k hg120 (by decide)).trans ((xs_n hg115 hk108 nb113).trans ((xs_k hg112 (by decide)).trans ((xs_n hg107 (qb98 _ _ (qb91 _ _ (qb84 _ _ hk74))) nb105).trans ((xs_k hg104 (by decide)).trans ((xs_n hg100 (qb91 _ _ (qb84 _ _ hk74)) nb98).trans ((xs_k hg97 (by decide)).trans ((xs_n hg93 (qb84 _ _ hk74) nb91).trans ((xs_k hg90 (by decide)).trans ((xs_n hg86 hk74 nb84).trans ((xs_k hg83 (by decide)).trans ((xs_a hg82 (xne (qb626 _ _ hk611) (qb626 _ _ hk614) (by decide))).trans ((xs_a hg81 (xne (qb626 _ _ hk611) (qb626 _ _ hk614) (by decide))).trans ((xs_a hg80 (xne (qb626 _ _ hk611) (qb626 _ _ hk614) (by decide))).trans ((xs_a hg79 (xne (qb626 _ _ hk611) (qb626 _ _ hk614) (by decide))).trans ((xs_a hg78 (xne (qb626 _ _ hk611) (qb626 _ _ hk614) (by decide))).trans ((xs_a hg77 (xne (qb626 _ _ hk611) (qb626 _ _ hk614) (by decide))).trans ((xs_n hg73 (qb61 _ _ (qb55 _ _ (qb49 _ _ hk46))) nb71).trans ((xs_k hg70 (by decide)).trans ((xs_a hg69 (xne (qb626 _ _ hk611) (qb626 _ _ (qb608 _ _ hk596)) (by decide))).trans ((xs_a hg68 (xne (qb626 _ _ hk611) (qb626 _ _ (qb608 _ _ hk596)) (by decide))).trans ((xs_a hg67 (xne (qb626 _ _ hk611) (qb626 _ _ (qb608 _ _ hk596)) (by decide))).trans ((xs_a hg66 (xne (qb626 _ _ hk611) (qb626 _ _ (qb608 _ _ hk596)) (by decide))).trans ((xs_n hg63 (qb55 _ _ (qb49 _ _ hk46)) nb61).trans ((xs_k hg60 (by decide)).trans ((xs_n hg57 (qb49 _ _ hk46) nb55).trans ((xs_k hg54 (by decide)).trans ((xs_n hg51 hk46 nb49).trans ((xs_k hg48 (by decide)).trans ((xs_n hg45 (qb28 _ _ (qb23 _ _ (qb18 _ _ hk16))) nb43).trans ((xs_k hg42 (by decide)).trans ((xs_a hg41 (xne (qb626 _ _ hk611) (qb626 _ _ (qb608 _ _ hk595)) (by decide))).trans ((xs_a hg40 (xne (qb626 _ _ hk611) (qb626 _ _ (qb608 _ _ hk595)) (by decide))).trans ((xs_a hg39 (xne (qb626 _ _ hk611) (qb626 _ _ (qb608 _ _ hk595)) (by decide))).trans ((xs_a hg38 (xne (qb626 _ _ hk611) (qb626 _ _ (qb608 _ _ hk595)) (by decide))).trans ((xs_a hg37 (xne (qb626 _ _ hk611) (qb626 _ _ (qb608 _ _ hk595)) (by decide))).trans ((xs_a hg36 (xne (qb626 _ _ hk611) (qb626 _ _ (qb608 _ _ hk595)) (by decide))).trans ((xs_a hg35 (xne (qb626 _ _ hk611) (qb626 _ _ (qb608 _ _ hk595)) (by decide))).trans ((xs_a hg34 (xne (qb626 _ _ hk611) (qb626 _ _ (qb608 _ _ hk595)) (by decide))).trans ((xs_a hg33 (xne (qb626 _ _ hk611) (qb626 _ _ (qb608 _ _ hk595)) (by decide))).trans ((xs_a hg32 (xne (qb626 _ _ hk611) (qb626 _ _ (qb608 _ _ hk595)) (by decide))).trans ((xs_n hg30 (qb23 _ _ (qb18 _ _ hk16)) nb28).trans ((xs_k hg27 (by decide)).trans ((xs_n hg25 (qb18 _ _ hk16) nb23).trans ((xs_k hg22 (by decide)).trans ((xs_n hg20 hk16 nb18).trans ((xs_k hg17 (by decide)).trans ((xs_n hg15 (qb9 _ _ (qb5 _ _ (qb1 _ _ hs_a0))) nb13).trans ((xs_k hg12 (by decide)).trans ((xs_n hg11 (qb5 _ _ (qb1 _ _ hs_a0)) nb9).trans ((xs_k hg8 (by decide)).trans ((xs_n hg7 (qb1 _ _ hs_a0) nb5).trans ((xs_k hg4 (by decide)).trans ((xs_n hg3 hs_a0 nb1).trans hp23))))))))))))))))))))))))))))))))))))))))))))))))))))))))))))))))))))))))))))))))))))))))))))))))))))))))))))))))))))))))))))))))))))))))))).trans (by congr 2 <;> omega)), (((xs_k hg645 (by decide)).trans (xs_s hg644)).trans (by congr 2 <;> omega)), ((xs_s hg645).trans (by congr 2 <;> omega)), (((xs_k hg645 (by decide)).trans ((xs_k hg644 (by decide)).trans ((xs_k hg643 (by decide)).trans ((xs_n hg628 hk611 nb626).trans ((xs_k hg625 (by decide)).trans ((xs_n hg610 (qb591 _ _ (qb574 _ _ (qb557 _ _ hk543))) nb608).trans ((xs_k hg607 (by decide)).trans ((xs_n hg593 (qb574 _ _ (qb557 _ _ hk543)) nb591).trans ((xs_k hg590 (by decide)).trans ((xs_n hg576 (qb557 _ _ hk543) nb574).trans ((xs_k hg573 (by decide)).trans ((xs_n hg559 hk543 nb557).trans ((xs_k hg556 (by decide)).trans ((xs_n hg542 (qb524 _ _ (qb508 _ _ (qb492 _ _ hk479))) nb540).trans ((xs_k hg539 (by decide)).trans ((xs_n hg526 (qb508 _ _ (qb492 _ _ hk479)) nb524).trans ((xs_k hg523 (by decide)).trans ((xs_n hg510 (qb492 _ _ hk479) nb508).trans ((xs_k hg507 (by decide)).trans ((xs_n hg494 hk479 nb492).trans ((xs_k hg491 (by decide)).trans ((xs_n hg478 (qb461 _ _ (qb446 _ _ (qb431 _ _ hk418))) nb476).trans ((xs_k hg475 (by decide)).trans ((xs_n hg463 (qb446 _ _ (qb431 _ _ hk418)) nb461).trans ((xs_k hg460 (by decide)).trans ((xs_n hg448 (qb431 _ _ hk418) nb446).trans ((xs_k hg445 (by decide)).trans ((xs_n hg433 hk418 nb431).trans ((xs_k hg430 (by decide)).trans ((xs_k hg429 (by decide)).trans ((xs_n hg417 (qb401 _ _ (qb387 _ _ (qb373 _ _ hk362))) nb415).trans ((xs_k hg414 (by decide)).trans ((xs_n hg403 (qb387 _ _ (qb373 _ _ hk362)) nb401).trans ((xs_k hg400 (by decide)).trans ((xs_n hg389 (qb373 _ _ hk362) nb387).trans ((xs_k hg386 (by decide)).trans ((xs_n hg375 hk362 nb373).trans ((xs_k hg372 (by decide)).trans ((xs_n hg361 (qb346 _ _ (qb333 _ _ (qb320 _ _ hk310))) nb359).trans ((xs_k hg358 (by decide)).trans ((xs_n hg348 (qb333 _ _ (qb320 _ _ hk310)) nb346).trans ((xs_k hg345 (by decide)).trans ((xs_n hg335 (qb320 _ _ hk310) nb333).trans ((xs_k hg332 (by decide)).trans ((xs_n hg322 hk310 nb320).trans ((xs_k hg319 (by decide)).trans ((xs_n hg309 (qb294 _ _ (qb282 _ _ (qb270 _ _ hk261))) nb307).trans ((xs_k hg306 (by decide)).trans ((xs_k hg305 (by decide)).trans ((xs_n hg296 (qb282 _ _ (qb270 _ _ hk261)) nb294).trans ((xs_k hg293 (by decide)).trans ((xs_n hg284 (qb270 _ _ hk261) nb282).trans ((xs_k hg281 (by decide)).trans ((xs_n hg272 hk261 nb270).trans ((xs_k hg269 (by decide)).trans ((xs_n hg260 (qb247 _ _ (qb236 _ _ (qb225 _ _ hk217))) nb258).trans ((xs_k hg257 (by decide)).trans ((xs_n hg249 (qb236 _ _ (qb225 _ _ hk217)) nb247).trans ((xs_k hg246 (by decide)).trans ((xs_n hg238 (qb225 _ _ hk217) nb236).trans ((xs_k hg235 (by decide)).trans ((xs_n hg227 hk217 nb225).trans ((xs_k hg224 (by decide)).trans ((xs_n hg216 (qb204 _ _ (qb194 _ _ (qb183 _ _ hk176))) nb214).trans ((xs_k hg213 (by decide)).trans ((xs_n hg206 (qb194 _ _ (qb183 _ _ hk176)) nb204).trans ((xs_k hg203 (by decide)).trans ((xs_n hg196 (qb183 _ _ hk176) nb194).trans ((xs_k hg193 (by decide)).trans ((xs_k hg192 (by decide)).trans ((xs_n hg185 hk176 nb183).trans ((xs_k hg182 (by decide)).trans ((xs_n hg175 (qb164 _ _ (qb155 _ _ (qb146 _ _ hk140))) nb173).trans ((xs_k hg172 (by decide)).trans ((xs_n hg166 (qb155 _ _ (qb146 _ _ hk140)) nb164).trans ((xs_k hg163 (by decide)).trans ((xs_n hg157 (qb146 _ _ hk140) nb155).trans ((xs_k hg154 (by decide)).trans ((xs_n hg148 hk140 nb146).trans ((xs_k hg145 (by decide)).trans ((xs_n hg139 (qb129 _ _ (qb121 _ _ (qb113 _ _ hk108))) nb137).trans ((xs_k hg136 (by decide)).trans ((xs_n hg131 (qb121 _ _ (qb113 _ _ hk108)) nb129).trans ((xs_k hg128 (by decide)).trans ((xs_n hg123 (qb113 _ _ hk108) nb121).trans ((xs_k hg120 (by decide)).trans ((xs_n hg115 hk108 nb113).trans ((xs_k hg112 (by decide)).trans ((xs_n hg107 (qb98 _ _ (qb91 _ _ (qb84 _ _ hk74))) nb105).trans ((xs_k hg104 (by decide)).trans ((xs_n hg100 (qb91 _ _ (qb84 _ _ hk74)) nb98).trans ((xs_k hg97 (by decide)).trans ((xs_n hg93 (qb84 _ _ hk74) nb91).trans ((xs_k hg90 (by decide)).trans ((xs_n hg86 hk74 nb84).trans ((xs_k hg83 (by decide)).trans ((xs_a hg82 (xne (qb626 _ _ hk611) (qb626 _ _ hk614) (by decide))).trans ((xs_a hg81 (xne (qb626 _ _ hk611) (qb626 _ _ hk614) (by decide))).trans ((xs_a hg80 (xne (qb626 _ _ hk611) (qb626 _ _ hk614) (by decide))).trans ((xs_a hg79 (xne (qb626 _ _ hk611) (qb626 _ _ hk614) (by decide))).trans ((xs_a hg78 (xne (qb626 _ _ hk611) (qb626 _ _ hk614) (by decide))).trans ((xs_a hg77 (xne (qb626 _ _ hk611) (qb626 _ _ hk614) (by decide))).trans ((xs_n hg73 (qb61 _ _ (qb55 _ _ (qb49 _ _ hk46))) nb71).trans ((xs_k hg70 (by decide)).trans ((xs_a hg69 (xne (qb626 _ _ hk611) (qb626 _ _ (qb608 _ _ hk596)) (by decide))).trans ((xs_a hg68 (xne (qb626 _ _ hk611) (qb626 _ _ (qb608 _ _ hk596)) (by decide))).trans ((xs_a hg67 (xne (qb626 _ _ hk611) (qb626 _ _ (qb608 _ _ hk596)) (by decide))).trans ((xs_a hg66 (xne (qb626 _ _ hk611) (qb626 _ _ (qb608 _ _ hk596)) (by decide))).trans ((xs_n hg63 (qb55 _ _ (qb49 _ _ hk46)) nb61).trans ((xs_k hg60 (by decide)).trans ((xs_n hg57 (qb49 _ _ hk46) nb55).trans ((xs_k hg54 (by decide)).trans ((xs_n hg51 hk46 nb49).trans ((xs_k hg48 (by decide)).trans ((xs_n hg45 (qb28 _ _ (qb23 _ _ (qb18 _ _ hk16))) nb43).trans ((xs_k hg42 (by decide)).trans ((xs_a hg41 (xne (qb626 _ _ hk611) (qb626 _ _ (qb608 _ _ hk595)) (by decide))).trans ((xs_a hg40 (xne (qb626 _ _ hk611) (qb626 _ _ (qb608 _ _ hk595)) (by decide))).trans ((xs_a hg39 (xne (qb626 _ _ hk611) (qb626 _ _ (qb608 _ _ hk595)) (by decide))).trans ((xs_a hg38 (xne (qb626 _ _ hk611) (qb626 _ _ (qb608 _ _ hk595)) (by decide))).trans ((xs_a hg37 (xne (qb626 _ _ hk611) (qb626 _ _ (qb608 _ _ hk595)) (by decide))).trans ((xs_a hg36 (xne (qb626 _ _ hk611) (qb626 _ _ (qb608 _ _ hk595)) (by decide))).trans ((xs_a hg35 (xne (qb626 _ _ hk611) (qb626 _ _ (qb608 _ _ hk595)) (by decide))).trans ((xs_a hg34 (xne (qb626 _ _ hk611) (qb626 _ _ (qb608 _ _ hk595)) (by decide))).trans ((xs_a hg33 (xne (qb626 _ _ hk611) (qb626 _ _ (qb608 _ _ hk595)) (by decide))).trans ((xs_a hg32 (xne (qb626 _ _ hk611) (qb626 _ _ (qb608 _ _ hk595)) (by decide))).trans ((xs_n hg30 (qb23 _ _ (qb18 _ _ hk16)) nb28).trans ((xs_k hg27 (by decide)).trans ((xs_n hg25 (qb18 _ _ hk16) nb23).trans ((xs_k hg22 (by decide)).trans ((xs_n hg20 hk16 nb18).trans ((xs_k hg17 (by decide)).trans ((xs_n hg15 (qb9 _ _ (qb5 _ _ (qb1 _ _ hs_a0))) nb13).trans ((xs_k hg12 (by decide)).trans ((xs_n hg11 (qb5 _ _ (qb1 _ _ hs_a0)) nb9).trans ((xs_k hg8 (by decide)).trans ((xs_n hg7 (qb1 _ _ hs_a0) nb5).trans ((xs_k hg4 (by decide)).trans ((xs_n hg3 hs_a0 nb1).trans hp4))))))))))))))))))))))))))))))))))))))))))))))))))))))))))))))))))))))))))))))))))))))))))))))))))))))))))))))))))))))))))))))))))))))))))).trans (by congr 2 <;> omega)), ⟨b61, b71, b55, ((xs_k hg645 (by decide)).trans ((xs_k hg644 (by decide)).trans ((xs_k hg643 (by decide)).trans ((xs_n hg628 hk611 nb626).trans ((xs_k hg625 (by decide)).trans ((xs_n hg610 (qb591 _ _ (qb574 _ _ (qb557 _ _ hk543))) nb608).trans ((xs_k hg607 (by decide)).trans ((xs_n hg593 (qb574 _ _ (qb557 _ _ hk543)) nb591).trans ((xs_k hg590 (by decide)).trans ((xs_n hg576 (qb557 _ _ hk543) nb574).trans ((xs_k hg573 (by decide)).trans ((xs_n hg559 hk543 nb557).trans ((xs_k hg556 (by decide)).trans ((xs_n hg542 (qb524 _ _ (qb508 _ _ (qb492 _ _ hk479))) nb540).trans ((xs_k hg539 (by decide)).trans ((xs_n hg526 (qb508 _ _ (qb492 _ _ hk479)) nb524).trans ((xs_k hg523 (by decide)).trans ((xs_n hg510 (qb492 _ _ hk479) nb508).trans ((xs_k hg507 (by decide)).trans ((xs_n hg494 hk479 nb492).trans ((xs_k hg491 (by decide)).trans ((xs_n hg478 (qb461 _ _ (qb446 _ _ (qb431 _ _ hk418))) nb476).trans ((xs_k hg475 (by decide)).trans ((xs_n hg463 (qb446 _ _ (qb431 _ _ hk418)) nb461).trans ((xs_k hg460 (by decide)).trans ((xs_n hg448 (qb431 _ _ hk418) nb446).trans ((xs_k hg445 (by decide)).trans ((xs_n hg433 hk418 nb431).trans ((xs_k hg430 (by decide)).trans ((xs_k hg429 (by decide)).trans ((xs_n hg417 (qb401 _ _ (qb387 _ _ (qb373 _ _ hk362))) nb415).trans ((xs_k hg414 (by decide)).trans ((xs_n hg403 (qb387 _ _ (qb373 _ _ hk362)) nb401).trans ((xs_k hg400 (by decide)).trans ((xs_n hg389 (qb373 _ _ hk362) nb387).trans ((xs_k hg386 (by decide)).trans ((xs_n hg375 hk362 nb373).trans ((xs_k hg372 (by decide)).trans ((xs_n hg361 (qb346 _ _ (qb333 _ _ (qb320 _ _ hk310))) nb359).trans ((xs_k hg358 (by decide)).trans ((xs_n hg348 (qb333 _ _ (qb320 _ _ hk310)) nb346).trans ((xs_k hg345 (by decide)).trans ((xs_n hg335 (qb320 _ _ hk310) nb333).trans ((xs_k hg332 (by decide)).trans ((xs_n hg322 hk310 nb320).trans ((xs_k hg319 (by decide)).trans ((xs_n hg309 (qb294 _ _ (qb282 _ _ (qb270 _ _ hk261))) nb307).trans ((xs_k hg306 (by decide)).trans ((xs_k hg305 (by decide)).trans ((xs_n hg296 (qb282 _ _ (qb270 _ _ hk261)) nb294).trans ((xs_k hg293 (by decide)).trans ((xs_n hg284 (qb270 _ _ hk261) nb282).trans ((xs_k hg281 (by decide)).trans ((xs_n hg272 hk261 nb270).trans ((xs_k hg269 (by decide)).trans ((xs_n hg260 (qb247 _ _ (qb236 _ _ (qb225 _ _ hk217))) nb258).trans ((xs_k hg257 (by decide)).trans ((xs_n hg249 (qb236 _ _ (qb225 _ _ hk217)) nb247).trans ((xs_k hg246 (by decide)).trans ((xs_n hg238 (qb225 _ _ hk217) nb236).trans ((xs_k hg235 (by decide)).trans ((xs_n hg227 hk217 nb225).trans ((xs_k hg224 (by decide)).trans ((xs_n hg216 (qb204 _ _ (qb194 _ _ (qb183 _ _ hk176))) nb214).trans ((xs_k hg213 (by decide)).trans ((xs_n hg206 (qb194 _ _ (qb183 _ _ hk176)) nb204).trans ((xs_k hg203 (by decide)).trans ((xs_n hg196 (qb183 _ _ hk176) nb194).trans ((xs_k hg193 (by decide)).trans ((xs_k hg192 (by decide)).trans ((xs_n hg185 hk176 nb183).trans ((xs_k hg182 (by decide)).trans ((xs_n hg175 (qb164 _ _ (qb155 _ _ (qb146 _ _ hk140))) nb173).trans ((xs_k hg172 (by decide)).trans ((xs_n hg166 (qb155 _ _ (qb146 _ _ hk140)) nb164).trans ((xs_k hg163 (by decide)).trans ((xs_n hg157 (qb146 _ _ hk140) nb155).trans ((xs_k hg154 (by decide)).trans ((xs_n hg148 hk140 nb146).trans ((xs_k hg145 (by decide)).trans ((xs_n hg139 (qb129 _ _ (qb121 _ _ (qb113 _ _ hk108))) nb137).trans ((xs_k hg136 (by decide)).trans ((xs_n hg131 (qb121 _ _ (qb113 _ _ hk108)) nb129).trans ((xs_k hg128 (by decide)).trans ((xs_n hg123 (qb113 _ _ hk108) nb121).trans ((xs_k hg120 (by decide)).trans ((xs_n hg115 hk108 nb113).trans ((xs_k hg112 (by decide)).trans ((xs_n hg107 (qb98 _ _ (qb91 _ _ (qb84 _ _ hk74))) nb105).trans ((xs_k hg104 (by decide)).trans ((xs_n hg100 (qb91 _ _ (qb84 _ _ hk74)) nb98).trans ((xs_k hg97 (by decide)).trans ((xs_n hg93 (qb84 _ _ hk74) nb91).trans ((xs_k hg90 (by decide)).trans ((xs_n hg86 hk74 nb84).trans ((xs_k hg83 (by decide)).trans ((xs_a hg82 (xne (qb626 _ _ hk611) (qb626 _ _ hk614) (by decide))).trans ((xs_a hg81 (xne (qb626 _ _ hk611) (qb626 _ _ hk614) (by decide))).trans ((xs_a hg80 (xne (qb626 _ _ hk611) (qb626 _ _ hk614) (by decide))).trans ((xs_a hg79 (xne (qb626 _ _ hk611) (qb626 _ _ hk614) (by decide))).trans ((xs_a hg78 (xne (qb626 _ _ hk611) (qb626 _ _ hk614) (by decide))).trans ((xs_a hg77 (xne (qb626 _ _ hk611) (qb626 _ _ hk614) (by decide))).trans ((xs_n hg73 (qb61 _ _ (qb55 _ _ (qb49 _ _ hk46))) nb71).trans (xs_s hg70)))))))))))))))))))))))))))))))))))))))))))))))))))))))))))))))))))))))))))))))))))))))))))))))))))))))), (qb626 _ _ (qb608 _ _ hk596)), (x4all (show xv g645 b61 0 = 100 from by rw [(xv_a hg645 (xne (qb626 _ _ (qb608 _ _ hk596)) (qb626 _ _ hk611) (by decide))), (xv_a hg644 (xne (qb626 _ _ (qb608 _ _ hk596)) (qb626 _ _ hk611) (by decide))), (xv_a hg643 (xne (qb626 _ _ (qb608 _ _ hk596)) (qb626 _ _ hk611) (by decide))), (xv_n hg628 (qb608 _ _ hk596) nb626), (xv_a hg625 (xne (qb626 _ _ (qb608 _ _ hk596)) (qb626 _ _ hk611) (by decide))), (xv_n hg610 hk596 nb608), (xv_a hg607 (xne (qb626 _ _ (qb608 _ _ hk596)) (qb626 _ _ hk611) (by decide))), (xv_n hg593 (qb574 _ _ (qb557 _ _ (qb540 _ _ hk529))) nb591), (xv_a hg590 (xne (qb626 _ _ (qb608 _ _ hk596)) (qb626 _ _ hk611) (by decide))), (xv_n hg576 (qb557 _ _ (qb540 _ _ hk529)) nb574), (xv_a hg573 (xne (qb626 _ _ (qb608 _ _ hk596)) (qb626 _ _ hk611) (by decide))), (xv_n hg559 (qb540 _ _ hk529) nb557), (xv_a hg556 (xne (qb626 _ _ (qb608 _ _ hk596)) (qb626 _ _ hk611) (by decide))), (xv_n hg542 hk529 nb540), (xv_a hg539 (xne (qb626 _ _ (qb608 _ _ hk596)) (qb626 _ _ hk611) (by decide))), (xv_n hg526 (qb508 _ _ (qb492 _ _ (qb476 _ _ hk466))) nb524), (xv_a hg523 (xne (qb626 _ _ (qb608 _ _ hk596)) (qb626 _ _ hk611) (by decide))), (xv_n hg510 (qb492 _ _ (qb476 _ _ hk466)) nb508), (xv_a hg507 (xne (qb626 _ _ (qb608 _ _ hk596)) (qb626 _ _ hk611) (by decide))), (xv_n hg494 (qb476 _ _ hk466) nb492), (xv_a hg491 (xne (qb626 _ _ (qb608 _ _ hk596)) (qb626 _ _ hk611) (by decide))), (xv_n hg478 hk466 nb476), (xv_a hg475 (xne (qb626 _ _ (qb608 _ _ hk596)) (qb626 _ _ hk611) (by decide))), (xv_n hg463 (qb446 _ _ (qb431 _ _ (qb415 _ _ hk406))) nb461), (xv_a hg460 (xne (qb626 _ _ (qb608 _ _ hk596)) (qb626 _ _ hk611) (by decide))), (xv_n hg448 (qb431 _ _ (qb415 _ _ hk406)) nb446), (xv_a hg445 (xne (qb626 _ _ (qb608 _ _ hk596)) (qb626 _ _ hk611) (by decide))), (xv_n hg433 (qb415 _ _ hk406) nb431), (xv_a hg430 (xne (qb626 _ _ (qb608 _ _ hk596)) (qb626 _ _ hk611) (by decide))), (xv_a hg429 (xne (qb626 _ _ (qb608 _ _ hk596)) (qb626 _ _ hk611) (by decide))), (xv_n hg417 hk406 nb415), (xv_a hg414 (xne (qb626 _ _ (qb608 _ _ hk596)) (qb626 _ _ hk611) (by decide))), (xv_n hg403 (qb387 _ _ (qb373 _ _ (qb359 _ _ hk351))) nb401), (xv_a hg400 (xne (qb626 _ _ (qb608 _ _ hk596)) (qb626 _ _ hk611) (by decide))), (xv_n hg389 (qb373 _ _ (qb359 _ _ hk351)) nb387), (xv_a hg386 (xne (qb626 _ _ (qb608 _ _ hk596)) (qb626 _ _ hk611) (by decide))), (xv_n hg375 (qb359 _ _ hk351) nb373), (xv_a hg372 (xne (qb626 _ _ (qb608 _ _ hk596)) (qb626 _ _ hk611) (by decide))), (xv_n hg361 hk351 nb359), (xv_a hg358 (xne (qb626 _ _ (qb608 _ _ hk596)) (qb626 _ _ hk611) (by decide))), (xv_n hg348 (qb333 _ _ (qb320 _ _ (qb307 _ _ hk299))) nb346), (xv_a hg345 (xne (qb626 _ _ (qb608 _ _ hk596)) (qb626 _ _ hk611) (by decide))), (xv_n hg335 (qb320 _ _ (qb307 _ _ hk299)) nb333), (xv_a hg332 (xne (qb626 _ _ (qb608 _ _ hk596)) (qb626 _ _ hk611) (by decide))), (xv_n hg322 (qb307 _ _ hk299) nb320), (xv_a hg319 (xne (qb626 _ _ (qb608 _ _ hk596)) (qb626 _ _ hk611) (by decide))), (xv_n hg309 hk299 nb307), (xv_a hg306 (xne (qb626 _ _ (qb608 _ _ hk596)) (qb626 _ _ hk611) (by decide))), (xv_a hg305 (xne (qb626 _ _ (qb608 _ _ hk596)) (qb626 _ _ hk611) (by decide))), (xv_n hg296 (qb282 _ _ (qb270 _ _ (qb258 _ _ hk252))) nb294), (xv_a hg293 (xne (qb626 _ _ (qb608 _ _ hk596)) (qb626 _ _ hk611) (by decide))), (xv_n hg284 (qb270 _ _ (qb258 _ _ hk252)) nb282), (xv_a hg281 (xne (qb626 _ _ (qb608 _ _ hk596)) (qb626 _ _ hk611) (by decide))), (xv_n hg272 (qb258 _ _ hk252) nb270), (xv_a hg269 (xne (qb626 _ _ (qb608 _ _ hk596)) (qb626 _ _ hk611) (by decide))), (xv_n hg260 hk252 nb258), (xv_a hg257 (xne (qb626 _ _ (qb608 _ _ hk596)) (qb626 _ _ hk611) (by decide))), (xv_n hg249 (qb236 _ _ (qb225 _ _ (qb214 _ _ hk209))) nb247), (xv_a hg246 (xne (qb626 _ _ (qb608 _ _ hk596)) (qb626 _ _ hk611) (by decide))), (xv_n hg238 (qb225 _ _ (qb214 _ _ hk209)) nb236), (xv_a hg235 (xne (qb626 _ _ (qb608 _ _ hk596)) (qb626 _ _ hk611) (by decide))), (xv_n hg227 (qb214 _ _ hk209) nb225), (xv_a hg224 (xne (qb626 _ _ (qb608 _ _ hk596)) (qb626 _ _ hk611) (by decide))), (xv_n hg216 hk209 nb214), (xv_a hg213 (xne (qb626 _ _ (qb608 _ _ hk596)) (qb626 _ _ hk611) (by decide))), (xv_n hg206 (qb194 _ _ (qb183 _ _ (qb173 _ _ hk169))) nb204), (xv_a hg203 (xne (qb626 _ _ (qb608 _ _ hk596)) (qb626 _ _ hk611) (by decide))), (xv_n hg196 (qb183 _ _ (qb173 _ _ hk169)) nb194), (xv_a hg193 (xne (qb626 _ _ (qb608 _ _ hk596)) (qb626 _ _ hk611) (by decide))), (xv_a hg192 (xne (qb626 _ _ (qb608 _ _ hk596)) (qb626 _ _ hk611) (by decide))), (xv_n hg185 (qb173 _ _ hk169) nb183), (xv_a hg182 (xne (qb626 _ _ (qb608 _ _ hk596)) (qb626 _ _ hk611) (by decide))), (xv_n hg175 hk169 nb173), (xv_a hg172 (xne (qb626 _ _ (qb608 _ _ hk596)) (qb626 _ _ hk611) (by decide))), (xv_n hg166 (qb155 _ _ (qb146 _ _ (qb137 _ _ hk134))) nb164), (xv_a hg163 (xne (qb626 _ _ (qb608 _ _ hk596)) (qb626 _ _ hk611) (by decide))), (xv_n hg157 (qb146 _ _ (qb137 _ _ hk134)) nb155), (xv_a hg154 (xne (qb626 _ _ (qb608 _ _ hk596)) (qb626 _ _ hk611) (by decide))), (xv_n hg148 (qb137 _ _ hk134) nb146), (xv_a hg145 (xne (qb626 _ _ (qb608 _ _ hk596)) (qb626 _ _ hk611) (by decide))), (xv_n hg139 hk134 nb137), (xv_a hg136 (xne (qb626 _ _ (qb608 _ _ hk596)) (qb626 _ _ hk611) (by decide))), (xv_n hg131 (qb121 _ _ (qb113 _ _ (qb105 _ _ hk103))) nb129), (xv_a hg128 (xne (qb626 _ _ (qb608 _ _ hk596)) (qb626 _ _ hk611) (by decide))), (xv_n hg123 (qb113 _ _ (qb105 _ _ hk103)) nb121), (xv_a hg120 (xne (qb626 _ _ (qb608 _ _ hk596)) (qb626 _ _ hk611) (by decide))), (xv_n hg115 (qb105 _ _ hk103) nb113), (xv_a hg112 (xne (qb626 _ _ (qb608 _ _ hk596)) (qb626 _ _ hk611) (by decide))), (xv_n hg107 hk103 nb105), (xv_a hg104 (xne (qb626 _ _ (qb608 _ _ hk596)) (qb626 _ _ hk611) (by decide))), (xv_n hg100 (qb91 _ _ (qb84 _ _ (qb71 _ _ hs_b61))) nb98), (xv_a hg97 (xne (qb626 _ _ (qb608 _ _ hk596)) (qb626 _ _ hk611) (by decide))), (xv_n hg93 (qb84 _ _ (qb71 _ _ hs_b61)) nb91), (xv_a hg90 (xne (qb626 _ _ (qb608 _ _ hk596)) (qb626 _ _ hk611) (by decide))), (xv_n hg86 (qb71 _ _ hs_b61) nb84), (xv_a hg83 (xne (qb626 _ _ (qb608 _ _ hk596)) (qb626 _ _ hk611) (by decide))), (xv_a hg82 (xne (qb626 _ _ (qb608 _ _ hk596)) (qb626 _ _ hk614) (by decide))), (xv_a hg81 (xne (qb626 _ _ (qb608 _ _ hk596)) (qb626 _ _ hk614) (by decide))), (xv_a hg80 (xne (qb626 _ _ (qb608 _ _ hk596)) (qb626 _ _ hk614) (by decide))), (xv_a hg79 (xne (qb626 _ _ (qb608 _ _ hk596)) (qb626 _ _ hk614) (by decide))), (xv_a hg78 (xne (qb626 _ _ (qb608 _ _ hk596)) (qb626 _ _ hk614) (by decide))), (xv_a hg77 (xne (qb626 _ _ (qb608 _ _ hk596)) (qb626 _ _ hk614) (by decide))), (xv_n hg73 hs_b61 nb71), (xv_a hg70 (xne (qb626 _ _ (qb608 _ _ hk596)) (qb626 _ _ hk611) (by decide))), (xv_k (i := 0) hg69 (by omega) (by omega) (by omega)), (xv_k (i := 0) hg68 (by omega) (by omega) (by omega)), (xv_k (i := 0) hg67 (by omega) (by omega) (by omega)), xv_s hg66 (by omega)]) (show xv g645 b61 1 = 100 from by rw [(xv_a hg645 (xne (qb626 _ _ (qb608 _ _ hk596)) (qb626 _ _ hk611) (by decide))), (xv_a hg644 (xne (qb626 _ _ (qb608 _ _ hk596)) (qb626 _ _ hk611) (by decide))), (xv_a hg643 (xne (qb626 _ _ (qb608 _ _ hk596)) (qb626 _ _ hk611) (by decide))), (xv_n hg628 (qb608 _ _ hk596) nb626), (xv_a hg625 (xne (qb626 _ _ (qb608 _ _ hk596)) (qb626 _ _ hk611) (by decide))), (xv_n hg610 hk596 nb608), (xv_a hg607 (xne (qb626 _ _ (qb608 _ _ hk596)) (qb626 _ _ hk611) (by decide))), (xv_n hg593 (qb574 _ _ (qb557 _ _ (qb540 _ _ hk529))) nb591), (xv_a hg590 (xne (qb626 _ _ (qb608 _ _ hk596)) (qb626 _ _ hk611) (by decide))), (xv_n hg576 (qb557 _ _ (qb540 _ _ hk529)) nb574), (xv_a hg573 (xne (qb626 _ _ (qb608 _ _ hk596)) (qb626 _ _ hk611) (by decide))), (xv_n hg559 (qb540 _ _ hk529) nb557), (xv_a hg556 (xne (qb626 _ _ (qb608 _ _ hk596)) (qb626 _ _ hk611) (by decide))), (xv_n hg542 hk529 nb540), (xv_a hg539 (xne (qb626 _ _ (qb608 _ _ hk596)) (qb626 _ _ hk611) (by decide))), (xv_n hg526 (qb508 _ _ (qb492 _ _ (qb476 _ _ hk466))) nb524), (xv_a hg523 (xne (qb626 _ _ (qb608 _ _ hk596)) (qb626 _ _ hk611) (by decide))), (xv_n hg510 (qb492 _ _ (qb476 _ _ hk466)) nb508), (xv_a hg507 (xne (qb626 _ _ (qb608 _ _ hk596)) (qb626 _ _ hk611) (by decide))), (xv_n hg494 (qb476 _ _ hk466) nb492), (xv_a hg491 (xne (qb626 _ _ (qb608 _ _ hk596)) (qb626 _ _ hk611) (by decide))), (xv_n hg478 hk466 nb476), (xv_a hg475 (xne (qb626 _ _ (qb608 _ _ hk596)) (qb626 _ _ hk611) (by decide))), (xv_n hg463 (qb446 _ _ (qb431 _ _ (qb415 _ _ hk406))) nb461), (xv_a hg460 (xne (qb626 _ _ (qb608 _ _ hk596)) (qb626 _ _ hk611) (by decide))), (xv_n hg448 (qb431 _ _ (qb415 _ _ hk406)) nb446), (xv_a hg445 (xne (qb626 _ _ (qb608 _ _ hk596)) (qb626 _ _ hk611) (by decide))), (xv_n hg433 (qb415 _ _ hk406) nb431), (xv_a hg430 (xne (qb626 _ _ (qb608 _ _ hk596)) (qb626 _ _ hk611) (by decide))), (xv_a hg429 (xne (qb626 _ _ (qb608 _ _ hk596)) (qb626 _ _ hk611) (by decide))), (xv_n hg417 hk406 nb415), (xv_a hg414 (xne (qb626 _ _ (qb608 _ _ hk596)) (qb626 _ _ hk611) (by decide))), (xv_n hg403 (qb387 _ _ (qb373 _ _ (qb359 _ _ hk351))) nb401), (xv_a hg400 (xne (qb626 _ _ (qb608 _ _ hk596)) (qb626 _ _ hk611) (by decide))), (xv_n hg389 (qb373 _ _ (qb359 _ _ hk351)) nb387), (xv_a hg386 (xne (qb626 _ _ (qb608 _ _ hk596)) (qb626 _ _ hk611) (by decide))), (xv_n hg375 (qb359 _ _ hk351) nb373), (xv_a hg372 (xne (qb626 _ _ (qb608 _ _ hk596)) (qb626 _ _ hk611) (by decide))), (xv_n hg361 hk351 nb359), (xv_a hg358 (xne (qb626 _ _ (qb608 _ _ hk596)) (qb626 _ _ hk611) (by decide))), (xv_n hg348 (qb333 _ _ (qb320 _ _ (qb307 _ _ hk299))) nb346), (xv_a hg345 (xne (qb626 _ _ (qb608 _ _ hk596)) (qb626 _ _ hk611) (by decide))), (xv_n hg335 (qb320 _ _ (qb307 _ _ hk299)) nb333), (xv_a hg332 (xne (qb626 _ _ (qb608 _ _ hk596)) (qb626 _ _ hk611) (by decide))), (xv_n hg322 (qb307 _ _ hk299) nb320), (xv_a hg319 (xne (qb626 _ _ (qb608 _ _ hk596)) (qb626 _ _ hk611) (by decide))), (xv_n hg309 hk299 nb307), (xv_a hg306 (xne (qb626 _ _ (qb608 _ _ hk596)) (qb626 _ _ hk611) (by decide))), (xv_a hg305 (xne (qb626 _ _ (qb608 _ _ hk596)) (qb626 _ _ hk611) (by decide))), (xv_n hg296 (qb282 _ _ (qb270 _ _ (qb258 _ _ hk252))) nb294), (xv_a hg293 (xne (qb626 _ _ (qb608 _ _ hk596)) (qb626 _ _ hk611) (by decide))), (xv_n hg284 (qb270 _ _ (qb258 _ _ hk252)) nb282), (xv_a hg281 (xne (qb626 _ _ (qb608 _ _ hk596)) (qb626 _ _ hk611) (by decide))), (xv_n hg272 (qb258 _ _ hk252) nb270), (xv_a hg269 (xne (qb626 _ _ (qb608 _ _ hk596)) (qb626 _ _ hk611) (by decide))), (xv_n hg260 hk252 nb258), (xv_a hg257 (xne (qb626 _ _ (qb608 _ _ hk596)) (qb626 _ _ hk611) (by decide))), (xv_n hg249 (qb236 _ _ (qb225 _ _ (qb214 _ _ hk209))) nb247), (xv_a hg246 (xne (qb626 _ _ (qb608 _ _ hk596)) (qb626 _ _ hk611) (by decide))), (xv_n hg238 (qb225 _ _ (qb214 _ _ hk209)) nb236), (xv_a hg235 (xne (qb626 _ _ (qb608 _ _ hk596)) (qb626 _ _ hk611) (by decide))), (xv_n hg227 (qb214 _ _ hk209) nb225), (xv_a hg224 (xne (qb626 _ _ (qb608 _ _ hk596)) (qb626 _ _ hk611) (by decide))), (xv_n hg216 hk209 nb214), (xv_a hg213 (xne (qb626 _ _ (qb608 _ _ hk596)) (qb626 _ _ hk611) (by decide))), (xv_n hg206 (qb194 _ _ (qb183 _ _ (qb173 _ _ hk169))) nb204), (xv_a hg203 (xne (qb626 _ _ (qb608 _ _ hk596)) (qb626 _ _ hk611) (by decide))), (xv_n hg196 (qb183 _ _ (qb173 _ _ hk169)) nb194), (xv_a hg193 (xne (qb626 _ _ (qb608 _ _ hk596)) (qb626 _ _ hk611) (by decide))), (xv_a hg192 (xne (qb626 _ _ (qb608 _ _ hk596)) (qb626 _ _ hk611) (by decide))), (xv_n hg185 (qb173 _ _ hk169) nb183), (xv_a hg182 (xne (qb626 _ _ (qb608 _ _ hk596)) (qb626 _ _ hk611) (by decide))), (xv_n hg175 hk169 nb173), (xv_a hg172 (xne (qb626 _ _ (qb608 _ _ hk596)) (qb626 _ _ hk611) (by decide))), (xv_n hg166 (qb155 _ _ (qb146 _ _ (qb137 _ _ hk134))) nb164), (xv_a hg163 (xne (qb626 _ _ (qb608 _ _ hk596)) (qb626 _ _ hk611) (by decide))), (xv_n hg157 (qb146 _ _ (qb137 _ _ hk134)) nb155), (xv_a hg154 (xne (qb626 _ _ (qb608 _ _ hk596)) (qb626 _ _ hk611) (by decide))), (xv_n hg148 (qb137 _ _ hk134) nb146), (xv_a hg145 (xne (qb626 _ _ (qb608 _ _ hk596)) (qb626 _ _ hk611) (by decide))), (xv_n hg139 hk134 nb137), (xv_a hg136 (xne (qb626 _ _ (qb608 _ _ hk596)) (qb626 _ _ hk611) (by decide))), (xv_n hg131 (qb121 _ _ (qb113 _ _ (qb105 _ _ hk103))) nb129), (xv_a hg128 (xne (qb626 _ _ (qb608 _ _ hk596)) (qb626 _ _ hk611) (by decide))), (xv_n hg123 (qb113 _ _ (qb105 _ _ hk103)) nb121), (xv_a hg120 (xne (qb626 _ _ (qb608 _ _ hk596)) (qb626 _ _ hk611) (by decide))), (xv_n hg115 (qb105 _ _ hk103) nb113), (xv_a hg112 (xne (qb626 _ _ (qb608 _ _ hk596)) (qb626 _ _ hk611) (by decide))), (xv_n hg107 hk103 nb105), (xv_a hg104 (xne (qb626 _ _ (qb608 _ _ hk596)) (qb626 _ _ hk611) (by decide))), (xv_n hg100 (qb91 _ _ (qb84 _ _ (qb71 _ _ hs_b61))) nb98), (xv_a hg97 (xne (qb626 _ _ (qb608 _ _ hk596)) (qb626 _ _ hk611) (by decide))), (xv_n hg93 (qb84 _ _ (qb71 _ _ hs_b61)) nb91), (xv_a hg90 (xne (qb626 _ _ (qb608 _ _ hk596)) (qb626 _ _ hk611) (by decide))), (xv_n hg86 (qb71 _ _ hs_b61) nb84), (xv_a hg83 (xne (qb626 _ _ (qb608 _ _ hk596)) (qb626 _ _ hk611) (by decide))), (xv_a hg82 (xne (qb626 _ _ (qb608 _ _ hk596)) (qb626 _ _ hk614) (by decide))), (xv_a hg81 (xne (qb626 _ _ (qb608 _ _ hk596)) (qb626 _ _ hk614) (by decide))), (xv_a hg80 (xne (qb626 _ _ (qb608 _ _ hk596)) (qb626 _ _ hk614) (by decide))), (xv_a hg79 (xne (qb626 _ _ (qb608 _ _ hk596)) (qb626 _ _ hk614) (by decide))), (xv_a hg78 (xne (qb626 _ _ (qb608 _ _ hk596)) (qb626 _ _ hk614) (by decide))), (xv_a hg77 (xne (qb626 _ _ (qb608 _ _ hk596)) (qb626 _ _ hk614) (by decide))), (xv_n hg73 hs_b61 nb71), (xv_a hg70 (xne (qb626 _ _ (qb608 _ _ hk596)) (qb626 _ _ hk611) (by decide))), (xv_k (i := 1) hg69 (by omega) (by omega) (by omega)), (xv_k (i := 1) hg68 (by omega) (by omega) (by omega)), xv_s hg67 (by omega)]) (show xv g645 b61 2 = 100 from by rw [(xv_a hg645 (xne (qb626 _ _ (qb608 _ _ hk596)) (qb626 _ _ hk611) (by decide))), (xv_a hg644 (xne (qb626 _ _ (qb608 _ _ hk596)) (qb626 _ _ hk611) (by decide))), (xv_a hg643 (xne (qb626 _ _ (qb608 _ _ hk596)) (qb626 _ _ hk611) (by decide))), (xv_n hg628 (qb608 _ _ hk596) nb626), (xv_a hg625 (xne (qb626 _ _ (qb608 _ _ hk596)) (qb626 _ _ hk611) (by decide))), (xv_n hg610 hk596 nb608), (xv_a hg607 (xne (qb626 _ _ (qb608 _ _ hk596)) (qb626 _ _ hk611) (by decide))), (xv_n hg593 (qb574 _ _ (qb557 _ _ (qb540 _ _ hk529))) nb591), (xv_a hg590 (xne (qb626 _ _ (qb608 _ _ hk596)) (qb626 _ _ hk611) (by decide))), (xv_n hg576 (qb557 _ _ (qb540 _ _ hk529)) nb574), (xv_a hg573 (xne (qb626 _ _ (qb608 _ _ hk596)) (qb626 _ _ hk611) (by decide))), (xv_n hg559 (qb540 _ _ hk529) nb557), (xv_a hg556 (xne (qb626 _ _ (qb608 _ _ hk596)) (qb626 _ _ hk611) (by decide))), (xv_n hg542 hk529 nb540), (xv_a hg539 (xne (qb626 _ _ (qb608 _ _ hk596)) (qb626 _ _ hk611) (by decide))), (xv_n hg526 (qb508 _ _ (qb492 _ _ (qb476 _ _ hk466))) nb524), (xv_a hg523 (xne (qb626 _ _ (qb608 _ _ hk596)) (qb626 _ _ hk611) (by decide))), (xv_n hg510 (qb492 _ _ (qb476 _ _ hk466)) nb508), (xv_a hg507 (xne (qb626 _ _ (qb608 _ _ hk596)) (qb626 _ _ hk611) (by decide))), (xv_n hg494 (qb476 _ _ hk466) nb492), (xv_a hg491 (xne (qb626 _ _ (qb608 _ _ hk596)) (qb626 _ _ hk611) (by decide))), (xv_n hg478 hk466 nb476), (xv_a hg475 (xne (qb626 _ _ (qb608 _ _ hk596)) (qb626 _ _ hk611) (by decide))), (xv_n hg463 (qb446 _ _ (qb431 _ _ (qb415 _ _ hk406))) nb461), (xv_a hg460 (xne (qb626 _ _ (qb608 _ _ hk596)) (qb626 _ _ hk611) (by decide))), (xv_n hg448 (qb431 _ _ (qb415 _ _ hk406)) nb446), (xv_a hg445 (xne (qb626 _ _ (qb608 _ _ hk596)) (qb626 _ _ hk611) (by decide))), (xv_n hg433 (qb415 _ _ hk406) nb431), (xv_a hg430 (xne (qb626 _ _ (qb608 _ _ hk596)) (qb626 _ _ hk611) (by decide))), (xv_a hg429 (xne (qb626 _ _ (qb608 _ _ hk596)) (qb626 _ _ hk611) (by decide))), (xv_n hg417 hk406 nb415), (xv_a hg414 (xne (qb626 _ _ (qb608 _ _ hk596)) (qb626 _ _ hk611) (by decide))), (xv_n hg403 (qb387 _ _ (qb373 _ _ (qb359 _ _ hk351))) nb401), (xv_a hg400 (xne (qb626 _ _ (qb608 _ _ hk596)) (qb626 _ _ hk611) (by decide))), (xv_n hg389 (qb373 _ _ (qb359 _ _ hk351)) nb387), (xv_a hg386 (xne (qb626 _ _ (qb608 _ _ hk596)) (qb626 _ _ hk611) (by decide))), (xv_n hg375 (qb359 _ _ hk351) nb373), (xv_a hg372 (xne (qb626 _ _ (qb608 _ _ hk596)) (qb626 _ _ hk611) (by decide))), (xv_n hg361 hk351 nb359), (xv_a hg358 (xne (qb626 _ _ (qb608 _ _ hk596)) (qb626 _ _ hk611) (by decide))), (xv_n hg348 (qb333 _ _ (qb320 _ _ (qb307 _ _ hk299))) nb346), (xv_a hg345 (xne (qb626 _ _ (qb608 _ _ hk596)) (qb626 _ _ hk611) (by decide))), (xv_n hg335 (qb320 _ _ (qb307 _ _ hk299)) nb333), (xv_a hg332 (xne (qb626 _ _ (qb608 _ _ hk596)) (qb626 _ _ hk611) (by decide))), (xv_n hg322 (qb307 _ _ hk299) nb320), (xv_a hg319 (xne (qb626 _ _ (qb608 _ _ hk596)) (qb626 _ _ hk611) (by decide))), (xv_n hg309 hk299 nb307), (xv_a hg306 (xne (qb626 _ _ (qb608 _ _ hk596)) (qb626 _ _ hk611) (by decide))), (xv_a hg305 (xne (qb626 _ _ (qb608 _ _ hk596)) (qb626 _ _ hk611) (by decide))), (xv_n hg296 (qb282 _ _ (qb270 _ _ (qb258 _ _ hk252))) nb294), (xv_a hg293 (xne (qb626 _ _ (qb608 _ _ hk596)) (qb626 _ _ hk611) (by decide))), (xv_n hg284 (qb270 _ _ (qb258 _ _ hk252)) nb282), (xv_a hg281 (xne (qb626 _ _ (qb608 _ _ hk596)) (qb626 _ _ hk611) (by decide))), (xv_n hg272 (qb258 _ _ hk252) nb270), (xv_a hg269 (xne (qb626 _ _ (qb608 _ _ hk596)) (qb626 _ _ hk611) (by decide))), (xv_n hg260 hk252 nb258), (xv_a hg257 (xne (qb626 _ _ (qb608 _ _ hk596)) (qb626 _ _ hk611) (by decide))), (xv_n hg249 (qb236 _ _ (qb225 _ _ (qb214 _ _ hk209))) nb247), (xv_a hg246 (xne (qb626 _ _ (qb608 _ _ hk596)) (qb626 _ _ hk611) (by decide))), (xv_n hg238 (qb225 _ _ (qb214 _ _ hk209)) nb236), (xv_a hg235 (xne (qb626 _ _ (qb608 _ _ hk596)) (qb626 _ _ hk611) (by decide))), (xv_n hg227 (qb214 _ _ hk209) nb225), (xv_a hg224 (xne (qb626 _ _ (qb608 _ _ hk596)) (qb626 _ _ hk611) (by decide))), (xv_n hg216 hk209 nb214), (xv_a hg213 (xne (qb626 _ _ (qb608 _ _ hk596)) (qb626 _ _ hk611) (by decide))), (xv_n hg206 (qb194 _ _ (qb183 _ _ (qb173 _ _ hk169))) nb204), (xv_a hg203 (xne (qb626 _ _ (qb608 _ _ hk596)) (qb626 _ _ hk611) (by decide))), (xv_n hg196 (qb183 _ _ (qb173 _ _ hk169)) nb194), (xv_a hg193 (xne (qb626 _ _ (qb608 _ _ hk596)) (qb626 _ _ hk611) (by decide))), (xv_a hg192 (xne (qb626 _ _ (qb608 _ _ hk596)) (qb626 _ _ hk611) (by decide))), (xv_n hg185 (qb173 _ _ hk169) nb183), (xv_a hg182 (xne (qb626 _ _ (qb608 _ _ hk596)) (qb626 _ _ hk611) (by decide))), (xv_n hg175 hk169 nb173), (xv_a hg172 (xne (qb626 _ _ (qb608 _ _ hk596)) (qb626 _ _ hk611) (by decide))), (xv_n hg166 (qb155 _ _ (qb146 _ _ (qb137 _ _ hk134))) nb164), (xv_a hg163 (xne (qb626 _ _ (qb608 _ _ hk596)) (qb626 _ _ hk611) (by decide))), (xv_n hg157 (qb146 _ _ (qb137 _ _ hk134)) nb155), (xv_a hg154 (xne (qb626 _ _ (qb608 _ _ hk596)) (qb626 _ _ hk611) (by decide))), (xv_n hg148 (qb137 _ _ hk134) nb146), (xv_a hg145 (xne (qb626 _ _ (qb608 _ _ hk596)) (qb626 _ _ hk611) (by decide))), (xv_n hg139 hk134 nb137), (xv_a hg136 (xne (qb626 _ _ (qb608 _ _ hk596)) (qb626 _ _ hk611) (by decide))), (xv_n hg131 (qb121 _ _ (qb113 _ _ (qb105 _ _ hk103))) nb129), (xv_a hg128 (xne (qb626 _ _ (qb608 _ _ hk596)) (qb626 _ _ hk611) (by decide))), (xv_n hg123 (qb113 _ _ (qb105 _ _ hk103)) nb121), (xv_a hg120 (xne (qb626 _ _ (qb608 _ _ hk596)) (qb626 _ _ hk611) (by decide))), (xv_n hg115 (qb105 _ _ hk103) nb113), (xv_a hg112 (xne (qb626 _ _ (qb608 _ _ hk596)) (qb626 _ _ hk611) (by decide))), (xv_n hg107 hk103 nb105), (xv_a hg104 (xne (qb626 _ _ (qb608 _ _ hk596)) (qb626 _ _ hk611) (by decide))), (xv_n hg100 (qb91 _ _ (qb84 _ _ (qb71 _ _ hs_b61))) nb98), (xv_a hg97 (xne (qb626 _ _ (qb608 _ _ hk596)) (qb626 _ _ hk611) (by decide))), (xv_n hg93 (qb84 _ _ (qb71 _ _ hs_b61)) nb91), (xv_a hg90 (xne (qb626 _ _ (qb608 _ _ hk596)) (qb626 _ _ hk611) (by decide))), (xv_n hg86 (qb71 _ _ hs_b61) nb84), (xv_a hg83 (xne (qb626 _ _ (qb608 _ _ hk596)) (qb626 _ _ hk611) (by decide))), (xv_a hg82 (xne (qb626 _ _ (qb608 _ _ hk596)) (qb626 _ _ hk614) (by decide))), (xv_a hg81 (xne (qb626 _ _ (qb608 _ _ hk596)) (qb626 _ _ hk614) (by decide))), (xv_a hg80 (xne (qb626 _ _ (qb608 _ _ hk596)) (qb626 _ _ hk614) (by decide))), (xv_a hg79 (xne (qb626 _ _ (qb608 _ _ hk596)) (qb626 _ _ hk614) (by decide))), (xv_a hg78 (xne (qb626 _ _ (qb608 _ _ hk596)) (qb626 _ _ hk614) (by decide))), (xv_a hg77 (xne (qb626 _ _ (qb608 _ _ hk596)) (qb626 _ _ hk614) (by decide))), (xv_n hg73 hs_b61 nb71), (xv_a hg70 (xne (qb626 _ _ (qb608 _ _ hk596)) (qb626 _ _ hk611) (by decide))), (xv_k (i := 2) hg69 (by omega) (by omega) (by omega)), xv_s hg68 (by omega)]) (show xv g645 b61 3 = 100 from by rw [(xv_a hg645 (xne (qb626 _ _ (qb608 _ _ hk596)) (qb626 _ _ hk611) (by decide))), (xv_a hg644 (xne (qb626 _ _ (qb608 _ _ hk596)) (qb626 _ _ hk611) (by decide))), (xv_a hg643 (xne (qb626 _ _ (qb608 _ _ hk596)) (qb626 _ _ hk611) (by decide))), (xv_n hg628 (qb608 _ _ hk596) nb626), (xv_a hg625 (xne (qb626 _ _ (qb608 _ _ hk596)) (qb626 _ _ hk611) (by decide))), (xv_n hg610 hk596 nb608), (xv_a hg607 (xne (qb626 _ _ (qb608 _ _ hk596)) (qb626 _ _ hk611) (by decide))), (xv_n hg593 (qb574 _ _ (qb557 _ _ (qb540 _ _ hk529))) nb591), (xv_a hg590 (xne (qb626 _ _ (qb608 _ _ hk596)) (qb626 _ _ hk611) (by decide))), (xv_n hg576 (qb557 _ _ (qb540 _ _ hk529)) nb574), (xv_a hg573 (xne (qb626 _ _ (qb608 _ _ hk596)) (qb626 _ _ hk611) (by decide))), (xv_n hg559 (qb540 _ _ hk529) nb557), (xv_a hg556 (xne (qb626 _ _ (qb608 _ _ hk596)) (qb626 _ _ hk611) (by decide))), (xv_n hg542 hk529 nb540), (xv_a hg539 (xne (qb626 _ _ (qb608 _ _ hk596)) (qb626 _ _ hk611) (by decide))), (xv_n hg526 (qb508 _ _ (qb492 _ _ (qb476 _ _ hk466))) nb524), (xv_a hg523 (xne (qb626 _ _ (qb608 _ _ hk596)) (qb626 _ _ hk611) (by decide))), (xv_n hg510 (qb492 _ _ (qb476 _ _ hk466)) nb508), (xv_a hg507 (xne (qb626 _ _ (qb608 _ _ hk596)) (qb626 _ _ hk611) (by decide))), (xv_n hg494 (qb476 _ _ hk466) nb492), (xv_a hg491 (xne (qb626 _ _ (qb608 _ _ hk596)) (qb626 _ _ hk611) (by decide))), (xv_n hg478 hk466 nb476), (xv_a hg475 (xne (qb626 _ _ (qb608 _ _ hk596)) (qb626 _ _ hk611) (by decide))), (xv_n hg463 (qb446 _ _ (qb431 _ _ (qb415 _ _ hk406))) nb461), (xv_a hg460 (xne (qb626 _ _ (qb608 _ _ hk596)) (qb626 _ _ hk611) (by decide))), (xv_n hg448 (qb431 _ _ (qb415 _ _ hk406)) nb446), (xv_a hg445 (xne (qb626 _ _ (qb608 _ _ hk596)) (qb626 _ _ hk611) (by decide))), (xv_n hg433 (qb415 _ _ hk406) nb431), (xv_a hg430 (xne (qb626 _ _ (qb608 _ _ hk596)) (qb626 _ _ hk611) (by decide))), (xv_a hg429 (xne (qb626 _ _ (qb608 _ _ hk596)) (qb626 _ _ hk611) (by decide))), (xv_n hg417 hk406 nb415), (xv_a hg414 (xne (qb626 _ _ (qb608 _ _ hk596)) (qb626 _ _ hk611) (by decide))), (xv_n hg403 (qb387 _ _ (qb373 _ _ (qb359 _ _ hk351))) nb401), (xv_a hg400 (xne (qb626 _ _ (qb608 _ _ hk596)) (qb626 _ _ hk611) (by decide))), (xv_n hg389 (qb373 _ _ (qb359 _ _ hk351)) nb387), (xv_a hg386 (xne (qb626 _ _ (qb608 _ _ hk596)) (qb626 _ _ hk611) (by decide))), (xv_n hg375 (qb359 _ _ hk351) nb373), (xv_a hg372 (xne (qb626 _ _ (qb608 _ _ hk596)) (qb626 _ _ hk611) (by decide))), (xv_n hg361 hk351 nb359), (xv_a hg358 (xne (qb626 _ _ (qb608 _ _ hk596)) (qb626 _ _ hk611) (by decide))), (xv_n hg348 (qb333 _ _ (qb320 _ _ (qb307 _ _ hk299))) nb346), (xv_a hg345 (xne (qb626 _ _ (qb608 _ _ hk596)) (qb626 _ _ hk611) (by decide))), (xv_n hg335 (qb320 _ _ (qb307 _ _ hk299)) nb333), (xv_a hg332 (xne (qb626 _ _ (qb608 _ _ hk596)) (qb626 _ _ hk611) (by decide))), (xv_n hg322 (qb307 _ _ hk299) nb320), (xv_a hg319 (xne (qb626 _ _ (qb608 _ _ hk596)) (qb626 _ _ hk611) (by decide))), (xv_n hg309 hk299 nb307), (xv_a hg306 (xne (qb626 _ _ (qb608 _ _ hk596)) (qb626 _ _ hk611) (by decide))), (xv_a hg305 (xne (qb626 _ _ (qb608 _ _ hk596)) (qb626 _ _ hk611) (by decide))), (xv_n hg296 (qb282 _ _ (qb270 _ _ (qb258 _ _ hk252))) nb294), (xv_a hg293 (xne (qb626 _ _ (qb608 _ _ hk596)) (qb626 _ _ hk611) (by decide))), (xv_n hg284 (qb270 _ _ (qb258 _ _ hk252)) nb282), (xv_a hg281 (xne (qb626 _ _ (qb608 _ _ hk596)) (qb626 _ _ hk611) (by decide))), (xv_n hg272 (qb258 _ _ hk252) nb270), (xv_a hg269 (xne (qb626 _ _ (qb608 _ _ hk596)) (qb626 _ _ hk611) (by decide))), (xv_n hg260 hk252 nb258), (xv_a hg257 (xne (qb626 _ _ (qb608 _ _ hk596)) (qb626 _ _ hk611) (by decide))), (xv_n hg249 (qb236 _ _ (qb225 _ _ (qb214 _ _ hk209))) nb247), (xv_a hg246 (xne (qb626 _ _ (qb608 _ _ hk596)) (qb626 _ _ hk611) (by decide))), (xv_n hg238 (qb225 _ _ (qb214 _ _ hk209)) nb236), (xv_a hg235 (xne (qb626 _ _ (qb608 _ _ hk596)) (qb626 _ _ hk611) (by decide))), (xv_n hg227 (qb214 _ _ hk209) nb225), (xv_a hg224 (xne (qb626 _ _ (qb608 _ _ hk596)) (qb626 _ _ hk611) (by decide))), (xv_n hg216 hk209 nb214), (xv_a hg213 (xne (qb626 _ _ (qb608 _ _ hk596)) (qb626 _ _ hk611) (by decide))), (xv_n hg206 (qb194 _ _ (qb183 _ _ (qb173 _ _ hk169))) nb204), (xv_a hg203 (xne (qb626 _ _ (qb608 _ _ hk596)) (qb626 _ _ hk611) (by decide))), (xv_n hg196 (qb183 _ _ (qb173 _ _ hk169)) nb194), (xv_a hg193 (xne (qb626 _ _ (qb608 _ _ hk596)) (qb626 _ _ hk611) (by decide))), (xv_a hg192 (xne (qb626 _ _ (qb608 _ _ hk596)) (qb626 _ _ hk611) (by decide))), (xv_n hg185 (qb173 _ _ hk169) nb183), (xv_a hg182 (xne (qb626 _ _ (qb608 _ _ hk596)) (qb626 _ _ hk611) (by decide))), (xv_n hg175 hk169 nb173), (xv_a hg172 (xne (qb626 _ _ (qb608 _ _ hk596)) (qb626 _ _ hk611) (by decide))), (xv_n hg166 (qb155 _ _ (qb146 _ _ (qb137 _ _ hk134))) nb164), (xv_a hg163 (xne (qb626 _ _ (qb608 _ _ hk596)) (qb626 _ _ hk611) (by decide))), (xv_n hg157 (qb146 _ _ (qb137 _ _ hk134)) nb155), (xv_a hg154 (xne (qb626 _ _ (qb608 _ _ hk596)) (qb626 _ _ hk611) (by decide))), (xv_n hg148 (qb137 _ _ hk134) nb146), (xv_a hg145 (xne (qb626 _ _ (qb608 _ _ hk596)) (qb626 _ _ hk611) (by decide))), (xv_n hg139 hk134 nb137), (xv_a hg136 (xne (qb626 _ _ (qb608 _ _ hk596)) (qb626 _ _ hk611) (by decide))), (xv_n hg131 (qb121 _ _ (qb113 _ _ (qb105 _ _ hk103))) nb129), (xv_a hg128 (xne (qb626 _ _ (qb608 _ _ hk596)) (qb626 _ _ hk611) (by decide))), (xv_n hg123 (qb113 _ _ (qb105 _ _ hk103)) nb121), (xv_a hg120 (xne (qb626 _ _ (qb608 _ _ hk596)) (qb626 _ _ hk611) (by decide))), (xv_n hg115 (qb105 _ _ hk103) nb113), (xv_a hg112 (xne (qb626 _ _ (qb608 _ _ hk596)) (qb626 _ _ hk611) (by decide))), (xv_n hg107 hk103 nb105), (xv_a hg104 (xne (qb626 _ _ (qb608 _ _ hk596)) (qb626 _ _ hk611) (by decide))), (xv_n hg100 (qb91 _ _ (qb84 _ _ (qb71 _ _ hs_b61))) nb98), (xv_a hg97 (xne (qb626 _ _ (qb608 _ _ hk596)) (qb626 _ _ hk611) (by decide))), (xv_n hg93 (qb84 _ _ (qb71 _ _ hs_b61)) nb91), (xv_a hg90 (xne (qb626 _ _ (qb608 _ _ hk596)) (qb626 _ _ hk611) (by decide))), (xv_n hg86 (qb71 _ _ hs_b61) nb84), (xv_a hg83 (xne (qb626 _ _ (qb608 _ _ hk596)) (qb626 _ _ hk611) (by decide))), (xv_a hg82 (xne (qb626 _ _ (qb608 _ _ hk596)) (qb626 _ _ hk614) (by decide))), (xv_a hg81 (xne (qb626 _ _ (qb608 _ _ hk596)) (qb626 _ _ hk614) (by decide))), (xv_a hg80 (xne (qb626 _ _ (qb608 _ _ hk596)) (qb626 _ _ hk614) (by decide))), (xv_a hg79 (xne (qb626 _ _ (qb608 _ _ hk596)) (qb626 _ _ hk614) (by decide))), (xv_a hg78 (xne (qb626 _ _ (qb608 _ _ hk596)) (qb626 _ _ hk614) (by decide))), (xv_a hg77 (xne (qb626 _ _ (qb608 _ _ hk596)) (qb626 _ _ hk614) (by decide))), (xv_n hg73 hs_b61 nb71), (xv_a hg70 (xne (qb626 _ _ (qb608 _ _ hk596)) (qb626 _ _ hk611) (by decide))), xv_s hg69 (by omega)])), ((xs_k hg645 (by decide)).trans ((xs_k hg644 (by decide)).trans ((xs_k hg643 (by decide)).trans ((xs_n hg628 hk611 nb626).trans ((xs_k hg625 (by decide)).trans ((xs_n hg610 (qb591 _ _ (qb574 _ _ (qb557 _ _ hk543))) nb608).trans ((xs_k hg607 (by decide)).trans ((xs_n hg593 (qb574 _ _ (qb557 _ _ hk543)) nb591).trans ((xs_k hg590 (by decide)).trans ((xs_n hg576 (qb557 _ _ hk543) nb574).trans ((xs_k hg573 (by decide)).trans ((xs_n hg559 hk543 nb557).trans ((xs_k hg556 (by decide)).trans ((xs_n hg542 (qb524 _ _ (qb508 _ _ (qb492 _ _ hk479))) nb540).trans ((xs_k hg539 (by decide)).trans ((xs_n hg526 (qb508 _ _ (qb492 _ _ hk479)) nb524).trans ((xs_k hg523 (by decide)).trans ((xs_n hg510 (qb492 _ _ hk479) nb508).trans ((xs_k hg507 (by decide)).trans ((xs_n hg494 hk479 nb492).trans ((xs_k hg491 (by decide)).trans ((xs_n hg478 (qb461 _ _ (qb446 _ _ (qb431 _ _ hk418))) nb476).trans ((xs_k hg475 (by decide)).trans ((xs_n hg463 (qb446 _ _ (qb431 _ _ hk418)) nb461).trans ((xs_k hg460 (by decide)).trans ((xs_n hg448 (qb431 _ _ hk418) nb446).trans ((xs_k hg445 (by decide)).trans ((xs_n hg433 hk418 nb431).trans ((xs_k hg430 (by decide)).trans ((xs_k hg429 (by decide)).trans ((xs_n hg417 (qb401 _ _ (qb387 _ _ (qb373 _ _ hk362))) nb415).trans ((xs_k hg414 (by decide)).trans ((xs_n hg403 (qb387 _ _ (qb373 _ _ hk362)) nb401).trans ((xs_k hg400 (by decide)).trans ((xs_n hg389 (qb373 _ _ hk362) nb387).trans ((xs_k hg386 (by decide)).trans ((xs_n hg375 hk362 nb373).trans ((xs_k hg372 (by decide)).trans ((xs_n hg361 (qb346 _ _ (qb333 _ _ (qb320 _ _ hk310))) nb359).trans ((xs_k hg358 (by decide)).trans ((xs_n hg348 (qb333 _ _ (qb320 _ _ hk310)) nb346).trans ((xs_k hg345 (by decide)).trans ((xs_n hg335 (qb320 _ _ hk310) nb333).trans ((xs_k hg332 (by decide)).trans ((xs_n hg322 hk310 nb320).trans ((xs_k hg319 (by decide)).trans ((xs_n hg309 (qb294 _ _ (qb282 _ _ (qb270 _ _ hk261))) nb307).trans ((xs_k hg306 (by decide)).trans ((xs_k hg305 (by decide)).trans ((xs_n hg296 (qb282 _ _ (qb270 _ _ hk261)) nb294).trans ((xs_k hg293 (by decide)).trans ((xs_n hg284 (qb270 _ _ hk261) nb282).trans ((xs_k hg281 (by decide)).trans ((xs_n hg272 hk261 nb270).trans ((xs_k hg269 (by decide)).trans ((xs_n hg260 (qb247 _ _ (qb236 _ _ (qb225 _ _ hk217))) nb258).trans ((xs_k hg257 (by decide)).trans ((xs_n hg249 (qb236 _ _ (qb225 _ _ hk217)) nb247).trans ((xs_k hg246 (by decide)).trans ((xs_n hg238 (qb225 _ _ hk217) nb236).trans ((xs_k hg235 (by decide)).trans ((xs_n hg227 hk217 nb225).trans ((xs_k hg224 (by decide)).trans ((xs_n hg216 (qb204 _ _ (qb194 _ _ (qb183 _ _ hk176))) nb214).trans ((xs_k hg213 (by decide)).trans ((xs_n hg206 (qb194 _ _ (qb183 _ _ hk176)) nb204).trans ((xs_k hg203 (by decide)).trans ((xs_n hg196 (qb183 _ _ hk176) nb194).trans ((xs_k hg193 (by decide)).trans ((xs_k hg192 (by decide)).trans ((xs_n hg185 hk176 nb183).trans ((xs_k hg182 (by decide)).trans ((xs_n hg175 (qb164 _ _ (qb155 _ _ (qb146 _ _ hk140))) nb173).trans ((xs_k hg172 (by decide)).trans ((xs_n hg166 (qb155 _ _ (qb146 _ _ hk140)) nb164).trans ((xs_k hg163 (by decide)).trans ((xs_n hg157 (qb146 _ _ hk140) nb155).trans ((xs_k hg154 (by decide)).trans ((xs_n hg148 hk140 nb146).trans ((xs_k hg145 (by decide)).trans ((xs_n hg139 (qb129 _ _ (qb121 _ _ (qb113 _ _ hk108))) nb137).trans ((xs_k hg136 (by decide)).trans ((xs_n hg131 (qb121 _ _ (qb113 _ _ hk108)) nb129).trans ((xs_k hg128 (by decide)).trans ((xs_n hg123 (qb113 _ _ hk108) nb121).trans ((xs_k hg120 (by decide)).trans ((xs_n hg115 hk108 nb113).trans ((xs_k hg112 (by decide)).trans ((xs_n hg107 (qb98 _ _ (qb91 _ _ (qb84 _ _ hk74))) nb105).trans ((xs_k hg104 (by decide)).trans ((xs_n hg100 (qb91 _ _ (qb84 _ _ hk74)) nb98).trans ((xs_k hg97 (by decide)).trans ((xs_n hg93 (qb84 _ _ hk74) nb91).trans ((xs_k hg90 (by decide)).trans ((xs_n hg86 hk74 nb84).trans (xs_s hg83)))))))))))))))))))))))))))))))))))))))))))))))))))))))))))))))))))))))))))))))))))))))))))))))), (qb626 _ _ hk614), (x6all (show xv g645 b71 0 = 100 from by rw [(xv_a hg645 (xne (qb626 _ _ hk614) (qb626 _ _ hk611) (by decide))), (xv_a hg644 (xne (qb626 _ _ hk614) (qb626 _ _ hk611) (by decide))), (xv_a hg643 (xne (qb626 _ _ hk614) (qb626 _ _ hk611) (by decide))), (xv_n hg628 hk614 nb626), (xv_a hg625 (xne (qb626 _ _ hk614) (qb626 _ _ hk611) (by decide))), (xv_n hg610 (qb591 _ _ (qb574 _ _ (qb557 _ _ hk546))) nb608), (xv_a hg607 (xne (qb626 _ _ hk614) (qb626 _ _ hk611) (by decide))), (xv_n hg593 (qb574 _ _ (qb557 _ _ hk546)) nb591), (xv_a hg590 (xne (qb626 _ _ hk614) (qb626 _ _ hk611) (by decide))), (xv_n hg576 (qb557 _ _ hk546) nb574), (xv_a hg573 (xne (qb626 _ _ hk614) (qb626 _ _ hk611) (by decide))), (xv_n hg559 hk546 nb557), (xv_a hg556 (xne (qb626 _ _ hk614) (qb626 _ _ hk611) (by decide))), (xv_n hg542 (qb524 _ _ (qb508 _ _ (qb492 _ _ hk482))) nb540), (xv_a hg539 (xne (qb626 _ _ hk614) (qb626 _ _ hk611) (by decide))), (xv_n hg526 (qb508 _ _ (qb492 _ _ hk482)) nb524), (xv_a hg523 (xne (qb626 _ _ hk614) (qb626 _ _ hk611) (by decide))), (xv_n hg510 (qb492 _ _ hk482) nb508), (xv_a hg507 (xne (qb626 _ _ hk614) (qb626 _ _ hk611) (by decide))), (xv_n hg494 hk482 nb492), (xv_a hg491 (xne (qb626 _ _ hk614) (qb626 _ _ hk611) (by decide))), (xv_n hg478 (qb461 _ _ (qb446 _ _ (qb431 _ _ hk421))) nb476), (xv_a hg475 (xne (qb626 _ _ hk614) (qb626 _ _ hk611) (by decide))), (xv_n hg463 (qb446 _ _ (qb431 _ _ hk421)) nb461), (xv_a hg460 (xne (qb626 _ _ hk614) (qb626 _ _ hk611) (by decide))), (xv_n hg448 (qb431 _ _ hk421) nb446), (xv_a hg445 (xne (qb626 _ _ hk614) (qb626 _ _ hk611) (by decide))), (xv_n hg433 hk421 nb431), (xv_a hg430 (xne (qb626 _ _ hk614) (qb626 _ _ hk611) (by decide))), (xv_a hg429 (xne (qb626 _ _ hk614) (qb626 _ _ hk611) (by decide))), (xv_n hg417 (qb401 _ _ (qb387 _ _ (qb373 _ _ hk365))) nb415), (xv_a hg414 (xne (qb626 _ _ hk614) (qb626 _ _ hk611) (by decide))), (xv_n hg403 (qb387 _ _ (qb373 _ _ hk365)) nb401), (xv_a hg400 (xne (qb626 _ _ hk614) (qb626 _ _ hk611) (by decide))), (xv_n hg389 (qb373 _ _ hk365) nb387), (xv_a hg386 (xne (qb626 _ _ hk614) (qb626 _ _ hk611) (by decide))), (xv_n hg375 hk365 nb373), (xv_a hg372 (xne (qb626 _ _ hk614) (qb626 _ _ hk611) (by decide))), (xv_n hg361 (qb346 _ _ (qb333 _ _ (qb320 _ _ hk313))) nb359), (xv_a hg358 (xne (qb626 _ _ hk614) (qb626 _ _ hk611) (by decide))), (xv_n hg348 (qb333 _ _ (qb320 _ _ hk313)) nb346), (xv_a hg345 (xne (qb626 _ _ hk614) (qb626 _ _ hk611) (by decide))), (xv_n hg335 (qb320 _ _ hk313) nb333), (xv_a hg332 (xne (qb626 _ _ hk614) (qb626 _ _ hk611) (by decide))), (xv_n hg322 hk313 nb320), (xv_a hg319 (xne (qb626 _ _ hk614) (qb626 _ _ hk611) (by decide))), (xv_n hg309 (qb294 _ _ (qb282 _ _ (qb270 _ _ hk264))) nb307), (xv_a hg306 (xne (qb626 _ _ hk614) (qb626 _ _ hk611) (by decide))), (xv_a hg305 (xne (qb626 _ _ hk614) (qb626 _ _ hk611) (by decide))), (xv_n hg296 (qb282 _ _ (qb270 _ _ hk264)) nb294), (xv_a hg293 (xne (qb626 _ _ hk614) (qb626 _ _ hk611) (by decide))), (xv_n hg284 (qb270 _ _ hk264) nb282), (xv_a hg281 (xne (qb626 _ _ hk614) (qb626 _ _ hk611) (by decide))), (xv_n hg272 hk264 nb270), (xv_a hg269 (xne (qb626 _ _ hk614) (qb626 _ _ hk611) (by decide))), (xv_n hg260 (qb247 _ _ (qb236 _ _ (qb225 _ _ hk220))) nb258), (xv_a hg257 (xne (qb626 _ _ hk614) (qb626 _ _ hk611) (by decide))), (xv_n hg249 (qb236 _ _ (qb225 _ _ hk220)) nb247), (xv_a hg246 (xne (qb626 _ _ hk614) (qb626 _ _ hk611) (by decide))), (xv_n hg238 (qb225 _ _ hk220) nb236), (xv_a hg235 (xne (qb626 _ _ hk614) (qb626 _ _ hk611) (by decide))), (xv_n hg227 hk220 nb225), (xv_a hg224 (xne (qb626 _ _ hk614) (qb626 _ _ hk611) (by decide))), (xv_n hg216 (qb204 _ _ (qb194 _ _ (qb183 _ _ hk179))) nb214), (xv_a hg213 (xne (qb626 _ _ hk614) (qb626 _ _ hk611) (by decide))), (xv_n hg206 (qb194 _ _ (qb183 _ _ hk179)) nb204), (xv_a hg203 (xne (qb626 _ _ hk614) (qb626 _ _ hk611) (by decide))), (xv_n hg196 (qb183 _ _ hk179) nb194), (xv_a hg193 (xne (qb626 _ _ hk614) (qb626 _ _ hk611) (by decide))), (xv_a hg192 (xne (qb626 _ _ hk614) (qb626 _ _ hk611) (by decide))), (xv_n hg185 hk179 nb183), (xv_a hg182 (xne (qb626 _ _ hk614) (qb626 _ _ hk611) (by decide))), (xv_n hg175 (qb164 _ _ (qb155 _ _ (qb146 _ _ hk143))) nb173), (xv_a hg172 (xne (qb626 _ _ hk614) (qb626 _ _ hk611) (by decide))), (xv_n hg166 (qb155 _ _ (qb146 _ _ hk143)) nb164), (xv_a hg163 (xne (qb626 _ _ hk614) (qb626 _ _ hk611) (by decide))), (xv_n hg157 (qb146 _ _ hk143) nb155), (xv_a hg154 (xne (qb626 _ _ hk614) (qb626 _ _ hk611) (by decide))), (xv_n hg148 hk143 nb146), (xv_a hg145 (xne (qb626 _ _ hk614) (qb626 _ _ hk611) (by decide))), (xv_n hg139 (qb129 _ _ (qb121 _ _ (qb113 _ _ hk111))) nb137), (xv_a hg136 (xne (qb626 _ _ hk614) (qb626 _ _ hk611) (by decide))), (xv_n hg131 (qb121 _ _ (qb113 _ _ hk111)) nb129), (xv_a hg128 (xne (qb626 _ _ hk614) (qb626 _ _ hk611) (by decide))), (xv_n hg123 (qb113 _ _ hk111) nb121), (xv_a hg120 (xne (qb626 _ _ hk614) (qb626 _ _ hk611) (by decide))), (xv_n hg115 hk111 nb113), (xv_a hg112 (xne (qb626 _ _ hk614) (qb626 _ _ hk611) (by decide))), (xv_n hg107 (qb98 _ _ (qb91 _ _ (qb84 _ _ hs_b71))) nb105), (xv_a hg104 (xne (qb626 _ _ hk614) (qb626 _ _ hk611) (by decide))), (xv_n hg100 (qb91 _ _ (qb84 _ _ hs_b71)) nb98), (xv_a hg97 (xne (qb626 _ _ hk614) (qb626 _ _ hk611) (by decide))), (xv_n hg93 (qb84 _ _ hs_b71) nb91), (xv_a hg90 (xne (qb626 _ _ hk614) (qb626 _ _ hk611) (by decide))), (xv_n hg86 hs_b71 nb84), (xv_a hg83 (xne (qb626 _ _ hk614) (qb626 _ _ hk611) (by decide))), (xv_k (i := 0) hg82 (by omega) (by omega) (by omega)), (xv_k (i := 0) hg81 (by omega) (by omega) (by omega)), (xv_k (i := 0) hg80 (by omega) (by omega) (by omega)), (xv_k (i := 0) hg79 (by omega) (by omega) (by omega)), (xv_k (i := 0) hg78 (by omega) (by omega) (by omega)), xv_s hg77 (by omega)]) (show xv g645 b71 1 = 100 from by rw [(xv_a hg645 (xne (qb626 _ _ hk614) (qb626 _ _ hk611) (by decide))), (xv_a hg644 (xne (qb626 _ _ hk614) (qb626 _ _ hk611) (by decide))), (xv_a hg643 (xne (qb626 _ _ hk614) (qb626 _ _ hk611) (by decide))), (xv_n hg628 hk614 nb626), (xv_a hg625 (xne (qb626 _ _ hk614) (qb626 _ _ hk611) (by decide))), (xv_n hg610 (qb591 _ _ (qb574 _ _ (qb557 _ _ hk546))) nb608), (xv_a hg607 (xne (qb626 _ _ hk614) (qb626 _ _ hk611) (by decide))), (xv_n hg593 (qb574 _ _ (qb557 _ _ hk546)) nb591), (xv_a hg590 (xne (qb626 _ _ hk614) (qb626 _ _ hk611) (by decide))), (xv_n hg576 (qb557 _ _ hk546) nb574), (xv_a hg573 (xne (qb626 _ _ hk614) (qb626 _ _ hk611) (by decide))), (xv_n hg559 hk546 nb557), (xv_a hg556 (xne (qb626 _ _ hk614) (qb626 _ _ hk611) (by decide))), (xv_n hg542 (qb524 _ _ (qb508 _ _ (qb492 _ _ hk482))) nb540), (xv_a hg539 (xne (qb626 _ _ hk614) (qb626 _ _ hk611) (by decide))), (xv_n hg526 (qb508 _ _ (qb492 _ _ hk482)) nb524), (xv_a hg523 (xne (qb626 _ _ hk614) (qb626 _ _ hk611) (by decide))), (xv_n hg510 (qb492 _ _ hk482) nb508), (xv_a hg507 (xne (qb626 _ _ hk614) (qb626 _ _ hk611) (by decide))), (xv_n hg494 hk482 nb492), (xv_a hg491 (xne (qb626 _ _ hk614) (qb626 _ _ hk611) (by decide))), (xv_n hg478 (qb461 _ _ (qb446 _ _ (qb431 _ _ hk421))) nb476), (xv_a hg475 (xne (qb626 _ _ hk614) (qb626 _ _ hk611) (by decide))), (xv_n hg463 (qb446 _ _ (qb431 _ _ hk421)) nb461), (xv_a hg460 (xne (qb626 _ _ hk614) (qb626 _ _ hk611) (by decide))), (xv_n hg448 (qb431 _ _ hk421) nb446), (xv_a hg445 (xne (qb626 _ _ hk614) (qb626 _ _ hk611) (by decide))), (xv_n hg433 hk421 nb431), (xv_a hg430 (xne (qb626 _ _ hk614) (qb626 _ _ hk611) (by decide))), (xv_a hg429 (xne (qb626 _ _ hk614) (qb626 _ _ hk611) (by decide))), (xv_n hg417 (qb401 _ _ (qb387 _ _ (qb373 _ _ hk365))) nb415), (xv_a hg414 (xne (qb626 _ _ hk614) (qb626 _ _ hk611) (by decide))), (xv_n hg403 (qb387 _ _ (qb373 _ _ hk365)) nb401), (xv_a hg400 (xne (qb626 _ _ hk614) (qb626 _ _ hk611) (by decide))), (xv_n hg389 (qb373 _ _ hk365) nb387), (xv_a hg386 (xne (qb626 _ _ hk614) (qb626 _ _ hk611) (by decide))), (xv_n hg375 hk365 nb373), (xv_a hg372 (xne (qb626 _ _ hk614) (qb626 _ _ hk611) (by decide))), (xv_n hg361 (qb346 _ _ (qb333 _ _ (qb320 _ _ hk313))) nb359), (xv_a hg358 (xne (qb626 _ _ hk614) (qb626 _ _ hk611) (by decide))), (xv_n hg348 (qb333 _ _ (qb320 _ _ hk313)) nb346), (xv_a hg345 (xne (qb626 _ _ hk614) (qb626 _ _ hk611) (by decide))), (xv_n hg335 (qb320 _ _ hk313) nb333), (xv_a hg332 (xne (qb626 _ _ hk614) (qb626 _ _ hk611) (by decide))), (xv_n hg322 hk313 nb320), (xv_a hg319 (xne (qb626 _ _ hk614) (qb626 _ _ hk611) (by decide))), (xv_n hg309 (qb294 _ _ (qb282 _ _ (qb270 _ _ hk264))) nb307), (xv_a hg306 (xne (qb626 _ _ hk614) (qb626 _ _ hk611) (by decide))), (xv_a hg305 (xne (qb626 _ _ hk614) (qb626 _ _ hk611) (by decide))), (xv_n hg296 (qb282 _ _ (qb270 _ _ hk264)) nb294), (xv_a hg293 (xne (qb626 _ _ hk614) (qb626 _ _ hk611) (by decide))), (xv_n hg284 (qb270 _ _ hk264) nb282), (xv_a hg281 (xne (qb626 _ _ hk614) (qb626 _ _ hk611) (by decide))), (xv_n hg272 hk264 nb270), (xv_a hg269 (xne (qb626 _ _ hk614) (qb626 _ _ hk611) (by decide))), (xv_n hg260 (qb247 _ _ (qb236 _ _ (qb225 _ _ hk220))) nb258), (xv_a hg257 (xne (qb626 _ _ hk614) (qb626 _ _ hk611) (by decide))), (xv_n hg249 (qb236 _ _ (qb225 _ _ hk220)) nb247), (xv_a hg246 (xne (qb626 _ _ hk614) (qb626 _ _ hk611) (by decide))), (xv_n hg238 (qb225 _ _ hk220) nb236), (xv_a hg235 (xne (qb626 _ _ hk614) (qb626 _ _ hk611) (by decide))), (xv_n hg227 hk220 nb225), (xv_a hg224 (xne (qb626 _ _ hk614) (qb626 _ _ hk611) (by decide))), (xv_n hg216 (qb204 _ _ (qb194 _ _ (qb183 _ _ hk179))) nb214), (xv_a hg213 (xne (qb626 _ _ hk614) (qb626 _ _ hk611) (by decide))), (xv_n hg206 (qb194 _ _ (qb183 _ _ hk179)) nb204), (xv_a hg203 (xne (qb626 _ _ hk614) (qb626 _ _ hk611) (by decide))), (xv_n hg196 (qb183 _ _ hk179) nb194), (xv_a hg193 (xne (qb626 _ _ hk614) (qb626 _ _ hk611) (by decide))), (xv_a hg192 (xne (qb626 _ _ hk614) (qb626 _ _ hk611) (by decide))), (xv_n hg185 hk179 nb183), (xv_a hg182 (xne (qb626 _ _ hk614) (qb626 _ _ hk611) (by decide))), (xv_n hg175 (qb164 _ _ (qb155 _ _ (qb146 _ _ hk143))) nb173), (xv_a hg172 (xne (qb626 _ _ hk614) (qb626 _ _ hk611) (by decide))), (xv_n hg166 (qb155 _ _ (qb146 _ _ hk143)) nb164), (xv_a hg163 (xne (qb626 _ _ hk614) (qb626 _ _ hk611) (by decide))), (xv_n hg157 (qb146 _ _ hk143) nb155), (xv_a hg154 (xne (qb626 _ _ hk614) (qb626 _ _ hk611) (by decide))), (xv_n hg148 hk143 nb146), (xv_a hg145 (xne (qb626 _ _ hk614) (qb626 _ _ hk611) (by decide))), (xv_n hg139 (qb129 _ _ (qb121 _ _ (qb113 _ _ hk111))) nb137), (xv_a hg136 (xne (qb626 _ _ hk614) (qb626 _ _ hk611) (by decide))), (xv_n hg131 (qb121 _ _ (qb113 _ _ hk111)) nb129), (xv_a hg128 (xne (qb626 _ _ hk614) (qb626 _ _ hk611) (by decide))), (xv_n hg123 (qb113 _ _ hk111) nb121), (xv_a hg120 (xne (qb626 _ _ hk614) (qb626 _ _ hk611) (by decide))), (xv_n hg115 hk111 nb113), (xv_a hg112 (xne (qb626 _ _ hk614) (qb626 _ _ hk611) (by decide))), (xv_n hg107 (qb98 _ _ (qb91 _ _ (qb84 _ _ hs_b71))) nb105), (xv_a hg104 (xne (qb626 _ _ hk614) (qb626 _ _ hk611) (by decide))), (xv_n hg100 (qb91 _ _ (qb84 _ _ hs_b71)) nb98), (xv_a hg97 (xne (qb626 _ _ hk614) (qb626 _ _ hk611) (by decide))), (xv_n hg93 (qb84 _ _ hs_b71) nb91), (xv_a hg90 (xne (qb626 _ _ hk614) (qb626 _ _ hk611) (by decide))), (xv_n hg86 hs_b71 nb84), (xv_a hg83 (xne (qb626 _ _ hk614) (qb626 _ _ hk611) (by decide))), (xv_k (i := 1) hg82 (by omega) (by omega) (by omega)), (xv_k (i := 1) hg81 (by omega) (by omega) (by omega)), (xv_k (i := 1) hg80 (by omega) (by omega) (by omega)), (xv_k (i := 1) hg79 (by omega) (by omega) (by omega)), xv_s hg78 (by omega)]) (show xv g645 b71 2 = 100 from by rw [(xv_a hg645 (xne (qb626 _ _ hk614) (qb626 _ _ hk611) (by decide))), (xv_a hg644 (xne (qb626 _ _ hk614) (qb626 _ _ hk611) (by decide))), (xv_a hg643 (xne (qb626 _ _ hk614) (qb626 _ _ hk611) (by decide))), (xv_n hg628 hk614 nb626), (xv_a hg625 (xne (qb626 _ _ hk614) (qb626 _ _ hk611) (by decide))), (xv_n hg610 (qb591 _ _ (qb574 _ _ (qb557 _ _ hk546))) nb608), (xv_a hg607 (xne (qb626 _ _ hk614) (qb626 _ _ hk611) (by decide))), (xv_n hg593 (qb574 _ _ (qb557 _ _ hk546)) nb591), (xv_a hg590 (xne (qb626 _ _ hk614) (qb626 _ _ hk611) (by decide))), (xv_n hg576 (qb557 _ _ hk546) nb574), (xv_a hg573 (xne (qb626 _ _ hk614) (qb626 _ _ hk611) (by decide))), (xv_n hg559 hk546 nb557), (xv_a hg556 (xne (qb626 _ _ hk614) (qb626 _ _ hk611) (by decide))), (xv_n hg542 (qb524 _ _ (qb508 _ _ (qb492 _ _ hk482))) nb540), (xv_a hg539 (xne (qb626 _ _ hk614) (qb626 _ _ hk611) (by decide))), (xv_n hg526 (qb508 _ _ (qb492 _ _ hk482)) nb524), (xv_a hg523 (xne (qb626 _ _ hk614) (qb626 _ _ hk611) (by decide))), (xv_n hg510 (qb492 _ _ hk482) nb508), (xv_a hg507 (xne (qb626 _ _ hk614) (qb626 _ _ hk611) (by decide))), (xv_n hg494 hk482 nb492), (xv_a hg491 (xne (qb626 _ _ hk614) (qb626 _ _ hk611) (by decide))), (xv_n hg478 (qb461 _ _ (qb446 _ _ (qb431 _ _ hk421))) nb476), (xv_a hg475 (xne (qb626 _ _ hk614) (qb626 _ _ hk611) (by decide))), (xv_n hg463 (qb446 _ _ (qb431 _ _ hk421)) nb461), (xv_a hg460 (xne (qb626 _ _ hk614) (qb626 _ _ hk611) (by decide))), (xv_n hg448 (qb431 _ _ hk421) nb446), (xv_a hg445 (xne (qb626 _ _ hk614) (qb626 _ _ hk611) (by decide))), (xv_n hg433 hk421 nb431), (xv_a hg430 (xne (qb626 _ _ hk614) (qb626 _ _ hk611) (by decide))), (xv_a hg429 (xne (qb626 _ _ hk614) (qb626 _ _ hk611) (by decide))), (xv_n hg417 (qb401 _ _ (qb387 _ _ (qb373 _ _ hk365))) nb415), (xv_a hg414 (xne (qb626 _ _ hk614) (qb626 _ _ hk611) (by decide))), (xv_n hg403 (qb387 _ _ (qb373 _ _ hk365)) nb401), (xv_a hg400 (xne (qb626 _ _ hk614) (qb626 _ _ hk611) (by decide))), (xv_n hg389 (qb373 _ _ hk365) nb387), (xv_a hg386 (xne (qb626 _ _ hk614) (qb626 _ _ hk611) (by decide))), (xv_n hg375 hk365 nb373), (xv_a hg372 (xne (qb626 _ _ hk614) (qb626 _ _ hk611) (by decide))), (xv_n hg361 (qb346 _ _ (qb333 _ _ (qb320 _ _ hk313))) nb359), (xv_a hg358 (xne (qb626 _ _ hk614) (qb626 _ _ hk611) (by decide))), (xv_n hg348 (qb333 _ _ (qb320 _ _ hk313)) nb346), (xv_a hg345 (xne (qb626 _ _ hk614) (qb626 _ _ hk611) (by decide))), (xv_n hg335 (qb320 _ _ hk313) nb333), (xv_a hg332 (xne (qb626 _ _ hk614) (qb626 _ _ hk611) (by decide))), (xv_n hg322 hk313 nb320), (xv_a hg319 (xne (qb626 _ _ hk614) (qb626 _ _ hk611) (by decide))), (xv_n hg309 (qb294 _ _ (qb282 _ _ (qb270 _ _ hk264))) nb307), (xv_a hg306 (xne (qb626 _ _ hk614) (qb626 _ _ hk611) (by decide))), (xv_a hg305 (xne (qb626 _ _ hk614) (qb626 _ _ hk611) (by decide))), (xv_n hg296 (qb282 _ _ (qb270 _ _ hk264)) nb294), (xv_a hg293 (xne (qb626 _ _ hk614) (qb626 _ _ hk611) (by decide))), (xv_n hg284 (qb270 _ _ hk264) nb282), (xv_a hg281 (xne (qb626 _ _ hk614) (qb626 _ _ hk611) (by decide))), (xv_n hg272 hk264 nb270), (xv_a hg269 (xne (qb626 _ _ hk614) (qb626 _ _ hk611) (by decide))), (xv_n hg260 (qb247 _ _ (qb236 _ _ (qb225 _ _ hk220))) nb258), (xv_a hg257 (xne (qb626 _ _ hk614) (qb626 _ _ hk611) (by decide))), (xv_n hg249 (qb236 _ _ (qb225 _ _ hk220)) nb247), (xv_a hg246 (xne (qb626 _ _ hk614) (qb626 _ _ hk611) (by decide))), (xv_n hg238 (qb225 _ _ hk220) nb236), (xv_a hg235 (xne (qb626 _ _ hk614) (qb626 _ _ hk611) (by decide))), (xv_n hg227 hk220 nb225), (xv_a hg224 (xne (qb626 _ _ hk614) (qb626 _ _ hk611) (by decide))), (xv_n hg216 (qb204 _ _ (qb194 _ _ (qb183 _ _ hk179))) nb214), (xv_a hg213 (xne (qb626 _ _ hk614) (qb626 _ _ hk611) (by decide))), (xv_n hg206 (qb194 _ _ (qb183 _ _ hk179)) nb204), (xv_a hg203 (xne (qb626 _ _ hk614) (qb626 _ _ hk611) (by decide))), (xv_n hg196 (qb183 _ _ hk179) nb194), (xv_a hg193 (xne (qb626 _ _ hk614) (qb626 _ _ hk611) (by decide))), (xv_a hg192 (xne (qb626 _ _ hk614) (qb626 _ _ hk611) (by decide))), (xv_n hg185 hk179 nb183), (xv_a hg182 (xne (qb626 _ _ hk614) (qb626 _ _ hk611) (by decide))), (xv_n hg175 (qb164 _ _ (qb155 _ _ (qb146 _ _ hk143))) nb173), (xv_a hg172 (xne (qb626 _ _ hk614) (qb626 _ _ hk611) (by decide))), (xv_n hg166 (qb155 _ _ (qb146 _ _ hk143)) nb164), (xv_a hg163 (xne (qb626 _ _ hk614) (qb626 _ _ hk611) (by decide))), (xv_n hg157 (qb146 _ _ hk143) nb155), (xv_a hg154 (xne (qb626 _ _ hk614) (qb626 _ _ hk611) (by decide))), (xv_n hg148 hk143 nb146), (xv_a hg145 (xne (qb626 _ _ hk614) (qb626 _ _ hk611) (by decide))), (xv_n hg139 (qb129 _ _ (qb121 _ _ (qb113 _ _ hk111))) nb137), (xv_a hg136 (xne (qb626 _ _ hk614) (qb626 _ _ hk611) (by decide))), (xv_n hg131 (qb121 _ _ (qb113 _ _ hk111)) nb129), (xv_a hg128 (xne (qb626 _ _ hk614) (qb626 _ _ hk611) (by decide))), (xv_n hg123 (qb113 _ _ hk111) nb121), (xv_a hg120 (xne (qb626 _ _ hk614) (qb626 _ _ hk611) (by decide))), (xv_n hg115 hk111 nb113), (xv_a hg112 (xne (qb626 _ _ hk614) (qb626 _ _ hk611) (by decide))), (xv_n hg107 (qb98 _ _ (qb91 _ _ (qb84 _ _ hs_b71))) nb105), (xv_a hg104 (xne (qb626 _ _ hk614) (qb626 _ _ hk611) (by decide))), (xv_n hg100 (qb91 _ _ (qb84 _ _ hs_b71)) nb98), (xv_a hg97 (xne (qb626 _ _ hk614) (qb626 _ _ hk611) (by decide))), (xv_n hg93 (qb84 _ _ hs_b71) nb91), (xv_a hg90 (xne (qb626 _ _ hk614) (qb626 _ _ hk611) (by decide))), (xv_n hg86 hs_b71 nb84), (xv_a hg83 (xne (qb626 _ _ hk614) (qb626 _ _ hk611) (by decide))), (xv_k (i := 2) hg82 (by omega) (by omega) (by omega)), (xv_k (i := 2) hg81 (by omega) (by omega) (by omega)), (xv_k (i := 2) hg80 (by omega) (by omega) (by omega)), xv_s hg79 (by omega)]) (show xv g645 b71 3 = 100 from by rw [(xv_a hg645 (xne (qb626 _ _ hk614) (qb626 _ _ hk611) (by decide))), (xv_a hg644 (xne (qb626 _ _ hk614) (qb626 _ _ hk611) (by decide))), (xv_a hg643 (xne (qb626 _ _ hk614) (qb626 _ _ hk611) (by decide))), (xv_n hg628 hk614 nb626), (xv_a hg625 (xne (qb626 _ _ hk614) (qb626 _ _ hk611) (by decide))), (xv_n hg610 (qb591 _ _ (qb574 _ _ (qb557 _ _ hk546))) nb608), (xv_a hg607 (xne (qb626 _ _ hk614) (qb626 _ _ hk611) (by decide))), (xv_n hg593 (qb574 _ _ (qb557 _ _ hk546)) nb591), (xv_a hg590 (xne (qb626 _ _ hk614) (qb626 _ _ hk611) (by decide))), (xv_n hg576 (qb557 _ _ hk546) nb574), (xv_a hg573 (xne (qb626 _ _ hk614) (qb626 _ _ hk611) (by decide))), (xv_n hg559 hk546 nb557), (xv_a hg556 (xne (qb626 _ _ hk614) (qb626 _ _ hk611) (by decide))), (xv_n hg542 (qb524 _ _ (qb508 _ _ (qb492 _ _ hk482))) nb540), (xv_a hg539 (xne (qb626 _ _ hk614) (qb626 _ _ hk611) (by decide))), (xv_n hg526 (qb508 _ _ (qb492 _ _ hk482)) nb524), (xv_a hg523 (xne (qb626 _ _ hk614) (qb626 _ _ hk611) (by decide))), (xv_n hg510 (qb492 _ _ hk482) nb508), (xv_a hg507 (xne (qb626 _ _ hk614) (qb626 _ _ hk611) (by decide))), (xv_n hg494 hk482 nb492), (xv_a hg491 (xne (qb626 _ _ hk614) (qb626 _ _ hk611) (by decide))), (xv_n hg478 (qb461 _ _ (qb446 _ _ (qb431 _ _ hk421))) nb476), (xv_a hg475 (xne (qb626 _ _ hk614) (qb626 _ _ hk611) (by decide))), (xv_n hg463 (qb446 _ _ (qb431 _ _ hk421)) nb461), (xv_a hg460 (xne (qb626 _ _ hk614) (qb626 _ _ hk611) (by decide))), (xv_n hg448 (qb431 _ _ hk421) nb446), (xv_a hg445 (xne (qb626 _ _ hk614) (qb626 _ _ hk611) (by decide))), (xv_n hg433 hk421 nb431), (xv_a hg430 (xne (qb626 _ _ hk614) (qb626 _ _ hk611) (by decide))), (xv_a hg429 (xne (qb626 _ _ hk614) (qb626 _ _ hk611) (by decide))), (xv_n hg417 (qb401 _ _ (qb387 _ _ (qb373 _ _ hk365))) nb415), (xv_a hg414 (xne (qb626 _ _ hk614) (qb626 _ _ hk611) (by decide))), (xv_n hg403 (qb387 _ _ (qb373 _ _ hk365)) nb401), (xv_a hg400 (xne (qb626 _ _ hk614) (qb626 _ _ hk611) (by decide))), (xv_n hg389 (qb373 _ _ hk365) nb387), (xv_a hg386 (xne (qb626 _ _ hk614) (qb626 _ _ hk611) (by decide))), (xv_n hg375 hk365 nb373), (xv_a hg372 (xne (qb626 _ _ hk614) (qb626 _ _ hk611) (by decide))), (xv_n hg361 (qb346 _ _ (qb333 _ _ (qb320 _ _ hk313))) nb359), (xv_a hg358 (xne (qb626 _ _ hk614) (qb626 _ _ hk611) (by decide))), (xv_n hg348 (qb333 _ _ (qb320 _ _ hk313)) nb346), (xv_a hg345 (xne (qb626 _ _ hk614) (qb626 _ _ hk611) (by decide))), (xv_n hg335 (qb320 _ _ hk313) nb333), (xv_a hg332 (xne (qb626 _ _ hk614) (qb626 _ _ hk611) (by decide))), (xv_n hg322 hk313 nb320), (xv_a hg319 (xne (qb626 _ _ hk614) (qb626 _ _ hk611) (by decide))), (xv_n hg309 (qb294 _ _ (qb282 _ _ (qb270 _ _ hk264))) nb307), (xv_a hg306 (xne (qb626 _ _ hk614) (qb626 _ _ hk611) (by decide))), (xv_a hg305 (xne (qb626 _ _ hk614) (qb626 _ _ hk611) (by decide))), (xv_n hg296 (qb282 _ _ (qb270 _ _ hk264)) nb294), (xv_a hg293 (xne (qb626 _ _ hk614) (qb626 _ _ hk611) (by decide))), (xv_n hg284 (qb270 _ _ hk264) nb282), (xv_a hg281 (xne (qb626 _ _ hk614) (qb626 _ _ hk611) (by decide))), (xv_n hg272 hk264 nb270), (xv_a hg269 (xne (qb626 _ _ hk614) (qb626 _ _ hk611) (by decide))), (xv_n hg260 (qb247 _ _ (qb236 _ _ (qb225 _ _ hk220))) nb258), (xv_a hg257 (xne (qb626 _ _ hk614) (qb626 _ _ hk611) (by decide))), (xv_n hg249 (qb236 _ _ (qb225 _ _ hk220)) nb247), (xv_a hg246 (xne (qb626 _ _ hk614) (qb626 _ _ hk611) (by decide))), (xv_n hg238 (qb225 _ _ hk220) nb236), (xv_a hg235 (xne (qb626 _ _ hk614) (qb626 _ _ hk611) (by decide))), (xv_n hg227 hk220 nb225), (xv_a hg224 (xne (qb626 _ _ hk614) (qb626 _ _ hk611) (by decide))), (xv_n hg216 (qb204 _ _ (qb194 _ _ (qb183 _ _ hk179))) nb214), (xv_a hg213 (xne (qb626 _ _ hk614) (qb626 _ _ hk611) (by decide))), (xv_n hg206 (qb194 _ _ (qb183 _ _ hk179)) nb204), (xv_a hg203 (xne (qb626 _ _ hk614) (qb626 _ _ hk611) (by decide))), (xv_n hg196 (qb183 _ _ hk179) nb194), (xv_a hg193 (xne (qb626 _ _ hk614) (qb626 _ _ hk611) (by decide))), (xv_a hg192 (xne (qb626 _ _ hk614) (qb626 _ _ hk611) (by decide))), (xv_n hg185 hk179 nb183), (xv_a hg182 (xne (qb626 _ _ hk614) (qb626 _ _ hk611) (by decide))), (xv_n hg175 (qb164 _ _ (qb155 _ _ (qb146 _ _ hk143))) nb173), (xv_a hg172 (xne (qb626 _ _ hk614) (qb626 _ _ hk611) (by decide))), (xv_n hg166 (qb155 _ _ (qb146 _ _ hk143)) nb164), (xv_a hg163 (xne (qb626 _ _ hk614) (qb626 _ _ hk611) (by decide))), (xv_n hg157 (qb146 _ _ hk143) nb155), (xv_a hg154 (xne (qb626 _ _ hk614) (qb626 _ _ hk611) (by decide))), (xv_n hg148 hk143 nb146), (xv_a hg145 (xne (qb626 _ _ hk614) (qb626 _ _ hk611) (by decide))), (xv_n hg139 (qb129 _ _ (qb121 _ _ (qb113 _ _ hk111))) nb137), (xv_a hg136 (xne (qb626 _ _ hk614) (qb626 _ _ hk611) (by decide))), (xv_n hg131 (qb121 _ _ (qb113 _ _ hk111)) nb129), (xv_a hg128 (xne (qb626 _ _ hk614) (qb626 _ _ hk611) (by decide))), (xv_n hg123 (qb113 _ _ hk111) nb121), (xv_a hg120 (xne (qb626 _ _ hk614) (qb626 _ _ hk611) (by decide))), (xv_n hg115 hk111 nb113), (xv_a hg112 (xne (qb626 _ _ hk614) (qb626 _ _ hk611) (by decide))), (xv_n hg107 (qb98 _ _ (qb91 _ _ (qb84 _ _ hs_b71))) nb105), (xv_a hg104 (xne (qb626 _ _ hk614) (qb626 _ _ hk611) (by decide))), (xv_n hg100 (qb91 _ _ (qb84 _ _ hs_b71)) nb98), (xv_a hg97 (xne (qb626 _ _ hk614) (qb626 _ _ hk611) (by decide))), (xv_n hg93 (qb84 _ _ hs_b71) nb91), (xv_a hg90 (xne (qb626 _ _ hk614) (qb626 _ _ hk611) (by decide))), (xv_n hg86 hs_b71 nb84), (xv_a hg83 (xne (qb626 _ _ hk614) (qb626 _ _ hk611) (by decide))), (xv_k (i := 3) hg82 (by omega) (by omega) (by omega)), (xv_k (i := 3) hg81 (by omega) (by omega) (by omega)), xv_s hg80 (by omega)]) (show xv g645 b71 4 = 100 from by rw [(xv_a hg645 (xne (qb626 _ _ hk614) (qb626 _ _ hk611) (by decide))), (xv_a hg644 (xne (qb626 _ _ hk614) (qb626 _ _ hk611) (by decide))), (xv_a hg643 (xne (qb626 _ _ hk614) (qb626 _ _ hk611) (by decide))), (xv_n hg628 hk614 nb626), (xv_a hg625 (xne (qb626 _ _ hk614) (qb626 _ _ hk611) (by decide))), (xv_n hg610 (qb591 _ _ (qb574 _ _ (qb557 _ _ hk546))) nb608), (xv_a hg607 (xne (qb626 _ _ hk614) (qb626 _ _ hk611) (by decide))), (xv_n hg593 (qb574 _ _ (qb557 _ _ hk546)) nb591), (xv_a hg590 (xne (qb626 _ _ hk614) (qb626 _ _ hk611) (by decide))), (xv_n hg576 (qb557 _ _ hk546) nb574), (xv_a hg573 (xne (qb626 _ _ hk614) (qb626 _ _ hk611) (by decide))), (xv_n hg559 hk546 nb557), (xv_a hg556 (xne (qb626 _ _ hk614) (qb626 _ _ hk611) (by decide))), (xv_n hg542 (qb524 _ _ (qb508 _ _ (qb492 _ _ hk482))) nb540), (xv_a hg539 (xne (qb626 _ _ hk614) (qb626 _ _ hk611) (by decide))), (xv_n hg526 (qb508 _ _ (qb492 _ _ hk482)) nb524), (xv_a hg523 (xne (qb626 _ _ hk614) (qb626 _ _ hk611) (by decide))), (xv_n hg510 (qb492 _ _ hk482) nb508), (xv_a hg507 (xne (qb626 _ _ hk614) (qb626 _ _ hk611) (by decide))), (xv_n hg494 hk482 nb492), (xv_a hg491 (xne (qb626 _ _ hk614) (qb626 _ _ hk611) (by decide))), (xv_n hg478 (qb461 _ _ (qb446 _ _ (qb431 _ _ hk421))) nb476), (xv_a hg475 (xne (qb626 _ _ hk614) (qb626 _ _ hk611) (by decide))), (xv_n hg463 (qb446 _ _ (qb431 _ _ hk421)) nb461), (xv_a hg460 (xne (qb626 _ _ hk614) (qb626 _ _ hk611) (by decide))), (xv_n hg448 (qb431 _ _ hk421) nb446), (xv_a hg445 (xne (qb626 _ _ hk614) (qb626 _ _ hk611) (by decide))), (xv_n hg433 hk421 nb431), (xv_a hg430 (xne (qb626 _ _ hk614) (qb626 _ _ hk611) (by decide))), (xv_a hg429 (xne (qb626 _ _ hk614) (qb626 _ _ hk611) (by decide))), (xv_n hg417 (qb401 _ _ (qb387 _ _ (qb373 _ _ hk365))) nb415), (xv_a hg414 (xne (qb626 _ _ hk614) (qb626 _ _ hk611) (by decide))), (xv_n hg403 (qb387 _ _ (qb373 _ _ hk365)) nb401), (xv_a hg400 (xne (qb626 _ _ hk614) (qb626 _ _ hk611) (by decide))), (xv_n hg389 (qb373 _ _ hk365) nb387), (xv_a hg386 (xne (qb626 _ _ hk614) (qb626 _ _ hk611) (by decide))), (xv_n hg375 hk365 nb373), (xv_a hg372 (xne (qb626 _ _ hk614) (qb626 _ _ hk611) (by decide))), (xv_n hg361 (qb346 _ _ (qb333 _ _ (qb320 _ _ hk313))) nb359), (xv_a hg358 (xne (qb626 _ _ hk614) (qb626 _ _ hk611) (by decide))), (xv_n hg348 (qb333 _ _ (qb320 _ _ hk313)) nb346), (xv_a hg345 (xne (qb626 _ _ hk614) (qb626 _ _ hk611) (by decide))), (xv_n hg335 (qb320 _ _ hk313) nb333), (xv_a hg332 (xne (qb626 _ _ hk614) (qb626 _ _ hk611) (by decide))), (xv_n hg322 hk313 nb320), (xv_a hg319 (xne (qb626 _ _ hk614) (qb626 _ _ hk611) (by decide))), (xv_n hg309 (qb294 _ _ (qb282 _ _ (qb270 _ _ hk264))) nb307), (xv_a hg306 (xne (qb626 _ _ hk614) (qb626 _ _ hk611) (by decide))), (xv_a hg305 (xne (qb626 _ _ hk614) (qb626 _ _ hk611) (by decide))), (xv_n hg296 (qb282 _ _ (qb270 _ _ hk264)) nb294), (xv_a hg293 (xne (qb626 _ _ hk614) (qb626 _ _ hk611) (by decide))), (xv_n hg284 (qb270 _ _ hk264) nb282), (xv_a hg281 (xne (qb626 _ _ hk614) (qb626 _ _ hk611) (by decide))), (xv_n hg272 hk264 nb270), (xv_a hg269 (xne (qb626 _ _ hk614) (qb626 _ _ hk611) (by decide))), (xv_n hg260 (qb247 _ _ (qb236 _ _ (qb225 _ _ hk220))) nb258), (xv_a hg257 (xne (qb626 _ _ hk614) (qb626 _ _ hk611) (by decide))), (xv_n hg249 (qb236 _ _ (qb225 _ _ hk220)) nb247), (xv_a hg246 (xne (qb626 _ _ hk614) (qb626 _ _ hk611) (by decide))), (xv_n hg238 (qb225 _ _ hk220) nb236), (xv_a hg235 (xne (qb626 _ _ hk614) (qb626 _ _ hk611) (by decide))), (xv_n hg227 hk220 nb225), (xv_a hg224 (xne (qb626 _ _ hk614) (qb626 _ _ hk611) (by decide))), (xv_n hg216 (qb204 _ _ (qb194 _ _ (qb183 _ _ hk179))) nb214), (xv_a hg213 (xne (qb626 _ _ hk614) (qb626 _ _ hk611) (by decide))), (xv_n hg206 (qb194 _ _ (qb183 _ _ hk179)) nb204), (xv_a hg203 (xne (qb626 _ _ hk614) (qb626 _ _ hk611) (by decide))), (xv_n hg196 (qb183 _ _ hk179) nb194), (xv_a hg193 (xne (qb626 _ _ hk614) (qb626 _ _ hk611) (by decide))), (xv_a hg192 (xne (qb626 _ _ hk614) (qb626 _ _ hk611) (by decide))), (xv_n hg185 hk179 nb183), (xv_a hg182 (xne (qb626 _ _ hk614) (qb626 _ _ hk611) (by decide))), (xv_n hg175 (qb164 _ _ (qb155 _ _ (qb146 _ _ hk143))) nb173), (xv_a hg172 (xne (qb626 _ _ hk614) (qb626 _ _ hk611) (by decide))), (xv_n hg166 (qb155 _ _ (qb146 _ _ hk143)) nb164), (xv_a hg163 (xne (qb626 _ _ hk614) (qb626 _ _ hk611) (by decide))), (xv_n hg157 (qb146 _ _ hk143) nb155), (xv_a hg154 (xne (qb626 _ _ hk614) (qb626 _ _ hk611) (by decide))), (xv_n hg148 hk143 nb146), (xv_a hg145 (xne (qb626 _ _ hk614) (qb626 _ _ hk611) (by decide))), (xv_n hg139 (qb129 _ _ (qb121 _ _ (qb113 _ _ hk111))) nb137), (xv_a hg136 (xne (qb626 _ _ hk614) (qb626 _ _ hk611) (by decide))), (xv_n hg131 (qb121 _ _ (qb113 _ _ hk111)) nb129), (xv_a hg128 (xne (qb626 _ _ hk614) (qb626 _ _ hk611) (by decide))), (xv_n hg123 (qb113 _ _ hk111) nb121), (xv_a hg120 (xne (qb626 _ _ hk614) (qb626 _ _ hk611) (by decide))), (xv_n hg115 hk111 nb113), (xv_a hg112 (xne (qb626 _ _ hk614) (qb626 _ _ hk611) (by decide))), (xv_n hg107 (qb98 _ _ (qb91 _ _ (qb84 _ _ hs_b71))) nb105), (xv_a hg104 (xne (qb626 _ _ hk614) (qb626 _ _ hk611) (by decide))), (xv_n hg100 (qb91 _ _ (qb84 _ _ hs_b71)) nb98), (xv_a hg97 (xne (qb626 _ _ hk614) (qb626 _ _ hk611) (by decide))), (xv_n hg93 (qb84 _ _ hs_b71) nb91), (xv_a hg90 (xne (qb626 _ _ hk614) (qb626 _ _ hk611) (by decide))), (xv_n hg86 hs_b71 nb84), (xv_a hg83 (xne (qb626 _ _ hk614) (qb626 _ _ hk611) (by decide))), (xv_k (i := 4) hg82 (by omega) (by omega) (by omega)), xv_s hg81 (by omega)]) (show xv g645 b71 5 = 100 from by rw [(xv_a hg645 (xne (qb626 _ _ hk614) (qb626 _ _ hk611) (by decide))), (xv_a hg644 (xne (qb626 _ _ hk614) (qb626 _ _ hk611) (by decide))), (xv_a hg643 (xne (qb626 _ _ hk614) (qb626 _ _ hk611) (by decide))), (xv_n hg628 hk614 nb626), (xv_a hg625 (xne (qb626 _ _ hk614) (qb626 _ _ hk611) (by decide))), (xv_n hg610 (qb591 _ _ (qb574 _ _ (qb557 _ _ hk546))) nb608), (xv_a hg607 (xne (qb626 _ _ hk614) (qb626 _ _ hk611) (by decide))), (xv_n hg593 (qb574 _ _ (qb557 _ _ hk546)) nb591), (xv_a hg590 (xne (qb626 _ _ hk614) (qb626 _ _ hk611) (by decide))), (xv_n hg576 (qb557 _ _ hk546) nb574), (xv_a hg573 (xne (qb626 _ _ hk614) (qb626 _ _ hk611) (by decide))), (xv_n hg559 hk546 nb557), (xv_a hg556 (xne (qb626 _ _ hk614) (qb626 _ _ hk611) (by decide))), (xv_n hg542 (qb524 _ _ (qb508 _ _ (qb492 _ _ hk482))) nb540), (xv_a hg539 (xne (qb626 _ _ hk614) (qb626 _ _ hk611) (by decide))), (xv_n hg526 (qb508 _ _ (qb492 _ _ hk482)) nb524), (xv_a hg523 (xne (qb626 _ _ hk614) (qb626 _ _ hk611) (by decide))), (xv_n hg510 (qb492 _ _ hk482) nb508), (xv_a hg507 (xne (qb626 _ _ hk614) (qb626 _ _ hk611) (by decide))), (xv_n hg494 hk482 nb492), (xv_a hg491 (xne (qb626 _ _ hk614) (qb626 _ _ hk611) (by decide))), (xv_n hg478 (qb461 _ _ (qb446 _ _ (qb431 _ _ hk421))) nb476), (xv_a hg475 (xne (qb626 _ _ hk614) (qb626 _ _ hk611) (by decide))), (xv_n hg463 (qb446 _ _ (qb431 _ _ hk421)) nb461), (xv_a hg460 (xne (qb626 _ _ hk614) (qb626 _ _ hk611) (by decide))), (xv_n hg448 (qb431 _ _ hk421) nb446), (xv_a hg445 (xne (qb626 _ _ hk614) (qb626 _ _ hk611) (by decide))), (xv_n hg433 hk421 nb431), (xv_a hg430 (xne (qb626 _ _ hk614) (qb626 _ _ hk611) (by decide))), (xv_a hg429 (xne (qb626 _ _ hk614) (qb626 _ _ hk611) (by decide))), (xv_n hg417 (qb401 _ _ (qb387 _ _ (qb373 _ _ hk365))) nb415), (xv_a hg414 (xne (qb626 _ _ hk614) (qb626 _ _ hk611) (by decide))), (xv_n hg403 (qb387 _ _ (qb373 _ _ hk365)) nb401), (xv_a hg400 (xne (qb626 _ _ hk614) (qb626 _ _ hk611) (by decide))), (xv_n hg389 (qb373 _ _ hk365) nb387), (xv_a hg386 (xne (qb626 _ _ hk614) (qb626 _ _ hk611) (by decide))), (xv_n hg375 hk365 nb373), (xv_a hg372 (xne (qb626 _ _ hk614) (qb626 _ _ hk611) (by decide))), (xv_n hg361 (qb346 _ _ (qb333 _ _ (qb320 _ _ hk313))) nb359), (xv_a hg358 (xne (qb626 _ _ hk614) (qb626 _ _ hk611) (by decide))), (xv_n hg348 (qb333 _ _ (qb320 _ _ hk313)) nb346), (xv_a hg345 (xne (qb626 _ _ hk614) (qb626 _ _ hk611) (by decide))), (xv_n hg335 (qb320 _ _ hk313) nb333), (xv_a hg332 (xne (qb626 _ _ hk614) (qb626 _ _ hk611) (by decide))), (xv_n hg322 hk313 nb320), (xv_a hg319 (xne (qb626 _ _ hk614) (qb626 _ _ hk611) (by decide))), (xv_n hg309 (qb294 _ _ (qb282 _ _ (qb270 _ _ hk264))) nb307), (xv_a hg306 (xne (qb626 _ _ hk614) (qb626 _ _ hk611) (by decide))), (xv_a hg305 (xne (qb626 _ _ hk614) (qb626 _ _ hk611) (by decide))), (xv_n hg296 (qb282 _ _ (qb270 _ _ hk264)) nb294), (xv_a hg293 (xne (qb626 _ _ hk614) (qb626 _ _ hk611) (by decide))), (xv_n hg284 (qb270 _ _ hk264) nb282), (xv_a hg281 (xne (qb626 _ _ hk614) (qb626 _ _ hk611) (by decide))), (xv_n hg272 hk264 nb270), (xv_a hg269 (xne (qb626 _ _ hk614) (qb626 _ _ hk611) (by decide))), (xv_n hg260 (qb247 _ _ (qb236 _ _ (qb225 _ _ hk220))) nb258), (xv_a hg257 (xne (qb626 _ _ hk614) (qb626 _ _ hk611) (by decide))), (xv_n hg249 (qb236 _ _ (qb225 _ _ hk220)) nb247), (xv_a hg246 (xne (qb626 _ _ hk614) (qb626 _ _ hk611) (by decide))), (xv_n hg238 (qb225 _ _ hk220) nb236), (xv_a hg235 (xne (qb626 _ _ hk614) (qb626 _ _ hk611) (by decide))), (xv_n hg227 hk220 nb225), (xv_a hg224 (xne (qb626 _ _ hk614) (qb626 _ _ hk611) (by decide))), (xv_n hg216 (qb204 _ _ (qb194 _ _ (qb183 _ _ hk179))) nb214), (xv_a hg213 (xne (qb626 _ _ hk614) (qb626 _ _ hk611) (by decide))), (xv_n hg206 (qb194 _ _ (qb183 _ _ hk179)) nb204), (xv_a hg203 (xne (qb626 _ _ hk614) (qb626 _ _ hk611) (by decide))), (xv_n hg196 (qb183 _ _ hk179) nb194), (xv_a hg193 (xne (qb626 _ _ hk614) (qb626 _ _ hk611) (by decide))), (xv_a hg192 (xne (qb626 _ _ hk614) (qb626 _ _ hk611) (by decide))), (xv_n hg185 hk179 nb183), (xv_a hg182 (xne (qb626 _ _ hk614) (qb626 _ _ hk611) (by decide))), (xv_n hg175 (qb164 _ _ (qb155 _ _ (qb146 _ _ hk143))) nb173), (xv_a hg172 (xne (qb626 _ _ hk614) (qb626 _ _ hk611) (by decide))), (xv_n hg166 (qb155 _ _ (qb146 _ _ hk143)) nb164), (xv_a hg163 (xne (qb626 _ _ hk614) (qb626 _ _ hk611) (by decide))), (xv_n hg157 (qb146 _ _ hk143) nb155), (xv_a hg154 (xne (qb626 _ _ hk614) (qb626 _ _ hk611) (by decide))), (xv_n hg148 hk143 nb146), (xv_a hg145 (xne (qb626 _ _ hk614) (qb626 _ _ hk611) (by decide))), (xv_n hg139 (qb129 _ _ (qb121 _ _ (qb113 _ _ hk111))) nb137), (xv_a hg136 (xne (qb626 _ _ hk614) (qb626 _ _ hk611) (by decide))), (xv_n hg131 (qb121 _ _ (qb113 _ _ hk111)) nb129), (xv_a hg128 (xne (qb626 _ _ hk614) (qb626 _ _ hk611) (by decide))), (xv_n hg123 (qb113 _ _ hk111) nb121), (xv_a hg120 (xne (qb626 _ _ hk614) (qb626 _ _ hk611) (by decide))), (xv_n hg115 hk111 nb113), (xv_a hg112 (xne (qb626 _ _ hk614) (qb626 _ _ hk611) (by decide))), (xv_n hg107 (qb98 _ _ (qb91 _ _ (qb84 _ _ hs_b71))) nb105), (xv_a hg104 (xne (qb626 _ _ hk614) (qb626 _ _ hk611) (by decide))), (xv_n hg100 (qb91 _ _ (qb84 _ _ hs_b71)) nb98), (xv_a hg97 (xne (qb626 _ _ hk614) (qb626 _ _ hk611) (by decide))), (xv_n hg93 (qb84 _ _ hs_b71) nb91), (xv_a hg90 (xne (qb626 _ _ hk614) (qb626 _ _ hk611) (by decide))), (xv_n hg86 hs_b71 nb84), (xv_a hg83 (xne (qb626 _ _ hk614) (qb626 _ _ hk611) (by decide))), xv_s hg82 (by omega)])), ((xs_k hg645 (by decide)).trans ((xs_k hg644 (by decide)).trans ((xs_k hg643 (by decide)).trans ((xs_n hg628 hk611 nb626).trans ((xs_k hg625 (by decide)).trans ((xs_n hg610 (qb591 _ _ (qb574 _ _ (qb557 _ _ hk543))) nb608).trans ((xs_k hg607 (by decide)).trans ((xs_n hg593 (qb574 _ _ (qb557 _ _ hk543)) nb591).trans ((xs_k hg590 (by decide)).trans ((xs_n hg576 (qb557 _ _ hk543) nb574).trans ((xs_k hg573 (by decide)).trans ((xs_n hg559 hk543 nb557).trans ((xs_k hg556 (by decide)).trans ((xs_n hg542 (qb524 _ _ (qb508 _ _ (qb492 _ _ hk479))) nb540).trans ((xs_k hg539 (by decide)).trans ((xs_n hg526 (qb508 _ _ (qb492 _ _ hk479)) nb524).trans ((xs_k hg523 (by decide)).trans ((xs_n hg510 (qb492 _ _ hk479) nb508).trans ((xs_k hg507 (by decide)).trans ((xs_n hg494 hk479 nb492).trans ((xs_k hg491 (by decide)).trans ((xs_n hg478 (qb461 _ _ (qb446 _ _ (qb431 _ _ hk418))) nb476).trans ((xs_k hg475 (by decide)).trans ((xs_n hg463 (qb446 _ _ (qb431 _ _ hk418)) nb461).trans ((xs_k hg460 (by decide)).trans ((xs_n hg448 (qb431 _ _ hk418) nb446).trans ((xs_k hg445 (by decide)).trans ((xs_n hg433 hk418 nb431).trans ((xs_k hg430 (by decide)).trans ((xs_k hg429 (by decide)).trans ((xs_n hg417 (qb401 _ _ (qb387 _ _ (qb373 _ _ hk362))) nb415).trans ((xs_k hg414 (by decide)).trans ((xs_n hg403 (qb387 _ _ (qb373 _ _ hk362)) nb401).trans ((xs_k hg400 (by decide)).trans ((xs_n hg389 (qb373 _ _ hk362) nb387).trans ((xs_k hg386 (by decide)).trans ((xs_n hg375 hk362 nb373).trans ((xs_k hg372 (by decide)).trans ((xs_n hg361 (qb346 _ _ (qb333 _ _ (qb320 _ _ hk310))) nb359).trans ((xs_k hg358 (by decide)).trans ((xs_n hg348 (qb333 _ _ (qb320 _ _ hk310)) nb346).trans ((xs_k hg345 (by decide)).trans ((xs_n hg335 (qb320 _ _ hk310) nb333).trans ((xs_k hg332 (by decide)).trans ((xs_n hg322 hk310 nb320).trans ((xs_k hg319 (by decide)).trans ((xs_n hg309 (qb294 _ _ (qb282 _ _ (qb270 _ _ hk261))) nb307).trans ((xs_k hg306 (by decide)).trans ((xs_k hg305 (by decide)).trans ((xs_n hg296 (qb282 _ _ (qb270 _ _ hk261)) nb294).trans ((xs_k hg293 (by decide)).trans ((xs_n hg284 (qb270 _ _ hk261) nb282).trans ((xs_k hg281 (by decide)).trans ((xs_n hg272 hk261 nb270).trans ((xs_k hg269 (by decide)).trans ((xs_n hg260 (qb247 _ _ (qb236 _ _ (qb225 _ _ hk217))) nb258).trans ((xs_k hg257 (by decide)).trans ((xs_n hg249 (qb236 _ _ (qb225 _ _ hk217)) nb247).trans ((xs_k hg246 (by decide)).trans ((xs_n hg238 (qb225 _ _ hk217) nb236).trans ((xs_k hg235 (by decide)).trans ((xs_n hg227 hk217 nb225).trans ((xs_k hg224 (by decide)).trans ((xs_n hg216 (qb204 _ _ (qb194 _ _ (qb183 _ _ hk176))) nb214).trans ((xs_k hg213 (by decide)).trans ((xs_n hg206 (qb194 _ _ (qb183 _ _ hk176)) nb204).trans ((xs_k hg203 (by decide)).trans ((xs_n hg196 (qb183 _ _ hk176) nb194).trans ((xs_k hg193 (by decide)).trans ((xs_k hg192 (by decide)).trans ((xs_n hg185 hk176 nb183).trans ((xs_k hg182 (by decide)).trans ((xs_n hg175 (qb164 _ _ (qb155 _ _ (qb146 _ _ hk140))) nb173).trans ((xs_k hg172 (by decide)).trans ((xs_n hg166 (qb155 _ _ (qb146 _ _ hk140)) nb164).trans ((xs_k hg163 (by decide)).trans ((xs_n hg157 (qb146 _ _ hk140) nb155).trans ((xs_k hg154 (by decide)).trans ((xs_n hg148 hk140 nb146).trans ((xs_k hg145 (by decide)).trans ((xs_n hg139 (qb129 _ _ (qb121 _ _ (qb113 _ _ hk108))) nb137).trans ((xs_k hg136 (by decide)).trans ((xs_n hg131 (qb121 _ _ (qb113 _ _ hk108)) nb129).trans ((xs_k hg128 (by decide)).trans ((xs_n hg123 (qb113 _ _ hk108) nb121).trans ((xs_k hg120 (by decide)).trans ((xs_n hg115 hk108 nb113).trans ((xs_k hg112 (by decide)).trans ((xs_n hg107 (qb98 _ _ (qb91 _ _ (qb84 _ _ hk74))) nb105).trans ((xs_k hg104 (by decide)).trans ((xs_n hg100 (qb91 _ _ (qb84 _ _ hk74)) nb98).trans ((xs_k hg97 (by decide)).trans ((xs_n hg93 (qb84 _ _ hk74) nb91).trans ((xs_k hg90 (by decide)).trans ((xs_n hg86 hk74 nb84).trans ((xs_k hg83 (by decide)).trans ((xs_a hg82 (xne (qb626 _ _ hk611) (qb626 _ _ hk614) (by decide))).trans ((xs_a hg81 (xne (qb626 _ _ hk611) (qb626 _ _ hk614) (by decide))).trans ((xs_a hg80 (xne (qb626 _ _ hk611) (qb626 _ _ hk614) (by decide))).trans ((xs_a hg79 (xne (qb626 _ _ hk611) (qb626 _ _ hk614) (by decide))).trans ((xs_a hg78 (xne (qb626 _ _ hk611) (qb626 _ _ hk614) (by decide))).trans ((xs_a hg77 (xne (qb626 _ _ hk611) (qb626 _ _ hk614) (by decide))).trans ((xs_n hg73 (qb61 _ _ (qb55 _ _ (qb49 _ _ hk46))) nb71).trans ((xs_k hg70 (by decide)).trans ((xs_a hg69 (xne (qb626 _ _ hk611) (qb626 _ _ (qb608 _ _ hk596)) (by decide))).trans ((xs_a hg68 (xne (qb626 _ _ hk611) (qb626 _ _ (qb608 _ _ hk596)) (by decide))).trans ((xs_a hg67 (xne (qb626 _ _ hk611) (qb626 _ _ (qb608 _ _ hk596)) (by decide))).trans ((xs_a hg66 (xne (qb626 _ _ hk611) (qb626 _ _ (qb608 _ _ hk596)) (by decide))).trans ((xs_n hg63 (qb55 _ _ (qb49 _ _ hk46)) nb61).trans (xs_s hg60)))))))))))))))))))))))))))))))))))))))))))))))))))))))))))))))))))))))))))))))))))))))))))))))))))))))))))))), (qb626 _ _ (qb608 _ _ (qb591 _ _ hk579))), (by rw [(Eq.trans (Eq.trans (Eq.trans (Eq.trans (Eq.trans (Eq.trans (Eq.trans (Eq.trans (Eq.trans (Eq.trans (Eq.trans (Eq.trans (Eq.trans (Eq.trans (Eq.trans (Eq.trans (Eq.trans (Eq.trans (Eq.trans (Eq.trans (Eq.trans (Eq.trans (Eq.trans (Eq.trans (Eq.trans (Eq.trans (Eq.trans (Eq.trans (Eq.trans (Eq.trans (Eq.trans (Eq.trans (Eq.trans (Eq.trans (Eq.trans (Eq.trans (Eq.trans (Eq.trans (Eq.trans (Eq.trans (Eq.trans (Eq.trans (Eq.trans (Eq.trans (Eq.trans (Eq.trans (Eq.trans (Eq.trans (Eq.trans (Eq.trans (Eq.trans (Eq.trans (Eq.trans (Eq.trans (Eq.trans (Eq.trans (Eq.trans (Eq.trans (Eq.trans (Eq.trans (Eq.trans (Eq.trans (Eq.trans (Eq.trans (Eq.trans (Eq.trans (Eq.trans (Eq.trans (Eq.trans (Eq.trans (Eq.trans (Eq.trans (Eq.trans (Eq.trans (Eq.trans (Eq.trans (Eq.trans (Eq.trans (Eq.trans (Eq.trans (Eq.trans (Eq.trans (Eq.trans (Eq.trans (Eq.trans (Eq.trans (Eq.trans (Eq.trans (Eq.trans (Eq.trans (Eq.trans (Eq.trans (Eq.trans (Eq.trans (Eq.trans (Eq.trans (Eq.trans (Eq.trans (Eq.trans (Eq.trans (Eq.trans (Eq.trans (Eq.trans (Eq.trans (Eq.trans (Eq.trans (Eq.trans (Eq.trans (Eq.trans (xv_a hg645 (xne (qb626 _ _ (qb608 _ _ (qb591 _ _ hk579))) (qb626 _ _ hk611) (by decide))) (xv_a hg644 (xne (qb626 _ _ (qb608 _ _ (qb591 _ _ hk579))) (qb626 _ _ hk611) (by decide)))) (xv_a hg643 (xne (qb626 _ _ (qb608 _ _ (qb591 _ _ hk579))) (qb626 _ _ hk611) (by decide)))) (xv_n hg628 (qb608 _ _ (qb591 _ _ hk579)) nb626)) (xv_a hg625 (xne (qb626 _ _ (qb608 _ _ (qb591 _ _ hk579))) (qb626 _ _ hk611) (by decide)))) (xv_n hg610 (qb591 _ _ hk579) nb608)) (xv_a hg607 (xne (qb626 _ _ (qb608 _ _ (qb591 _ _ hk579))) (qb626 _ _ hk611) (by decide)))) (xv_n hg593 hk579 nb591)) (xv_a hg590 (xne (qb626 _ _ (qb608 _ _ (qb591 _ _ hk579))) (qb626 _ _ hk611) (by decide)))) (xv_n hg576 (qb557 _ _ (qb540 _ _ (qb524 _ _ hk513))) nb574)) (xv_a hg573 (xne (qb626 _ _ (qb608 _ _ (qb591 _ _ hk579))) (qb626 _ _ hk611) (by decide)))) (xv_n hg559 (qb540 _ _ (qb524 _ _ hk513)) nb557)) (xv_a hg556 (xne (qb626 _ _ (qb608 _ _ (qb591 _ _ hk579))) (qb626 _ _ hk611) (by decide)))) (xv_n hg542 (qb524 _ _ hk513) nb540)) (xv_a hg539 (xne (qb626 _ _ (qb608 _ _ (qb591 _ _ hk579))) (qb626 _ _ hk611) (by decide)))) (xv_n hg526 hk513 nb524)) (xv_a hg523 (xne (qb626 _ _ (qb608 _ _ (qb591 _ _ hk579))) (qb626 _ _ hk611) (by decide)))) (xv_n hg510 (qb492 _ _ (qb476 _ _ (qb461 _ _ hk451))) nb508)) (xv_a hg507 (xne (qb626 _ _ (qb608 _ _ (qb591 _ _ hk579))) (qb626 _ _ hk611) (by decide)))) (xv_n hg494 (qb476 _ _ (qb461 _ _ hk451)) nb492)) (xv_a hg491 (xne (qb626 _ _ (qb608 _ _ (qb591 _ _ hk579))) (qb626 _ _ hk611) (by decide)))) (xv_n hg478 (qb461 _ _ hk451) nb476)) (xv_a hg475 (xne (qb626 _ _ (qb608 _ _ (qb591 _ _ hk579))) (qb626 _ _ hk611) (by decide)))) (xv_n hg463 hk451 nb461)) (xv_a hg460 (xne (qb626 _ _ (qb608 _ _ (qb591 _ _ hk579))) (qb626 _ _ hk611) (by decide)))) (xv_n hg448 (qb431 _ _ (qb415 _ _ (qb401 _ _ hk392))) nb446)) (xv_a hg445 (xne (qb626 _ _ (qb608 _ _ (qb591 _ _ hk579))) (qb626 _ _ hk611) (by decide)))) (xv_n hg433 (qb415 _ _ (qb401 _ _ hk392)) nb431)) (xv_a hg430 (xne (qb626 _ _ (qb608 _ _ (qb591 _ _ hk579))) (qb626 _ _ hk611) (by decide)))) (xv_a hg429 (xne (qb626 _ _ (qb608 _ _ (qb591 _ _ hk579))) (qb626 _ _ hk611) (by decide)))) (xv_n hg417 (qb401 _ _ hk392) nb415)) (xv_a hg414 (xne (qb626 _ _ (qb608 _ _ (qb591 _ _ hk579))) (qb626 _ _ hk611) (by decide)))) (xv_n hg403 hk392 nb401)) (xv_a hg400 (xne (qb626 _ _ (qb608 _ _ (qb591 _ _ hk579))) (qb626 _ _ hk611) (by decide)))) (xv_n hg389 (qb373 _ _ (qb359 _ _ (qb346 _ _ hk338))) nb387)) (xv_a hg386 (xne (qb626 _ _ (qb608 _ _ (qb591 _ _ hk579))) (qb626 _ _ hk611) (by decide)))) (xv_n hg375 (qb359 _ _ (qb346 _ _ hk338)) nb373)) (xv_a hg372 (xne (qb626 _ _ (qb608 _ _ (qb591 _ _ hk579))) (qb626 _ _ hk611) (by decide)))) (xv_n hg361 (qb346 _ _ hk338) nb359)) (xv_a hg358 (xne (qb626 _ _ (qb608 _ _ (qb591 _ _ hk579))) (qb626 _ _ hk611) (by decide)))) (xv_n hg348 hk338 nb346)) (xv_a hg345 (xne (qb626 _ _ (qb608 _ _ (qb591 _ _ hk579))) (qb626 _ _ hk611) (by decide)))) (xv_n hg335 (qb320 _ _ (qb307 _ _ (qb294 _ _ hk287))) nb333)) (xv_a hg332 (xne (qb626 _ _ (qb608 _ _ (qb591 _ _ hk579))) (qb626 _ _ hk611) (by decide)))) (xv_n hg322 (qb307 _ _ (qb294 _ _ hk287)) nb320)) (xv_a hg319 (xne (qb626 _ _ (qb608 _ _ (qb591 _ _ hk579))) (qb626 _ _ hk611) (by decide)))) (xv_n hg309 (qb294 _ _ hk287) nb307)) (xv_a hg306 (xne (qb626 _ _ (qb608 _ _ (qb591 _ _ hk579))) (qb626 _ _ hk611) (by decide)))) (xv_a hg305 (xne (qb626 _ _ (qb608 _ _ (qb591 _ _ hk579))) (qb626 _ _ hk611) (by decide)))) (xv_n hg296 hk287 nb294)) (xv_a hg293 (xne (qb626 _ _ (qb608 _ _ (qb591 _ _ hk579))) (qb626 _ _ hk611) (by decide)))) (xv_n hg284 (qb270 _ _ (qb258 _ _ (qb247 _ _ hk241))) nb282)) (xv_a hg281 (xne (qb626 _ _ (qb608 _ _ (qb591 _ _ hk579))) (qb626 _ _ hk611) (by decide)))) (xv_n hg272 (qb258 _ _ (qb247 _ _ hk241)) nb270)) (xv_a hg269 (xne (qb626 _ _ (qb608 _ _ (qb591 _ _ hk579))) (qb626 _ _ hk611) (by decide)))) (xv_n hg260 (qb247 _ _ hk241) nb258)) (xv_a hg257 (xne (qb626 _ _ (qb608 _ _ (qb591 _ _ hk579))) (qb626 _ _ hk611) (by decide)))) (xv_n hg249 hk241 nb247)) (xv_a hg246 (xne (qb626 _ _ (qb608 _ _ (qb591 _ _ hk579))) (qb626 _ _ hk611) (by decide)))) (xv_n hg238 (qb225 _ _ (qb214 _ _ (qb204 _ _ hk199))) nb236)) (xv_a hg235 (xne (qb626 _ _ (qb608 _ _ (qb591 _ _ hk579))) (qb626 _ _ hk611) (by decide)))) (xv_n hg227 (qb214 _ _ (qb204 _ _ hk199)) nb225)) (xv_a hg224 (xne (qb626 _ _ (qb608 _ _ (qb591 _ _ hk579))) (qb626 _ _ hk611) (by decide)))) (xv_n hg216 (qb204 _ _ hk199) nb214)) (xv_a hg213 (xne (qb626 _ _ (qb608 _ _ (qb591 _ _ hk579))) (qb626 _ _ hk611) (by decide)))) (xv_n hg206 hk199 nb204)) (xv_a hg203 (xne (qb626 _ _ (qb608 _ _ (qb591 _ _ hk579))) (qb626 _ _ hk611) (by decide)))) (xv_n hg196 (qb183 _ _ (qb173 _ _ (qb164 _ _ hk160))) nb194)) (xv_a hg193 (xne (qb626 _ _ (qb608 _ _ (qb591 _ _ hk579))) (qb626 _ _ hk611) (by decide)))) (xv_a hg192 (xne (qb626 _ _ (qb608 _ _ (qb591 _ _ hk579))) (qb626 _ _ hk611) (by decide)))) (xv_n hg185 (qb173 _ _ (qb164 _ _ hk160)) nb183)) (xv_a hg182 (xne (qb626 _ _ (qb608 _ _ (qb591 _ _ hk579))) (qb626 _ _ hk611) (by decide)))) (xv_n hg175 (qb164 _ _ hk160) nb173)) (xv_a hg172 (xne (qb626 _ _ (qb608 _ _ (qb591 _ _ hk579))) (qb626 _ _ hk611) (by decide)))) (xv_n hg166 hk160 nb164)) (xv_a hg163 (xne (qb626 _ _ (qb608 _ _ (qb591 _ _ hk579))) (qb626 _ _ hk611) (by decide)))) (xv_n hg157 (qb146 _ _ (qb137 _ _ (qb129 _ _ hk126))) nb155)) (xv_a hg154 (xne (qb626 _ _ (qb608 _ _ (qb591 _ _ hk579))) (qb626 _ _ hk611) (by decide)))) (xv_n hg148 (qb137 _ _ (qb129 _ _ hk126)) nb146)) (xv_a hg145 (xne (qb626 _ _ (qb608 _ _ (qb591 _ _ hk579))) (qb626 _ _ hk611) (by decide)))) (xv_n hg139 (qb129 _ _ hk126) nb137)) (xv_a hg136 (xne (qb626 _ _ (qb608 _ _ (qb591 _ _ hk579))) (qb626 _ _ hk611) (by decide)))) (xv_n hg131 hk126 nb129)) (xv_a hg128 (xne (qb626 _ _ (qb608 _ _ (qb591 _ _ hk579))) (qb626 _ _ hk611) (by decide)))) (xv_n hg123 (qb113 _ _ (qb105 _ _ (qb98 _ _ hk96))) nb121)) (xv_a hg120 (xne (qb626 _ _ (qb608 _ _ (qb591 _ _ hk579))) (qb626 _ _ hk611) (by decide)))) (xv_n hg115 (qb105 _ _ (qb98 _ _ hk96)) nb113)) (xv_a hg112 (xne (qb626 _ _ (qb608 _ _ (qb591 _ _ hk579))) (qb626 _ _ hk611) (by decide)))) (xv_n hg107 (qb98 _ _ hk96) nb105)) (xv_a hg104 (xne (qb626 _ _ (qb608 _ _ (qb591 _ _ hk579))) (qb626 _ _ hk611) (by decide)))) (xv_n hg100 hk96 nb98)) (xv_a hg97 (xne (qb626 _ _ (qb608 _ _ (qb591 _ _ hk579))) (qb626 _ _ hk611) (by decide)))) (xv_n hg93 (qb84 _ _ (qb71 _ _ (qb61 _ _ hs_b55))) nb91)) (xv_a hg90 (xne (qb626 _ _ (qb608 _ _ (qb591 _ _ hk579))) (qb626 _ _ hk611) (by decide)))) (xv_n hg86 (qb71 _ _ (qb61 _ _ hs_b55)) nb84)) (xv_a hg83 (xne (qb626 _ _ (qb608 _ _ (qb591 _ _ hk579))) (qb626 _ _ hk611) (by decide)))) (xv_a hg82 (xne (qb626 _ _ (qb608 _ _ (qb591 _ _ hk579))) (qb626 _ _ hk614) (by decide)))) (xv_a hg81 (xne (qb626 _ _ (qb608 _ _ (qb591 _ _ hk579))) (qb626 _ _ hk614) (by decide)))) (xv_a hg80 (xne (qb626 _ _ (qb608 _ _ (qb591 _ _ hk579))) (qb626 _ _ hk614) (by decide)))) (xv_a hg79 (xne (qb626 _ _ (qb608 _ _ (qb591 _ _ hk579))) (qb626 _ _ hk614) (by decide)))) (xv_a hg78 (xne (qb626 _ _ (qb608 _ _ (qb591 _ _ hk579))) (qb626 _ _ hk614) (by decide)))) (xv_a hg77 (xne (qb626 _ _ (qb608 _ _ (qb591 _ _ hk579))) (qb626 _ _ hk614) (by decide)))) (xv_n hg73 (qb61 _ _ hs_b55) nb71)) (xv_a hg70 (xne (qb626 _ _ (qb608 _ _ (qb591 _ _ hk579))) (qb626 _ _ hk611) (by decide)))) (xv_a hg69 (xne (qb626 _ _ (qb608 _ _ (qb591 _ _ hk579))) (qb626 _ _ (qb608 _ _ hk596)) (by decide)))) (xv_a hg68 (xne (qb626 _ _ (qb608 _ _ (qb591 _ _ hk579))) (qb626 _ _ (qb608 _ _ hk596)) (by decide)))) (xv_a hg67 (xne (qb626 _ _ (qb608 _ _ (qb591 _ _ hk579))) (qb626 _ _ (qb608 _ _ hk596)) (by decide)))) (xv_a hg66 (xne (qb626 _ _ (qb608 _ _ (qb591 _ _ hk579))) (qb626 _ _ (qb608 _ _ hk596)) (by decide)))) (xv_n hg63 hs_b55 nb61)) (xv_a hg60 (xne (qb626 _ _ (qb608 _ _ (qb591 _ _ hk579))) (qb626 _ _ hk611) (by decide))))]; exact (xv_z hg57))⟩, ⟨((xs_k hg645 (by decide)).trans ((xs_k hg644 (by decide)).trans ((xs_k hg643 (by decide)).trans ((xs_n hg628 hk611 nb626).trans ((xs_k hg625 (by decide)).trans ((xs_n hg610 (qb591 _ _ (qb574 _ _ (qb557 _ _ hk543))) nb608).trans ((xs_k hg607 (by decide)).trans ((xs_n hg593 (qb574 _ _ (qb557 _ _ hk543)) nb591).trans ((xs_k hg590 (by decide)).trans ((xs_n hg576 (qb557 _ _ hk543) nb574).trans ((xs_k hg573 (by decide)).trans ((xs_n hg559 hk543 nb557).trans ((xs_k hg556 (by decide)).trans ((xs_n hg542 (qb524 _ _ (qb508 _ _ (qb492 _ _ hk479))) nb540).trans ((xs_k hg539 (by decide)).trans ((xs_n hg526 (qb508 _ _ (qb492 _ _ hk479)) nb524).trans ((xs_k hg523 (by decide)).trans ((xs_n hg510 (qb492 _ _ hk479) nb508).trans ((xs_k hg507 (by decide)).trans ((xs_n hg494 hk479 nb492).trans ((xs_k hg491 (by decide)).trans ((xs_n hg478 (qb461 _ _ (qb446 _ _ (qb431 _ _ hk418))) nb476).trans ((xs_k hg475 (by decide)).trans ((xs_n hg463 (qb446 _ _ (qb431 _ _ hk418)) nb461).trans ((xs_k hg460 (by decide)).trans ((xs_n hg448 (qb431 _ _ hk418) nb446).trans ((xs_k hg445 (by decide)).trans ((xs_n hg433 hk418 nb431).trans ((xs_k hg430 (by decide)).trans ((xs_k hg429 (by decide)).trans ((xs_n hg417 (qb401 _ _ (qb387 _ _ (qb373 _ _ hk362))) nb415).trans ((xs_k hg414 (by decide)).trans ((xs_n hg403 (qb387 _ _ (qb373 _ _ hk362)) nb401).trans ((xs_k hg400 (by decide)).trans ((xs_n hg389 (qb373 _ _ hk362) nb387).trans ((xs_k hg386 (by decide)).trans ((xs_n hg375 hk362 nb373).trans ((xs_k hg372 (by decide)).trans ((xs_n hg361 (qb346 _ _ (qb333 _ _ (qb320 _ _ hk310))) nb359).trans ((xs_k hg358 (by decide)).trans ((xs_n hg348 (qb333 _ _ (qb320 _ _ hk310)) nb346).trans ((xs_k hg345 (by decide)).trans ((xs_n hg335 (qb320 _ _ hk310) nb333).trans ((xs_k hg332 (by decide)).trans ((xs_n hg322 hk310 nb320).trans ((xs_k hg319 (by decide)).trans ((xs_n hg309 (qb294 _ _ (qb282 _ _ (qb270 _ _ hk261))) nb307).trans ((xs_k hg306 (by decide)).trans ((xs_k hg305 (by decide)).trans ((xs_n hg296 (qb282 _ _ (qb270 _ _ hk261)) nb294).trans ((xs_k hg293 (by decide)).trans ((xs_n hg284 (qb270 _ _ hk261) nb282).trans ((xs_k hg281 (by decide)).trans ((xs_n hg272 hk261 nb270).trans ((xs_k hg269 (by decide)).trans ((xs_n hg260 (qb247 _ _ (qb236 _ _ (qb225 _ _ hk217))) nb258).trans ((xs_k hg257 (by decide)).trans ((xs_n hg249 (qb236 _ _ (qb225 _ _ hk217)) nb247).trans ((xs_k hg246 (by decide)).trans ((xs_n hg238 (qb225 _ _ hk217) nb236).trans ((xs_k hg235 (by decide)).trans ((xs_n hg227 hk217 nb225).trans ((xs_k hg224 (by decide)).trans ((xs_n hg216 (qb204 _ _ (qb194 _ _ (qb183 _ _ hk176))) nb214).trans ((xs_k hg213 (by decide)).trans ((xs_n hg206 (qb194 _ _ (qb183 _ _ hk176)) nb204).trans ((xs_k hg203 (by decide)).trans ((xs_n hg196 (qb183 _ _ hk176) nb194).trans ((xs_k hg193 (by decide)).trans ((xs_k hg192 (by decide)).trans ((xs_n hg185 hk176 nb183).trans ((xs_k hg182 (by decide)).trans ((xs_n hg175 (qb164 _ _ (qb155 _ _ (qb146 _ _ hk140))) nb173).trans ((xs_k hg172 (by decide)).trans ((xs_n hg166 (qb155 _ _ (qb146 _ _ hk140)) nb164).trans ((xs_k hg163 (by decide)).trans ((xs_n hg157 (qb146 _ _ hk140) nb155).trans ((xs_k hg154 (by decide)).trans ((xs_n hg148 hk140 nb146).trans ((xs_k hg145 (by decide)).trans ((xs_n hg139 (qb129 _ _ (qb121 _ _ (qb113 _ _ hk108))) nb137).trans ((xs_k hg136 (by decide)).trans ((xs_n hg131 (qb121 _ _ (qb113 _ _ hk108)) nb129).trans ((xs_k hg128 (by decide)).trans ((xs_n hg123 (qb113 _ _ hk108) nb121).trans ((xs_k hg120 (by decide)).trans ((xs_n hg115 hk108 nb113).trans ((xs_k hg112 (by decide)).trans ((xs_n hg107 (qb98 _ _ (qb91 _ _ (qb84 _ _ hk74))) nb105).trans ((xs_k hg104 (by decide)).trans ((xs_n hg100 (qb91 _ _ (qb84 _ _ hk74)) nb98).trans ((xs_k hg97 (by decide)).trans ((xs_n hg93 (qb84 _ _ hk74) nb91).trans ((xs_k hg90 (by decide)).trans ((xs_n hg86 hk74 nb84).trans ((xs_k hg83 (by decide)).trans ((xs_a hg82 (xne (qb626 _ _ hk611) (qb626 _ _ hk614) (by decide))).trans ((xs_a hg81 (xne (qb626 _ _ hk611) (qb626 _ _ hk614) (by decide))).trans ((xs_a hg80 (xne (qb626 _ _ hk611) (qb626 _ _ hk614) (by decide))).trans ((xs_a hg79 (xne (qb626 _ _ hk611) (qb626 _ _ hk614) (by decide))).trans ((xs_a hg78 (xne (qb626 _ _ hk611) (qb626 _ _ hk614) (by decide))).trans ((xs_a hg77 (xne (qb626 _ _ hk611) (qb626 _ _ hk614) (by decide))).trans ((xs_n hg73 (qb61 _ _ (qb55 _ _ (qb49 _ _ hk46))) nb71).trans ((xs_k hg70 (by decide)).trans ((xs_a hg69 (xne (qb626 _ _ hk611) (qb626 _ _ (qb608 _ _ hk596)) (by decide))).trans ((xs_a hg68 (xne (qb626 _ _ hk611) (qb626 _ _ (qb608 _ _ hk596)) (by decide))).trans ((xs_a hg67 (xne (qb626 _ _ hk611) (qb626 _ _ (qb608 _ _ hk596)) (by decide))).trans ((xs_a hg66 (xne (qb626 _ _ hk611) (qb626 _ _ (qb608 _ _ hk596)) (by decide))).trans ((xs_n hg63 (qb55 _ _ (qb49 _ _ hk46)) nb61).trans ((xs_k hg60 (by decide)).trans ((xs_n hg57 (qb49 _ _ hk46) nb55).trans ((xs_k hg54 (by decide)).trans ((xs_n hg51 hk46 nb49).trans ((xs_k hg48 (by decide)).trans ((xs_n hg45 (qb28 _ _ (qb23 _ _ (qb18 _ _ hk16))) nb43).trans ((xs_k hg42 (by decide)).trans ((xs_a hg41 (xne (qb626 _ _ hk611) (qb626 _ _ (qb608 _ _ hk595)) (by decide))).trans ((xs_a hg40 (xne (qb626 _ _ hk611) (qb626 _ _ (qb608 _ _ hk595)) (by decide))).trans ((xs_a hg39 (xne (qb626 _ _ hk611) (qb626 _ _ (qb608 _ _ hk595)) (by decide))).trans ((xs_a hg38 (xne (qb626 _ _ hk611) (qb626 _ _ (qb608 _ _ hk595)) (by decide))).trans ((xs_a hg37 (xne (qb626 _ _ hk611) (qb626 _ _ (qb608 _ _ hk595)) (by decide))).trans ((xs_a hg36 (xne (qb626 _ _ hk611) (qb626 _ _ (qb608 _ _ hk595)) (by decide))).trans ((xs_a hg35 (xne (qb626 _ _ hk611) (qb626 _ _ (qb608 _ _ hk595)) (by decide))).trans ((xs_a hg34 (xne (qb626 _ _ hk611) (qb626 _ _ (qb608 _ _ hk595)) (by decide))).trans ((xs_a hg33 (xne (qb626 _ _ hk611) (qb626 _ _ (qb608 _ _ hk595)) (by decide))).trans ((xs_a hg32 (xne (qb626 _ _ hk611) (qb626 _ _ (qb608 _ _ hk595)) (by decide))).trans ((xs_n hg30 (qb23 _ _ (qb18 _ _ hk16)) nb28).trans ((xs_k hg27 (by decide)).trans ((xs_n hg25 (qb18 _ _ hk16) nb23).trans ((xs_k hg22 (by decide)).trans ((xs_n hg20 hk16 nb18).trans ((xs_k hg17 (by decide)).trans ((xs_n hg15 (qb9 _ _ (qb5 _ _ (qb1 _ _ hs_a0))) nb13).trans ((xs_k hg12 (by decide)).trans ((xs_n hg11 (qb5 _ _ (qb1 _ _ hs_a0)) nb9).trans ((xs_k hg8 (by decide)).trans ((xs_n hg7 (qb1 _ _ hs_a0) nb5).trans ((xs_k hg4 (by decide)).trans ((xs_n hg3 hs_a0 nb1).trans hp1))))))))))))))))))))))))))))))))))))))))))))))))))))))))))))))))))))))))))))))))))))))))))))))))))))))))))))))))))))))))))))))))))))))))))), ⟨b461, ((xs_k hg645 (by decide)).trans ((xs_k hg644 (by decide)).trans ((xs_k hg643 (by decide)).trans ((xs_n hg628 hk611 nb626).trans ((xs_k hg625 (by decide)).trans ((xs_n hg610 (qb591 _ _ (qb574 _ _ (qb557 _ _ hk543))) nb608).trans ((xs_k hg607 (by decide)).trans ((xs_n hg593 (qb574 _ _ (qb557 _ _ hk543)) nb591).trans ((xs_k hg590 (by decide)).trans ((xs_n hg576 (qb557 _ _ hk543) nb574).trans ((xs_k hg573 (by decide)).trans ((xs_n hg559 hk543 nb557).trans ((xs_k hg556 (by decide)).trans ((xs_n hg542 (qb524 _ _ (qb508 _ _ (qb492 _ _ hk479))) nb540).trans ((xs_k hg539 (by decide)).trans ((xs_n hg526 (qb508 _ _ (qb492 _ _ hk479)) nb524).trans ((xs_k hg523 (by decide)).trans ((xs_n hg510 (qb492 _ _ hk479) nb508).trans ((xs_k hg507 (by decide)).trans ((xs_n hg494 hk479 nb492).trans ((xs_k hg491 (by decide)).trans ((xs_n hg478 (qb461 _ _ (qb446 _ _ (qb431 _ _ hk418))) nb476).trans (xs_s hg475))))))))))))))))))))))), (qb626 _ _ (qb608 _ _ hk605))⟩, ((xs_k hg645 (by decide)).trans ((xs_k hg644 (by decide)).trans ((xs_k hg643 (by decide)).trans ((xs_n hg628 hk611 nb626).trans ((xs_k hg625 (by decide)).trans ((xs_n hg610 (qb591 _ _ (qb574 _ _ (qb557 _ _ hk543))) nb608).trans ((xs_k hg607 (by decide)).trans ((xs_n hg593 (qb574 _ _ (qb557 _ _ hk543)) nb591).trans ((xs_k hg590 (by decide)).trans ((xs_n hg576 (qb557 _ _ hk543) nb574).trans ((xs_k hg573 (by decide)).trans ((xs_n hg559 hk543 nb557).trans ((xs_k hg556 (by decide)).trans ((xs_n hg542 (qb524 _ _ (qb508 _ _ (qb492 _ _ hk479))) nb540).trans ((xs_k hg539 (by decide)).trans ((xs_n hg526 (qb508 _ _ (qb492 _ _ hk479)) nb524).trans ((xs_k hg523 (by decide)).trans ((xs_n hg510 (qb492 _ _ hk479) nb508).trans ((xs_k hg507 (by decide)).trans ((xs_n hg494 hk479 nb492).trans ((xs_k hg491 (by decide)).trans ((xs_n hg478 (qb461 _ _ (qb446 _ _ (qb431 _ _ hk418))) nb476).trans ((xs_k hg475 (by decide)).trans ((xs_n hg463 (qb446 _ _ (qb431 _ _ hk418)) nb461).trans ((xs_k hg460 (by decide)).trans ((xs_n hg448 (qb431 _ _ hk418) nb446).trans ((xs_k hg445 (by decide)).trans ((xs_n hg433 hk418 nb431).trans ((xs_k hg430 (by decide)).trans ((xs_k hg429 (by decide)).trans ((xs_n hg417 (qb401 _ _ (qb387 _ _ (qb373 _ _ hk362))) nb415).trans ((xs_k hg414 (by decide)).trans ((xs_n hg403 (qb387 _ _ (qb373 _ _ hk362)) nb401).trans ((xs_k hg400 (by decide)).trans ((xs_n hg389 (qb373 _ _ hk362) nb387).trans ((xs_k hg386 (by decide)).trans ((xs_n hg375 hk362 nb373).trans ((xs_k hg372 (by decide)).trans ((xs_n hg361 (qb346 _ _ (qb333 _ _ (qb320 _ _ hk310))) nb359).trans ((xs_k hg358 (by decide)).trans ((xs_n hg348 (qb333 _ _ (qb320 _ _ hk310)) nb346).trans ((xs_k hg345 (by decide)).trans ((xs_n hg335 (qb320 _ _ hk310) nb333).trans ((xs_k hg332 (by decide)).trans ((xs_n hg322 hk310 nb320).trans ((xs_k hg319 (by decide)).trans ((xs_n hg309 (qb294 _ _ (qb282 _ _ (qb270 _ _ hk261))) nb307).trans ((xs_k hg306 (by decide)).trans ((xs_k hg305 (by decide)).trans ((xs_n hg296 (qb282 _ _ (qb270 _ _ hk261)) nb294).trans ((xs_k hg293 (by decide)).trans ((xs_n hg284 (qb270 _ _ hk261) nb282).trans ((xs_k hg281 (by decide)).trans ((xs_n hg272 hk261 nb270).trans ((xs_k hg269 (by decide)).trans ((xs_n hg260 (qb247 _ _ (qb236 _ _ (qb225 _ _ hk217))) nb258).trans ((xs_k hg257 (by decide)).trans ((xs_n hg249 (qb236 _ _ (qb225 _ _ hk217)) nb247).trans ((xs_k hg246 (by decide)).trans ((xs_n hg238 (qb225 _ _ hk217) nb236).trans ((xs_k hg235 (by decide)).trans ((xs_n hg227 hk217 nb225).trans ((xs_k hg224 (by decide)).trans ((xs_n hg216 (qb204 _ _ (qb194 _ _ (qb183 _ _ hk176))) nb214).trans ((xs_k hg213 (by decide)).trans ((xs_n hg206 (qb194 _ _ (qb183 _ _ hk176)) nb204).trans ((xs_k hg203 (by decide)).trans ((xs_n hg196 (qb183 _ _ hk176) nb194).trans ((xs_k hg193 (by decide)).trans ((xs_k hg192 (by decide)).trans ((xs_n hg185 hk176 nb183).trans ((xs_k hg182 (by decide)).trans ((xs_n hg175 (qb164 _ _ (qb155 _ _ (qb146 _ _ hk140))) nb173).trans ((xs_k hg172 (by decide)).trans ((xs_n hg166 (qb155 _ _ (qb146 _ _ hk140)) nb164).trans ((xs_k hg163 (by decide)).trans ((xs_n hg157 (qb146 _ _ hk140) nb155).trans ((xs_k hg154 (by decide)).trans ((xs_n hg148 hk140 nb146).trans ((xs_k hg145 (by decide)).trans ((xs_n hg139 (qb129 _ _ (qb121 _ _ (qb113 _ _ hk108))) nb137).trans ((xs_k hg136 (by decide)).trans ((xs_n hg131 (qb121 _ _ (qb113 _ _ hk108)) nb129).trans ((xs_k hg128 (by decide)).trans ((xs_n hg123 (qb113 _ _ hk108) nb121).trans ((xs_k hg120 (by decide)).trans ((xs_n hg115 hk108 nb113).trans ((xs_k hg112 (by decide)).trans ((xs_n hg107 (qb98 _ _ (qb91 _ _ (qb84 _ _ hk74))) nb105).trans ((xs_k hg104 (by decide)).trans ((xs_n hg100 (qb91 _ _ (qb84 _ _ hk74)) nb98).trans ((xs_k hg97 (by decide)).trans ((xs_n hg93 (qb84 _ _ hk74) nb91).trans ((xs_k hg90 (by decide)).trans ((xs_n hg86 hk74 nb84).trans ((xs_k hg83 (by decide)).trans ((xs_a hg82 (xne (qb626 _ _ hk611) (qb626 _ _ hk614) (by decide))).trans ((xs_a hg81 (xne (qb626 _ _ hk611) (qb626 _ _ hk614) (by decide))).trans ((xs_a hg80 (xne (qb626 _ _ hk611) (qb626 _ _ hk614) (by decide))).trans ((xs_a hg79 (xne (qb626 _ _ hk611) (qb626 _ _ hk614) (by decide))).trans ((xs_a hg78 (xne (qb626 _ _ hk611) (qb626 _ _ hk614) (by decide))).trans ((xs_a hg77 (xne (qb626 _ _ hk611) (qb626 _ _ hk614) (by decide))).trans ((xs_n hg73 (qb61 _ _ (qb55 _ _ (qb49 _ _ hk46))) nb71).trans ((xs_k hg70 (by decide)).trans ((xs_a hg69 (xne (qb626 _ _ hk611) (qb626 _ _ (qb608 _ _ hk596)) (by decide))).trans ((xs_a hg68 (xne (qb626 _ _ hk611) (qb626 _ _ (qb608 _ _ hk596)) (by decide))).trans ((xs_a hg67 (xne (qb626 _ _ hk611) (qb626 _ _ (qb608 _ _ hk596)) (by decide))).trans ((xs_a hg66 (xne (qb626 _ _ hk611) (qb626 _ _ (qb608 _ _ hk596)) (by decide))).trans ((xs_n hg63 (qb55 _ _ (qb49 _ _ hk46)) nb61).trans ((xs_k hg60 (by decide)).trans ((xs_n hg57 (qb49 _ _ hk46) nb55).trans ((xs_k hg54 (by decide)).trans ((xs_n hg51 hk46 nb49).trans ((xs_k hg48 (by decide)).trans ((xs_n hg45 (qb28 _ _ (qb23 _ _ (qb18 _ _ hk16))) nb43).trans ((xs_k hg42 (by decide)).trans ((xs_a hg41 (xne (qb626 _ _ hk611) (qb626 _ _ (qb608 _ _ hk595)) (by decide))).trans ((xs_a hg40 (xne (qb626 _ _ hk611) (qb626 _ _ (qb608 _ _ hk595)) (by decide))).trans ((xs_a hg39 (xne (qb626 _ _ hk611) (qb626 _ _ (qb608 _ _ hk595)) (by decide))).trans ((xs_a hg38 (xne (qb626 _ _ hk611) (qb626 _ _ (qb608 _ _ hk595)) (by decide))).trans ((xs_a hg37 (xne (qb626 _ _ hk611) (qb626 _ _ (qb608 _ _ hk595)) (by decide))).trans ((xs_a hg36 (xne (qb626 _ _ hk611) (qb626 _ _ (qb608 _ _ hk595)) (by decide))).trans ((xs_a hg35 (xne (qb626 _ _ hk611) (qb626 _ _ (qb608 _ _ hk595)) (by decide))).trans ((xs_a hg34 (xne (qb626 _ _ hk611) (qb626 _ _ (qb608 _ _ hk595)) (by decide))).trans ((xs_a hg33 (xne (qb626 _ _ hk611) (qb626 _ _ (qb608 _ _ hk595)) (by decide))).trans ((xs_a hg32 (xne (qb626 _ _ hk611) (qb626 _ _ (qb608 _ _ hk595)) (by decide))).trans ((xs_n hg30 (qb23 _ _ (qb18 _ _ hk16)) nb28).trans ((xs_k hg27 (by decide)).trans ((xs_n hg25 (qb18 _ _ hk16) nb23).trans ((xs_k hg22 (by decide)).trans ((xs_n hg20 hk16 nb18).trans ((xs_k hg17 (by decide)).trans ((xs_n hg15 (qb9 _ _ (qb5 _ _ (qb1 _ _ hs_a0))) nb13).trans ((xs_k hg12 (by decide)).trans ((xs_n hg11 (qb5 _ _ (qb1 _ _ hs_a0)) nb9).trans ((xs_k hg8 (by decide)).trans ((xs_n hg7 (qb1 _ _ hs_a0) nb5).trans ((xs_k hg4 (by decide)).trans ((xs_n hg3 hs_a0 nb1).trans hp25))))))))))))))))))))))))))))))))))))))))))))))))))))))))))))))))))))))))))))))))))))))))))))))))))))))))))))))))))))))))))))))))))))))))))), ((xs_k hg645 (by decide)).trans ((xs_k hg644 (by decide)).trans ((xs_k hg643 (by decide)).trans ((xs_n hg628 hk611 nb626).trans ((xs_k hg625 (by decide)).trans ((xs_n hg610 (qb591 _ _ (qb574 _ _ (qb557 _ _ hk543))) nb608).trans ((xs_k hg607 (by decide)).trans ((xs_n hg593 (qb574 _ _ (qb557 _ _ hk543)) nb591).trans ((xs_k hg590 (by decide)).trans ((xs_n hg576 (qb557 _ _ hk543) nb574).trans ((xs_k hg573 (by decide)).trans ((xs_n hg559 hk543 nb557).trans ((xs_k hg556 (by decide)).trans ((xs_n hg542 (qb524 _ _ (qb508 _ _ (qb492 _ _ hk479))) nb540).trans ((xs_k hg539 (by decide)).trans ((xs_n hg526 (qb508 _ _ (qb492 _ _ hk479)) nb524).trans ((xs_k hg523 (by decide)).trans ((xs_n hg510 (qb492 _ _ hk479) nb508).trans ((xs_k hg507 (by decide)).trans ((xs_n hg494 hk479 nb492).trans ((xs_k hg491 (by decide)).trans ((xs_n hg478 (qb461 _ _ (qb446 _ _ (qb431 _ _ hk418))) nb476).trans ((xs_k hg475 (by decide)).trans ((xs_n hg463 (qb446 _ _ (qb431 _ _ hk418)) nb461).trans ((xs_k hg460 (by decide)).trans ((xs_n hg448 (qb431 _ _ hk418) nb446).trans ((xs_k hg445 (by decide)).trans ((xs_n hg433 hk418 nb431).trans ((xs_k hg430 (by decide)).trans ((xs_k hg429 (by decide)).trans ((xs_n hg417 (qb401 _ _ (qb387 _ _ (qb373 _ _ hk362))) nb415).trans ((xs_k hg414 (by decide)).trans ((xs_n hg403 (qb387 _ _ (qb373 _ _ hk362)) nb401).trans ((xs_k hg400 (by decide)).trans ((xs_n hg389 (qb373 _ _ hk362) nb387).trans ((xs_k hg386 (by decide)).trans ((xs_n hg375 hk362 nb373).trans ((xs_k hg372 (by decide)).trans ((xs_n hg361 (qb346 _ _ (qb333 _ _ (qb320 _ _ hk310))) nb359).trans ((xs_k hg358 (by decide)).trans ((xs_n hg348 (qb333 _ _ (qb320 _ _ hk310)) nb346).trans ((xs_k hg345 (by decide)).trans ((xs_n hg335 (qb320 _ _ hk310) nb333).trans ((xs_k hg332 (by decide)).trans ((xs_n hg322 hk310 nb320).trans ((xs_k hg319 (by decide)).trans ((xs_n hg309 (qb294 _ _ (qb282 _ _ (qb270 _ _ hk261))) nb307).trans ((xs_k hg306 (by decide)).trans ((xs_k hg305 (by decide)).trans ((xs_n hg296 (qb282 _ _ (qb270 _ _ hk261)) nb294).trans ((xs_k hg293 (by decide)).trans ((xs_n hg284 (qb270 _ _ hk261) nb282).trans ((xs_k hg281 (by decide)).trans ((xs_n hg272 hk261 nb270).trans ((xs_k hg269 (by decide)).trans ((xs_n hg260 (qb247 _ _ (qb236 _ _ (qb225 _ _ hk217))) nb258).trans ((xs_k hg257 (by decide)).trans ((xs_n hg249 (qb236 _ _ (qb225 _ _ hk217)) nb247).trans ((xs_k hg246 (by decide)).trans ((xs_n hg238 (qb225 _ _ hk217) nb236).trans ((xs_k hg235 (by decide)).trans ((xs_n hg227 hk217 nb225).trans ((xs_k hg224 (by decide)).trans ((xs_n hg216 (qb204 _ _ (qb194 _ _ (qb183 _ _ hk176))) nb214).trans ((xs_k hg213 (by decide)).trans ((xs_n hg206 (qb194 _ _ (qb183 _ _ hk176)) nb204).trans ((xs_k hg203 (by decide)).trans ((xs_n hg196 (qb183 _ _ hk176) nb194).trans ((xs_k hg193 (by decide)).trans ((xs_k hg192 (by decide)).trans ((xs_n hg185 hk176 nb183).trans ((xs_k hg182 (by decide)).trans ((xs_n hg175 (qb164 _ _ (qb155 _ _ (qb146 _ _ hk140))) nb173).trans ((xs_k hg172 (by decide)).trans ((xs_n hg166 (qb155 _ _ (qb146 _ _ hk140)) nb164).trans ((xs_k hg163 (by decide)).trans ((xs_n hg157 (qb146 _ _ hk140) nb155).trans ((xs_k hg154 (by decide)).trans ((xs_n hg148 hk140 nb146).trans ((xs_k hg145 (by decide)).trans ((xs_n hg139 (qb129 _ _ (qb121 _ _ (qb113 _ _ hk108))) nb137).trans ((xs_k hg136 (by decide)).trans ((xs_n hg131 (qb121 _ _ (qb113 _ _ hk108)) nb129).trans ((xs_k hg128 (by decide)).trans ((xs_n hg123 (qb113 _ _ hk108) nb121).trans ((xs_k hg120 (by decide)).trans ((xs_n hg115 hk108 nb113).trans ((xs_k hg112 (by decide)).trans ((xs_n hg107 (qb98 _ _ (qb91 _ _ (qb84 _ _ hk74))) nb105).trans ((xs_k hg104 (by decide)).trans ((xs_n hg100 (qb91 _ _ (qb84 _ _ hk74)) nb98).trans ((xs_k hg97 (by decide)).trans ((xs_n hg93 (qb84 _ _ hk74) nb91).trans ((xs_k hg90 (by decide)).trans ((xs_n hg86 hk74 nb84).trans ((xs_k hg83 (by decide)).trans ((xs_a hg82 (xne (qb626 _ _ hk611) (qb626 _ _ hk614) (by decide))).trans ((xs_a hg81 (xne (qb626 _ _ hk611) (qb626 _ _ hk614) (by decide))).trans ((xs_a hg80 (xne (qb626 _ _ hk611) (qb626 _ _ hk614) (by decide))).trans ((xs_a hg79 (xne (qb626 _ _ hk611) (qb626 _ _ hk614) (by decide))).trans ((xs_a hg78 (xne (qb626 _ _ hk611) (qb626 _ _ hk614) (by decide))).trans ((xs_a hg77 (xne (qb626 _ _ hk611) (qb626 _ _ hk614) (by decide))).trans ((xs_n hg73 (qb61 _ _ (qb55 _ _ (qb49 _ _ hk46))) nb71).trans ((xs_k hg70 (by decide)).trans ((xs_a hg69 (xne (qb626 _ _ hk611) (qb626 _ _ (qb608 _ _ hk596)) (by decide))).trans ((xs_a hg68 (xne (qb626 _ _ hk611) (qb626 _ _ (qb608 _ _ hk596)) (by decide))).trans ((xs_a hg67 (xne (qb626 _ _ hk611) (qb626 _ _ (qb608 _ _ hk596)) (by decide))).trans ((xs_a hg66 (xne (qb626 _ _ hk611) (qb626 _ _ (qb608 _ _ hk596)) (by decide))).trans ((xs_n hg63 (qb55 _ _ (qb49 _ _ hk46)) nb61).trans ((xs_k hg60 (by decide)).trans ((xs_n hg57 (qb49 _ _ hk46) nb55).trans ((xs_k hg54 (by decide)).trans ((xs_n hg51 hk46 nb49).trans ((xs_k hg48 (by decide)).trans ((xs_n hg45 (qb28 _ _ (qb23 _ _ (qb18 _ _ hk16))) nb43).trans ((xs_k hg42 (by decide)).trans ((xs_a hg41 (xne (qb626 _ _ hk611) (qb626 _ _ (qb608 _ _ hk595)) (by decide))).trans ((xs_a hg40 (xne (qb626 _ _ hk611) (qb626 _ _ (qb608 _ _ hk595)) (by decide))).trans ((xs_a hg39 (xne (qb626 _ _ hk611) (qb626 _ _ (qb608 _ _ hk595)) (by decide))).trans ((xs_a hg38 (xne (qb626 _ _ hk611) (qb626 _ _ (qb608 _ _ hk595)) (by decide))).trans ((xs_a hg37 (xne (qb626 _ _ hk611) (qb626 _ _ (qb608 _ _ hk595)) (by decide))).trans ((xs_a hg36 (xne (qb626 _ _ hk611) (qb626 _ _ (qb608 _ _ hk595)) (by decide))).trans ((xs_a hg35 (xne (qb626 _ _ hk611) (qb626 _ _ (qb608 _ _ hk595)) (by decide))).trans ((xs_a hg34 (xne (qb626 _ _ hk611) (qb626 _ _ (qb608 _ _ hk595)) (by decide))).trans ((xs_a hg33 (xne (qb626 _ _ hk611) (qb626 _ _ (qb608 _ _ hk595)) (by decide))).trans ((xs_a hg32 (xne (qb626 _ _ hk611) (qb626 _ _ (qb608 _ _ hk595)) (by decide))).trans ((xs_n hg30 (qb23 _ _ (qb18 _ _ hk16)) nb28).trans ((xs_k hg27 (by decide)).trans ((xs_n hg25 (qb18 _ _ hk16) nb23).trans ((xs_k hg22 (by decide)).trans ((xs_n hg20 hk16 nb18).trans ((xs_k hg17 (by decide)).trans ((xs_n hg15 (qb9 _ _ (qb5 _ _ (qb1 _ _ hs_a0))) nb13).trans ((xs_k hg12 (by decide)).trans ((xs_n hg11 (qb5 _ _ (qb1 _ _ hs_a0)) nb9).trans ((xs_k hg8 (by decide)).trans ((xs_n hg7 (qb1 _ _ hs_a0) nb5).trans ((xs_k hg4 (by decide)).trans ((xs_n hg3 hs_a0 nb1).trans hp26))))))))))))))))))))))))))))))))))))))))))))))))))))))))))))))))))))))))))))))))))))))))))))))))))))))))))))))))))))))))))))))))))))))))))), ⟨b91, b121, b129, b137, ((xs_k hg645 (by decide)).trans ((xs_k hg644 (by decide)).trans ((xs_k hg643 (by decide)).trans ((xs_n hg628 hk611 nb626).trans ((xs_k hg625 (by decide)).trans ((xs_n hg610 (qb591 _ _ (qb574 _ _ (qb557 _ _ hk543))) nb608).trans ((xs_k hg607 (by decide)).trans ((xs_n hg593 (qb574 _ _ (qb557 _ _ hk543)) nb591).trans ((xs_k hg590 (by decide)).trans ((xs_n hg576 (qb557 _ _ hk543) nb574).trans ((xs_k hg573 (by decide)).trans ((xs_n hg559 hk543 nb557).trans ((xs_k hg556 (by decide)).trans ((xs_n hg542 (qb524 _ _ (qb508 _ _ (qb492 _ _ hk479))) nb540).trans ((xs_k hg539 (by decide)).trans ((xs_n hg526 (qb508 _ _ (qb492 _ _ hk479)) nb524).trans ((xs_k hg523 (by decide)).trans ((xs_n hg510 (qb492 _ _ hk479) nb508).trans ((xs_k hg507 (by decide)).trans ((xs_n hg494 hk479 nb492).trans ((xs_k hg491 (by decide)).trans ((xs_n hg478 (qb461 _ _ (qb446 _ _ (qb431 _ _ hk418))) nb476).trans ((xs_k hg475 (by decide)).trans ((xs_n hg463 (qb446 _ _ (qb431 _ _ hk418)) nb461).trans ((xs_k hg460 (by decide)).trans ((xs_n hg448 (qb431 _ _ hk418) nb446).trans ((xs_k hg445 (by decide)).trans ((xs_n hg433 hk418 nb431).trans ((xs_k hg430 (by decide)).trans ((xs_k hg429 (by decide)).trans ((xs_n hg417 (qb401 _ _ (qb387 _ _ (qb373 _ _ hk362))) nb415).trans ((xs_k hg414 (by decide)).trans ((xs_n hg403 (qb387 _ _ (qb373 _ _ hk362)) nb401).trans ((xs_k hg400 (by decide)).trans ((xs_n hg389 (qb373 _ _ hk362) nb387).trans ((xs_k hg386 (by decide)).trans ((xs_n hg375 hk362 nb373).trans ((xs_k hg372 (by decide)).trans ((xs_n hg361 (qb346 _ _ (qb333 _ _ (qb320 _ _ hk310))) nb359).trans ((xs_k hg358 (by decide)).trans ((xs_n hg348 (qb333 _ _ (qb320 _ _ hk310)) nb346).trans ((xs_k hg345 (by decide)).trans ((xs_n hg335 (qb320 _ _ hk310) nb333).trans ((xs_k hg332 (by decide)).trans ((xs_n hg322 hk310 nb320).trans ((xs_k hg319 (by decide)).trans ((xs_n hg309 (qb294 _ _ (qb282 _ _ (qb270 _ _ hk261))) nb307).trans ((xs_k hg306 (by decide)).trans ((xs_k hg305 (by decide)).trans ((xs_n hg296 (qb282 _ _ (qb270 _ _ hk261)) nb294).trans ((xs_k hg293 (by decide)).trans ((xs_n hg284 (qb270 _ _ hk261) nb282).trans ((xs_k hg281 (by decide)).trans ((xs_n hg272 hk261 nb270).trans ((xs_k hg269 (by decide)).trans ((xs_n hg260 (qb247 _ _ (qb236 _ _ (qb225 _ _ hk217))) nb258).trans ((xs_k hg257 (by decide)).trans ((xs_n hg249 (qb236 _ _ (qb225 _ _ hk217)) nb247).trans ((xs_k hg246 (by decide)).trans ((xs_n hg238 (qb225 _ _ hk217) nb236).trans ((xs_k hg235 (by decide)).trans ((xs_n hg227 hk217 nb225).trans ((xs_k hg224 (by decide)).trans ((xs_n hg216 (qb204 _ _ (qb194 _ _ (qb183 _ _ hk176))) nb214).trans ((xs_k hg213 (by decide)).trans ((xs_n hg206 (qb194 _ _ (qb183 _ _ hk176)) nb204).trans ((xs_k hg203 (by decide)).trans ((xs_n hg196 (qb183 _ _ hk176) nb194).trans ((xs_k hg193 (by decide)).trans ((xs_k hg192 (by decide)).trans ((xs_n hg185 hk176 nb183).trans ((xs_k hg182 (by decide)).trans ((xs_n hg175 (qb164 _ _ (qb155 _ _ (qb146 _ _ hk140))) nb173).trans ((xs_k hg172 (by decide)).trans ((xs_n hg166 (qb155 _ _ (qb146 _ _ hk140)) nb164).trans ((xs_k hg163 (by decide)).trans ((xs_n hg157 (qb146 _ _ hk140) nb155).trans ((xs_k hg154 (by decide)).trans ((xs_n hg148 hk140 nb146).trans ((xs_k hg145 (by decide)).trans ((xs_n hg139 (qb129 _ _ (qb121 _ _ (qb113 _ _ hk108))) nb137).trans ((xs_k hg136 (by decide)).trans ((xs_n hg131 (qb121 _ _ (qb113 _ _ hk108)) nb129).trans ((xs_k hg128 (by decide)).trans ((xs_n hg123 (qb113 _ _ hk108) nb121).trans ((xs_k hg120 (by decide)).trans ((xs_n hg115 hk108 nb113).trans ((xs_k hg112 (by decide)).trans ((xs_n hg107 (qb98 _ _ (qb91 _ _ (qb84 _ _ hk74))) nb105).trans ((xs_k hg104 (by decide)).trans ((xs_n hg100 (qb91 _ _ (qb84 _ _ hk74)) nb98).trans (xs_s hg97)))))))))))))))))))))))))))))))))))))))))))))))))))))))))))))))))))))))))))))))))))))))))))), (qb626 _ _ (qb608 _ _ (qb591 _ _ hk580))), ((xs_k hg645 (by decide)).trans ((xs_k hg644 (by decide)).trans ((xs_k hg643 (by decide)).trans ((xs_n hg628 hk611 nb626).trans ((xs_k hg625 (by decide)).trans ((xs_n hg610 (qb591 _ _ (qb574 _ _ (qb557 _ _ hk543))) nb608).trans ((xs_k hg607 (by decide)).trans ((xs_n hg593 (qb574 _ _ (qb557 _ _ hk543)) nb591).trans ((xs_k hg590 (by decide)).trans ((xs_n hg576 (qb557 _ _ hk543) nb574).trans ((xs_k hg573 (by decide)).trans ((xs_n hg559 hk543 nb557).trans ((xs_k hg556 (by decide)).trans ((xs_n hg542 (qb524 _ _ (qb508 _ _ (qb492 _ _ hk479))) nb540).trans ((xs_k hg539 (by decide)).trans ((xs_n hg526 (qb508 _ _ (qb492 _ _ hk479)) nb524).trans ((xs_k hg523 (by decide)).trans ((xs_n hg510 (qb492 _ _ hk479) nb508).trans ((xs_k hg507 (by decide)).trans ((xs_n hg494 hk479 nb492).trans ((xs_k hg491 (by decide)).trans ((xs_n hg478 (qb461 _ _ (qb446 _ _ (qb431 _ _ hk418))) nb476).trans ((xs_k hg475 (by decide)).trans ((xs_n hg463 (qb446 _ _ (qb431 _ _ hk418)) nb461).trans ((xs_k hg460 (by decide)).trans ((xs_n hg448 (qb431 _ _ hk418) nb446).trans ((xs_k hg445 (by decide)).trans ((xs_n hg433 hk418 nb431).trans ((xs_k hg430 (by decide)).trans ((xs_k hg429 (by decide)).trans ((xs_n hg417 (qb401 _ _ (qb387 _ _ (qb373 _ _ hk362))) nb415).trans ((xs_k hg414 (by decide)).trans ((xs_n hg403 (qb387 _ _ (qb373 _ _ hk362)) nb401).trans ((xs_k hg400 (by decide)).trans ((xs_n hg389 (qb373 _ _ hk362) nb387).trans ((xs_k hg386 (by decide)).trans ((xs_n hg375 hk362 nb373).trans ((xs_k hg372 (by decide)).trans ((xs_n hg361 (qb346 _ _ (qb333 _ _ (qb320 _ _ hk310))) nb359).trans ((xs_k hg358 (by decide)).trans ((xs_n hg348 (qb333 _ _ (qb320 _ _ hk310)) nb346).trans ((xs_k hg345 (by decide)).trans ((xs_n hg335 (qb320 _ _ hk310) nb333).trans ((xs_k hg332 (by decide)).trans ((xs_n hg322 hk310 nb320).trans ((xs_k hg319 (by decide)).trans ((xs_n hg309 (qb294 _ _ (qb282 _ _ (qb270 _ _ hk261))) nb307).trans ((xs_k hg306 (by decide)).trans ((xs_k hg305 (by decide)).trans ((xs_n hg296 (qb282 _ _ (qb270 _ _ hk261)) nb294).trans ((xs_k hg293 (by decide)).trans ((xs_n hg284 (qb270 _ _ hk261) nb282).trans ((xs_k hg281 (by decide)).trans ((xs_n hg272 hk261 nb270).trans ((xs_k hg269 (by decide)).trans ((xs_n hg260 (qb247 _ _ (qb236 _ _ (qb225 _ _ hk217))) nb258).trans ((xs_k hg257 (by decide)).trans ((xs_n hg249 (qb236 _ _ (qb225 _ _ hk217)) nb247).trans ((xs_k hg246 (by decide)).trans ((xs_n hg238 (qb225 _ _ hk217) nb236).trans ((xs_k hg235 (by decide)).trans ((xs_n hg227 hk217 nb225).trans ((xs_k hg224 (by decide)).trans ((xs_n hg216 (qb204 _ _ (qb194 _ _ (qb183 _ _ hk176))) nb214).trans ((xs_k hg213 (by decide)).trans ((xs_n hg206 (qb194 _ _ (qb183 _ _ hk176)) nb204).trans ((xs_k hg203 (by decide)).trans ((xs_n hg196 (qb183 _ _ hk176) nb194).trans ((xs_k hg193 (by decide)).trans ((xs_k hg192 (by decide)).trans ((xs_n hg185 hk176 nb183).trans ((xs_k hg182 (by decide)).trans ((xs_n hg175 (qb164 _ _ (qb155 _ _ (qb146 _ _ hk140))) nb173).trans ((xs_k hg172 (by decide)).trans ((xs_n hg166 (qb155 _ _ (qb146 _ _ hk140)) nb164).trans ((xs_k hg163 (by decide)).trans ((xs_n hg157 (qb146 _ _ hk140) nb155).trans ((xs_k hg154 (by decide)).trans ((xs_n hg148 hk140 nb146).trans ((xs_k hg145 (by decide)).trans ((xs_n hg139 (qb129 _ _ (qb121 _ _ (qb113 _ _ hk108))) nb137).trans ((xs_k hg136 (by decide)).trans ((xs_n hg131 (qb121 _ _ (qb113 _ _ hk108)) nb129).trans (xs_s hg128)))))))))))))))))))))))))))))))))))))))))))))))))))))))))))))))))))))))))))))))))))), (qb626 _ _ (qb608 _ _ (qb591 _ _ hk581))), ((xs_k hg645 (by decide)).trans ((xs_k hg644 (by decide)).trans ((xs_k hg643 (by decide)).trans ((xs_n hg628 hk611 nb626).trans ((xs_k hg625 (by decide)).trans ((xs_n hg610 (qb591 _ _ (qb574 _ _ (qb557 _ _ hk543))) nb608).trans ((xs_k hg607 (by decide)).trans ((xs_n hg593 (qb574 _ _ (qb557 _ _ hk543)) nb591).trans ((xs_k hg590 (by decide)).trans ((xs_n hg576 (qb557 _ _ hk543) nb574).trans ((xs_k hg573 (by decide)).trans ((xs_n hg559 hk543 nb557).trans ((xs_k hg556 (by decide)).trans ((xs_n hg542 (qb524 _ _ (qb508 _ _ (qb492 _ _ hk479))) nb540).trans ((xs_k hg539 (by decide)).trans ((xs_n hg526 (qb508 _ _ (qb492 _ _ hk479)) nb524).trans ((xs_k hg523 (by decide)).trans ((xs_n hg510 (qb492 _ _ hk479) nb508).trans ((xs_k hg507 (by decide)).trans ((xs_n hg494 hk479 nb492).trans ((xs_k hg491 (by decide)).trans ((xs_n hg478 (qb461 _ _ (qb446 _ _ (qb431 _ _ hk418))) nb476).trans ((xs_k hg475 (by decide)).trans ((xs_n hg463 (qb446 _ _ (qb431 _ _ hk418)) nb461).trans ((xs_k hg460 (by decide)).trans ((xs_n hg448 (qb431 _ _ hk418) nb446).trans ((xs_k hg445 (by decide)).trans ((xs_n hg433 hk418 nb431).trans ((xs_k hg430 (by decide)).trans ((xs_k hg429 (by decide)).trans ((xs_n hg417 (qb401 _ _ (qb387 _ _ (qb373 _ _ hk362))) nb415).trans ((xs_k hg414 (by decide)).trans ((xs_n hg403 (qb387 _ _ (qb373 _ _ hk362)) nb401).trans ((xs_k hg400 (by decide)).trans ((xs_n hg389 (qb373 _ _ hk362) nb387).trans ((xs_k hg386 (by decide)).trans ((xs_n hg375 hk362 nb373).trans ((xs_k hg372 (by decide)).trans ((xs_n hg361 (qb346 _ _ (qb333 _ _ (qb320 _ _ hk310))) nb359).trans ((xs_k hg358 (by decide)).trans ((xs_n hg348 (qb333 _ _ (qb320 _ _ hk310)) nb346).trans ((xs_k hg345 (by decide)).trans ((xs_n hg335 (qb320 _ _ hk310) nb333).trans ((xs_k hg332 (by decide)).trans ((xs_n hg322 hk310 nb320).trans ((xs_k hg319 (by decide)).trans ((xs_n hg309 (qb294 _ _ (qb282 _ _ (qb270 _ _ hk261))) nb307).trans ((xs_k hg306 (by decide)).trans ((xs_k hg305 (by decide)).trans ((xs_n hg296 (qb282 _ _ (qb270 _ _ hk261)) nb294).trans ((xs_k hg293 (by decide)).trans ((xs_n hg284 (qb270 _ _ hk261) nb282).trans ((xs_k hg281 (by decide)).trans ((xs_n hg272 hk261 nb270).trans ((xs_k hg269 (by decide)).trans ((xs_n hg260 (qb247 _ _ (qb236 _ _ (qb225 _ _ hk217))) nb258).trans ((xs_k hg257 (by decide)).trans ((xs_n hg249 (qb236 _ _ (qb225 _ _ hk217)) nb247).trans ((xs_k hg246 (by decide)).trans ((xs_n hg238 (qb225 _ _ hk217) nb236).trans ((xs_k hg235 (by decide)).trans ((xs_n hg227 hk217 nb225).trans ((xs_k hg224 (by decide)).trans ((xs_n hg216 (qb204 _ _ (qb194 _ _ (qb183 _ _ hk176))) nb214).trans ((xs_k hg213 (by decide)).trans ((xs_n hg206 (qb194 _ _ (qb183 _ _ hk176)) nb204).trans ((xs_k hg203 (by decide)).trans ((xs_n hg196 (qb183 _ _ hk176) nb194).trans ((xs_k hg193 (by decide)).trans ((xs_k hg192 (by decide)).trans ((xs_n hg185 hk176 nb183).trans ((xs_k hg182 (by decide)).trans ((xs_n hg175 (qb164 _ _ (qb155 _ _ (qb146 _ _ hk140))) nb173).trans ((xs_k hg172 (by decide)).trans ((xs_n hg166 (qb155 _ _ (qb146 _ _ hk140)) nb164).trans ((xs_k hg163 (by decide)).trans ((xs_n hg157 (qb146 _ _ hk140) nb155).trans ((xs_k hg154 (by decide)).trans ((xs_n hg148 hk140 nb146).trans ((xs_k hg145 (by decide)).trans ((xs_n hg139 (qb129 _ _ (qb121 _ _ (qb113 _ _ hk108))) nb137).trans (xs_s hg136)))))))))))))))))))))))))))))))))))))))))))))))))))))))))))))))))))))))))))))))))), (qb626 _ _ (qb608 _ _ hk598)), ((xs_k hg645 (by decide)).trans ((xs_k hg644 (by decide)).trans ((xs_k hg643 (by decide)).trans ((xs_n hg628 hk611 nb626).trans ((xs_k hg625 (by decide)).trans ((xs_n hg610 (qb591 _ _ (qb574 _ _ (qb557 _ _ hk543))) nb608).trans ((xs_k hg607 (by decide)).trans ((xs_n hg593 (qb574 _ _ (qb557 _ _ hk543)) nb591).trans ((xs_k hg590 (by decide)).trans ((xs_n hg576 (qb557 _ _ hk543) nb574).trans ((xs_k hg573 (by decide)).trans ((xs_n hg559 hk543 nb557).trans ((xs_k hg556 (by decide)).trans ((xs_n hg542 (qb524 _ _ (qb508 _ _ (qb492 _ _ hk479))) nb540).trans ((xs_k hg539 (by decide)).trans ((xs_n hg526 (qb508 _ _ (qb492 _ _ hk479)) nb524).trans ((xs_k hg523 (by decide)).trans ((xs_n hg510 (qb492 _ _ hk479) nb508).trans ((xs_k hg507 (by decide)).trans ((xs_n hg494 hk479 nb492).trans ((xs_k hg491 (by decide)).trans ((xs_n hg478 (qb461 _ _ (qb446 _ _ (qb431 _ _ hk418))) nb476).trans ((xs_k hg475 (by decide)).trans ((xs_n hg463 (qb446 _ _ (qb431 _ _ hk418)) nb461).trans ((xs_k hg460 (by decide)).trans ((xs_n hg448 (qb431 _ _ hk418) nb446).trans ((xs_k hg445 (by decide)).trans ((xs_n hg433 hk418 nb431).trans ((xs_k hg430 (by decide)).trans ((xs_k hg429 (by decide)).trans ((xs_n hg417 (qb401 _ _ (qb387 _ _ (qb373 _ _ hk362))) nb415).trans ((xs_k hg414 (by decide)).trans ((xs_n hg403 (qb387 _ _ (qb373 _ _ hk362)) nb401).trans ((xs_k hg400 (by decide)).trans ((xs_n hg389 (qb373 _ _ hk362) nb387).trans ((xs_k hg386 (by decide)).trans ((xs_n hg375 hk362 nb373).trans ((xs_k hg372 (by decide)).trans ((xs_n hg361 (qb346 _ _ (qb333 _ _ (qb320 _ _ hk310))) nb359).trans ((xs_k hg358 (by decide)).trans ((xs_n hg348 (qb333 _ _ (qb320 _ _ hk310)) nb346).trans ((xs_k hg345 (by decide)).trans ((xs_n hg335 (qb320 _ _ hk310) nb333).trans ((xs_k hg332 (by decide)).trans ((xs_n hg322 hk310 nb320).trans ((xs_k hg319 (by decide)).trans ((xs_n hg309 (qb294 _ _ (qb282 _ _ (qb270 _ _ hk261))) nb307).trans ((xs_k hg306 (by decide)).trans ((xs_k hg305 (by decide)).trans ((xs_n hg296 (qb282 _ _ (qb270 _ _ hk261)) nb294).trans ((xs_k hg293 (by decide)).trans ((xs_n hg284 (qb270 _ _ hk261) nb282).trans ((xs_k hg281 (by decide)).trans ((xs_n hg272 hk261 nb270).trans ((xs_k hg269 (by decide)).trans ((xs_n hg260 (qb247 _ _ (qb236 _ _ (qb225 _ _ hk217))) nb258).trans ((xs_k hg257 (by decide)).trans ((xs_n hg249 (qb236 _ _ (qb225 _ _ hk217)) nb247).trans ((xs_k hg246 (by decide)).trans ((xs_n hg238 (qb225 _ _ hk217) nb236).trans ((xs_k hg235 (by decide)).trans ((xs_n hg227 hk217 nb225).trans ((xs_k hg224 (by decide)).trans ((xs_n hg216 (qb204 _ _ (qb194 _ _ (qb183 _ _ hk176))) nb214).trans ((xs_k hg213 (by decide)).trans ((xs_n hg206 (qb194 _ _ (qb183 _ _ hk176)) nb204).trans ((xs_k hg203 (by decide)).trans ((xs_n hg196 (qb183 _ _ hk176) nb194).trans ((xs_k hg193 (by decide)).trans ((xs_k hg192 (by decide)).trans ((xs_n hg185 hk176 nb183).trans ((xs_k hg182 (by decide)).trans ((xs_n hg175 (qb164 _ _ (qb155 _ _ (qb146 _ _ hk140))) nb173).trans ((xs_k hg172 (by decide)).trans ((xs_n hg166 (qb155 _ _ (qb146 _ _ hk140)) nb164).trans ((xs_k hg163 (by decide)).trans ((xs_n hg157 (qb146 _ _ hk140) nb155).trans ((xs_k hg154 (by decide)).trans ((xs_n hg148 hk140 nb146).trans (xs_s hg145)))))))))))))))))))))))))))))))))))))))))))))))))))))))))))))))))))))))))))))))), (qb626 _ _ hk616)⟩, ((xs_k hg645 (by decide)).trans ((xs_k hg644 (by decide)).trans ((xs_k hg643 (by decide)).trans ((xs_n hg628 hk611 nb626).trans ((xs_k hg625 (by decide)).trans ((xs_n hg610 (qb591 _ _ (qb574 _ _ (qb557 _ _ hk543))) nb608).trans ((xs_k hg607 (by decide)).trans ((xs_n hg593 (qb574 _ _ (qb557 _ _ hk543)) nb591).trans ((xs_k hg590 (by decide)).trans ((xs_n hg576 (qb557 _ _ hk543) nb574).trans ((xs_k hg573 (by decide)).trans ((xs_n hg559 hk543 nb557).trans ((xs_k hg556 (by decide)).trans ((xs_n hg542 (qb524 _ _ (qb508 _ _ (qb492 _ _ hk479))) nb540).trans ((xs_k hg539 (by decide)).trans ((xs_n hg526 (qb508 _ _ (qb492 _ _ hk479)) nb524).trans ((xs_k hg523 (by decide)).trans ((xs_n hg510 (qb492 _ _ hk479) nb508).trans ((xs_k hg507 (by decide)).trans ((xs_n hg494 hk479 nb492).trans ((xs_k hg491 (by decide)).trans ((xs_n hg478 (qb461 _ _ (qb446 _ _ (qb431 _ _ hk418))) nb476).trans ((xs_k hg475 (by decide)).trans ((xs_n hg463 (qb446 _ _ (qb431 _ _ hk418)) nb461).trans ((xs_k hg460 (by decide)).trans ((xs_n hg448 (qb431 _ _ hk418) nb446).trans ((xs_k hg445 (by decide)).trans ((xs_n hg433 hk418 nb431).trans ((xs_k hg430 (by decide)).trans ((xs_k hg429 (by decide)).trans ((xs_n hg417 (qb401 _ _ (qb387 _ _ (qb373 _ _ hk362))) nb415).trans ((xs_k hg414 (by decide)).trans ((xs_n hg403 (qb387 _ _ (qb373 _ _ hk362)) nb401).trans ((xs_k hg400 (by decide)).trans ((xs_n hg389 (qb373 _ _ hk362) nb387).trans ((xs_k hg386 (by decide)).trans ((xs_n hg375 hk362 nb373).trans ((xs_k hg372 (by decide)).trans ((xs_n hg361 (qb346 _ _ (qb333 _ _ (qb320 _ _ hk310))) nb359).trans ((xs_k hg358 (by decide)).trans ((xs_n hg348 (qb333 _ _ (qb320 _ _ hk310)) nb346).trans ((xs_k hg345 (by decide)).trans ((xs_n hg335 (qb320 _ _ hk310) nb333).trans ((xs_k hg332 (by decide)).trans ((xs_n hg322 hk310 nb320).trans ((xs_k hg319 (by decide)).trans ((xs_n hg309 (qb294 _ _ (qb282 _ _ (qb270 _ _ hk261))) nb307).trans ((xs_k hg306 (by decide)).trans ((xs_k hg305 (by decide)).trans ((xs_n hg296 (qb282 _ _ (qb270 _ _ hk261)) nb294).trans ((xs_k hg293 (by decide)).trans ((xs_n hg284 (qb270 _ _ hk261) nb282).trans ((xs_k hg281 (by decide)).trans ((xs_n hg272 hk261 nb270).trans ((xs_k hg269 (by decide)).trans ((xs_n hg260 (qb247 _ _ (qb236 _ _ (qb225 _ _ hk217))) nb258).trans ((xs_k hg257 (by decide)).trans ((xs_n hg249 (qb236 _ _ (qb225 _ _ hk217)) nb247).trans ((xs_k hg246 (by decide)).trans ((xs_n hg238 (qb225 _ _ hk217) nb236).trans ((xs_k hg235 (by decide)).trans ((xs_n hg227 hk217 nb225).trans ((xs_k hg224 (by decide)).trans ((xs_n hg216 (qb204 _ _ (qb194 _ _ (qb183 _ _ hk176))) nb214).trans ((xs_k hg213 (by decide)).trans ((xs_n hg206 (qb194 _ _ (qb183 _ _ hk176)) nb204).trans ((xs_k hg203 (by decide)).trans ((xs_n hg196 (qb183 _ _ hk176) nb194).trans ((xs_k hg193 (by decide)).trans ((xs_k hg192 (by decide)).trans ((xs_n hg185 hk176 nb183).trans ((xs_k hg182 (by decide)).trans ((xs_n hg175 (qb164 _ _ (qb155 _ _ (qb146 _ _ hk140))) nb173).trans ((xs_k hg172 (by decide)).trans ((xs_n hg166 (qb155 _ _ (qb146 _ _ hk140)) nb164).trans ((xs_k hg163 (by decide)).trans ((xs_n hg157 (qb146 _ _ hk140) nb155).trans ((xs_k hg154 (by decide)).trans ((xs_n hg148 hk140 nb146).trans ((xs_k hg145 (by decide)).trans ((xs_n hg139 (qb129 _ _ (qb121 _ _ (qb113 _ _ hk108))) nb137).trans ((xs_k hg136 (by decide)).trans ((xs_n hg131 (qb121 _ _ (qb113 _ _ hk108)) nb129).trans ((xs_k hg128 (by decide)).trans ((xs_n hg123 (qb113 _ _ hk108) nb121).trans ((xs_k hg120 (by decide)).trans ((xs_n hg115 hk108 nb113).trans ((xs_k hg112 (by decide)).trans ((xs_n hg107 (qb98 _ _ (qb91 _ _ (qb84 _ _ hk74))) nb105).trans ((xs_k hg104 (by decide)).trans ((xs_n hg100 (qb91 _ _ (qb84 _ _ hk74)) nb98).trans ((xs_k hg97 (by decide)).trans ((xs_n hg93 (qb84 _ _ hk74) nb91).trans ((xs_k hg90 (by decide)).trans ((xs_n hg86 hk74 nb84).trans ((xs_k hg83 (by decide)).trans ((xs_a hg82 (xne (qb626 _ _ hk611) (qb626 _ _ hk614) (by decide))).trans ((xs_a hg81 (xne (qb626 _ _ hk611) (qb626 _ _ hk614) (by decide))).trans ((xs_a hg80 (xne (qb626 _ _ hk611) (qb626 _ _ hk614) (by decide))).trans ((xs_a hg79 (xne (qb626 _ _ hk611) (qb626 _ _ hk614) (by decide))).trans ((xs_a hg78 (xne (qb626 _ _ hk611) (qb626 _ _ hk614) (by decide))).trans ((xs_a hg77 (xne (qb626 _ _ hk611) (qb626 _ _ hk614) (by decide))).trans ((xs_n hg73 (qb61 _ _ (qb55 _ _ (qb49 _ _ hk46))) nb71).trans ((xs_k hg70 (by decide)).trans ((xs_a hg69 (xne (qb626 _ _ hk611) (qb626 _ _ (qb608 _ _ hk596)) (by decide))).trans ((xs_a hg68 (xne (qb626 _ _ hk611) (qb626 _ _ (qb608 _ _ hk596)) (by decide))).trans ((xs_a hg67 (xne (qb626 _ _ hk611) (qb626 _ _ (qb608 _ _ hk596)) (by decide))).trans ((xs_a hg66 (xne (qb626 _ _ hk611) (qb626 _ _ (qb608 _ _ hk596)) (by decide))).trans ((xs_n hg63 (qb55 _ _ (qb49 _ _ hk46)) nb61).trans ((xs_k hg60 (by decide)).trans ((xs_n hg57 (qb49 _ _ hk46) nb55).trans ((xs_k hg54 (by decide)).trans ((xs_n hg51 hk46 nb49).trans ((xs_k hg48 (by decide)).trans ((xs_n hg45 (qb28 _ _ (qb23 _ _ (qb18 _ _ hk16))) nb43).trans ((xs_k hg42 (by decide)).trans ((xs_a hg41 (xne (qb626 _ _ hk611) (qb626 _ _ (qb608 _ _ hk595)) (by decide))).trans ((xs_a hg40 (xne (qb626 _ _ hk611) (qb626 _ _ (qb608 _ _ hk595)) (by decide))).trans ((xs_a hg39 (xne (qb626 _ _ hk611) (qb626 _ _ (qb608 _ _ hk595)) (by decide))).trans ((xs_a hg38 (xne (qb626 _ _ hk611) (qb626 _ _ (qb608 _ _ hk595)) (by decide))).trans ((xs_a hg37 (xne (qb626 _ _ hk611) (qb626 _ _ (qb608 _ _ hk595)) (by decide))).trans ((xs_a hg36 (xne (qb626 _ _ hk611) (qb626 _ _ (qb608 _ _ hk595)) (by decide))).trans ((xs_a hg35 (xne (qb626 _ _ hk611) (qb626 _ _ (qb608 _ _ hk595)) (by decide))).trans ((xs_a hg34 (xne (qb626 _ _ hk611) (qb626 _ _ (qb608 _ _ hk595)) (by decide))).trans ((xs_a hg33 (xne (qb626 _ _ hk611) (qb626 _ _ (qb608 _ _ hk595)) (by decide))).trans ((xs_a hg32 (xne (qb626 _ _ hk611) (qb626 _ _ (qb608 _ _ hk595)) (by decide))).trans ((xs_n hg30 (qb23 _ _ (qb18 _ _ hk16)) nb28).trans ((xs_k hg27 (by decide)).trans ((xs_n hg25 (qb18 _ _ hk16) nb23).trans ((xs_k hg22 (by decide)).trans ((xs_n hg20 hk16 nb18).trans ((xs_k hg17 (by decide)).trans ((xs_n hg15 (qb9 _ _ (qb5 _ _ (qb1 _ _ hs_a0))) nb13).trans ((xs_k hg12 (by decide)).trans ((xs_n hg11 (qb5 _ _ (qb1 _ _ hs_a0)) nb9).trans ((xs_k hg8 (by decide)).trans ((xs_n hg7 (qb1 _ _ hs_a0) nb5).trans ((xs_k hg4 (by decide)).trans ((xs_n hg3 hs_a0 nb1).trans hp16)))))))))))))))))))))))))))))))))))))))))))))))))))))))))))))))))))))))))))))))))))))))))))))))))))))))))))))))))))))))))))))))))))))))))))⟩, (xRaw.all (N := 91) rw814 (by decide) (fun _ => rfl))⟩ (by omega) (by omega)
