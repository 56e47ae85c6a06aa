theorem m_2_9 : Cond.initialized RX10 ∈ wsL_law := ch_2 _ (List.mem_of_getElem? (i := 9) rfl)
theorem m_5_23 : Cond.fieldLink RX10 15 "PaperBoys$Terms" "lines" "I" ∈ wsL_law := ch_5 _ (List.mem_of_getElem? (i := 23) rfl)
theorem m_6_0 : Cond.fieldLink RX10 18 "PaperBoys$Terms" "steps" "I" ∈ wsL_law := ch_6 _ (List.mem_of_getElem? (i := 0) rfl)
theorem m_6_1 : Cond.fieldLink RX10 21 "PaperBoys$Terms" "kind" "[I" ∈ wsL_law := ch_6 _ (List.mem_of_getElem? (i := 1) rfl)
theorem m_6_2 : Cond.fieldLink RX10 25 "PaperBoys$Terms" "number" "[I" ∈ wsL_law := ch_6 _ (List.mem_of_getElem? (i := 2) rfl)
theorem m_6_3 : Cond.fieldLink RX10 28 "PaperBoys$Terms" "first" "[I" ∈ wsL_law := ch_6 _ (List.mem_of_getElem? (i := 3) rfl)
theorem m_6_4 : Cond.fieldLink RX10 31 "PaperBoys$Terms" "behind" "[I" ∈ wsL_law := ch_6 _ (List.mem_of_getElem? (i := 4) rfl)
theorem m_6_5 : Cond.fieldLink RX10 34 "PaperBoys$Terms" "step" "[I" ∈ wsL_law := ch_6 _ (List.mem_of_getElem? (i := 5) rfl)
theorem m_35_10 : Cond.methodLink RX10 37 yX10_holds ∈ wsL_law := ch_35 _ (List.mem_of_getElem? (i := 10) rfl)
theorem m_35_11 : Cond.instanceMethod yX10_holds ∈ wsL_law := ch_35 _ (List.mem_of_getElem? (i := 11) rfl)
theorem m_35_12 : Cond.selects RX10 yX10_holds yX10_holds ∈ wsL_law := ch_35 _ (List.mem_of_getElem? (i := 12) rfl)
theorem m_35_13 : Cond.code yX10_holds cX10_holds 7 (some .boolean) ∈ wsL_law := ch_35 _ (List.mem_of_getElem? (i := 13) rfl)
theorem m_35_14 : Cond.methodLink RX10 57 yX10_isSo ∈ wsL_law := ch_35 _ (List.mem_of_getElem? (i := 14) rfl)
theorem m_35_15 : Cond.static yX10_isSo ∈ wsL_law := ch_35 _ (List.mem_of_getElem? (i := 15) rfl)
theorem m_35_16 : Cond.code yX10_isSo cX10_isSo 4 (some .boolean) ∈ wsL_law := ch_35 _ (List.mem_of_getElem? (i := 16) rfl)
theorem kd23_0 : (decode cX10_addLine 0 = .ok (.aload_n 0, 1)) ∧ (decode cX10_addLine 1 = .ok (.getfield 15, 3)) ∧ (decode cX10_addLine 4 = .ok (.bipush 16, 2)) ∧ (decode cX10_addLine 6 = .ok (.if_icmp .ge 56, 3)) ∧ (decode cX10_addLine 9 = .ok (.aload_n 0, 1)) ∧ (decode cX10_addLine 10 = .ok (.getfield 21, 3)) ∧ (decode cX10_addLine 13 = .ok (.aload_n 0, 1)) ∧ (decode cX10_addLine 14 = .ok (.getfield 15, 3)) ∧ (decode cX10_addLine 17 = .ok (.iload_n 1, 1)) ∧ (decode cX10_addLine 18 = .ok (.iastore, 1)) ∧ (decode cX10_addLine 19 = .ok (.aload_n 0, 1)) ∧ (decode cX10_addLine 20 = .ok (.getfield 25, 3)) := by decide +kernel
theorem kd23_1 : (decode cX10_addLine 23 = .ok (.aload_n 0, 1)) ∧ (decode cX10_addLine 24 = .ok (.getfield 15, 3)) ∧ (decode cX10_addLine 27 = .ok (.iload_n 2, 1)) ∧ (decode cX10_addLine 28 = .ok (.iastore, 1)) ∧ (decode cX10_addLine 29 = .ok (.aload_n 0, 1)) ∧ (decode cX10_addLine 30 = .ok (.getfield 28, 3)) ∧ (decode cX10_addLine 33 = .ok (.aload_n 0, 1)) ∧ (decode cX10_addLine 34 = .ok (.getfield 15, 3)) ∧ (decode cX10_addLine 37 = .ok (.iload_n 3, 1)) ∧ (decode cX10_addLine 38 = .ok (.iastore, 1)) ∧ (decode cX10_addLine 39 = .ok (.aload_n 0, 1)) ∧ (decode cX10_addLine 40 = .ok (.getfield 31, 3)) := by decide +kernel
theorem kd23_2 : (decode cX10_addLine 43 = .ok (.aload_n 0, 1)) ∧ (decode cX10_addLine 44 = .ok (.getfield 15, 3)) ∧ (decode cX10_addLine 47 = .ok (.aload_n 0, 1)) ∧ (decode cX10_addLine 48 = .ok (.getfield 18, 3)) ∧ (decode cX10_addLine 51 = .ok (.iastore, 1)) ∧ (decode cX10_addLine 52 = .ok (.aload_n 0, 1)) ∧ (decode cX10_addLine 53 = .ok (.dup, 1)) ∧ (decode cX10_addLine 54 = .ok (.getfield 15, 3)) ∧ (decode cX10_addLine 57 = .ok (.iconst 1, 1)) ∧ (decode cX10_addLine 58 = .ok (.iadd, 1)) ∧ (decode cX10_addLine 59 = .ok (.putfield 15, 3)) ∧ (decode cX10_addLine 62 = .ok (.return_, 1)) := by decide +kernel
theorem kd23_3 : (decode cX10_addStep 0 = .ok (.aload_n 0, 1)) ∧ (decode cX10_addStep 1 = .ok (.getfield 18, 3)) ∧ (decode cX10_addStep 4 = .ok (.bipush 100, 2)) ∧ (decode cX10_addStep 6 = .ok (.if_icmp .ge 33, 3)) ∧ (decode cX10_addStep 9 = .ok (.aload_n 0, 1)) ∧ (decode cX10_addStep 10 = .ok (.getfield 34, 3)) ∧ (decode cX10_addStep 13 = .ok (.aload_n 0, 1)) ∧ (decode cX10_addStep 14 = .ok (.getfield 18, 3)) ∧ (decode cX10_addStep 17 = .ok (.iload_n 1, 1)) ∧ (decode cX10_addStep 18 = .ok (.bipush 16, 2)) ∧ (decode cX10_addStep 20 = .ok (.iload_n 2, 1)) ∧ (decode cX10_addStep 21 = .ok (.imul, 1)) := by decide +kernel
theorem kd23_4 : (decode cX10_addStep 22 = .ok (.iadd, 1)) ∧ (decode cX10_addStep 23 = .ok (.bipush 64, 2)) ∧ (decode cX10_addStep 25 = .ok (.iload_n 3, 1)) ∧ (decode cX10_addStep 26 = .ok (.imul, 1)) ∧ (decode cX10_addStep 27 = .ok (.iadd, 1)) ∧ (decode cX10_addStep 28 = .ok (.iastore, 1)) ∧ (decode cX10_addStep 29 = .ok (.aload_n 0, 1)) ∧ (decode cX10_addStep 30 = .ok (.dup, 1)) ∧ (decode cX10_addStep 31 = .ok (.getfield 18, 3)) ∧ (decode cX10_addStep 34 = .ok (.iconst 1, 1)) ∧ (decode cX10_addStep 35 = .ok (.iadd, 1)) ∧ (decode cX10_addStep 36 = .ok (.putfield 18, 3)) := by decide +kernel
theorem kd23_5 : (decode cX10_addStep 39 = .ok (.return_, 1)) ∧ (decode cX10_holds 0 = .ok (.iconst 1, 1)) ∧ (decode cX10_holds 1 = .ok (.istore_n 3, 1)) ∧ (decode cX10_holds 2 = .ok (.aload_n 0, 1)) ∧ (decode cX10_holds 3 = .ok (.getfield 28, 3)) ∧ (decode cX10_holds 6 = .ok (.iload_n 1, 1)) ∧ (decode cX10_holds 7 = .ok (.iaload, 1)) ∧ (decode cX10_holds 8 = .ok (.istore 4, 2)) ∧ (decode cX10_holds 10 = .ok (.iload 4, 2)) ∧ (decode cX10_holds 12 = .ok (.aload_n 0, 1)) ∧ (decode cX10_holds 13 = .ok (.getfield 31, 3)) ∧ (decode cX10_holds 16 = .ok (.iload_n 1, 1)) := by decide +kernel
theorem kd23_6 : (decode cX10_holds 17 = .ok (.iaload, 1)) ∧ (decode cX10_holds 18 = .ok (.if_icmp .ge 104, 3)) ∧ (decode cX10_holds 21 = .ok (.aload_n 0, 1)) ∧ (decode cX10_holds 22 = .ok (.getfield 34, 3)) ∧ (decode cX10_holds 25 = .ok (.iload 4, 2)) ∧ (decode cX10_holds 27 = .ok (.iaload, 1)) ∧ (decode cX10_holds 28 = .ok (.bipush 16, 2)) ∧ (decode cX10_holds 30 = .ok (.irem, 1)) ∧ (decode cX10_holds 31 = .ok (.istore 5, 2)) ∧ (decode cX10_holds 33 = .ok (.iload_n 3, 1)) ∧ (decode cX10_holds 34 = .ok (.iconst 1, 1)) ∧ (decode cX10_holds 35 = .ok (.iand, 1)) := by decide +kernel
theorem kd23_7 : (decode cX10_holds 36 = .ok (.istore 6, 2)) ∧ (decode cX10_holds 38 = .ok (.iload 5, 2)) ∧ (decode cX10_holds 40 = .ok (.bipush 12, 2)) ∧ (decode cX10_holds 42 = .ok (.if_icmp .ne 10, 3)) ∧ (decode cX10_holds 45 = .ok (.iload_n 3, 1)) ∧ (decode cX10_holds 46 = .ok (.iconst 1, 1)) ∧ (decode cX10_holds 47 = .ok (.ixor, 1)) ∧ (decode cX10_holds 48 = .ok (.istore_n 3, 1)) ∧ (decode cX10_holds 49 = .ok (.goto 67, 3)) ∧ (decode cX10_holds 52 = .ok (.iload 5, 2)) ∧ (decode cX10_holds 54 = .ok (.bipush 13, 2)) ∧ (decode cX10_holds 56 = .ok (.if_icmp .ne 16, 3)) := by decide +kernel
theorem kd23_8 : (decode cX10_holds 59 = .ok (.iload_n 3, 1)) ∧ (decode cX10_holds 60 = .ok (.iconst 1, 1)) ∧ (decode cX10_holds 61 = .ok (.iushr, 1)) ∧ (decode cX10_holds 62 = .ok (.iload 6, 2)) ∧ (decode cX10_holds 64 = .ok (.bipush (-2), 2)) ∧ (decode cX10_holds 66 = .ok (.ior, 1)) ∧ (decode cX10_holds 67 = .ok (.iand, 1)) ∧ (decode cX10_holds 68 = .ok (.istore_n 3, 1)) ∧ (decode cX10_holds 69 = .ok (.goto 47, 3)) ∧ (decode cX10_holds 72 = .ok (.iload 5, 2)) ∧ (decode cX10_holds 74 = .ok (.bipush 14, 2)) ∧ (decode cX10_holds 76 = .ok (.if_icmp .ne 13, 3)) := by decide +kernel
theorem kd23_9 : (decode cX10_holds 79 = .ok (.iload_n 3, 1)) ∧ (decode cX10_holds 80 = .ok (.iconst 1, 1)) ∧ (decode cX10_holds 81 = .ok (.iushr, 1)) ∧ (decode cX10_holds 82 = .ok (.iload 6, 2)) ∧ (decode cX10_holds 84 = .ok (.ior, 1)) ∧ (decode cX10_holds 85 = .ok (.istore_n 3, 1)) ∧ (decode cX10_holds 86 = .ok (.goto 30, 3)) ∧ (decode cX10_holds 89 = .ok (.iload_n 3, 1)) ∧ (decode cX10_holds 90 = .ok (.iconst 1, 1)) ∧ (decode cX10_holds 91 = .ok (.ishl, 1)) ∧ (decode cX10_holds 92 = .ok (.aload_n 0, 1)) ∧ (decode cX10_holds 93 = .ok (.getfield 34, 3)) := by decide +kernel
theorem kd23_10 : (decode cX10_holds 96 = .ok (.iload 4, 2)) ∧ (decode cX10_holds 98 = .ok (.iaload, 1)) ∧ (decode cX10_holds 99 = .ok (.aload_n 2, 1)) ∧ (decode cX10_holds 100 = .ok (.iload 5, 2)) ∧ (decode cX10_holds 102 = .ok (.iaload, 1)) ∧ (decode cX10_holds 103 = .ok (.invokestatic 57, 3)) ∧ (decode cX10_holds 106 = .ok (.ifCond .eq 7, 3)) ∧ (decode cX10_holds 109 = .ok (.iconst 1, 1)) ∧ (decode cX10_holds 110 = .ok (.goto 4, 3)) ∧ (decode cX10_holds 113 = .ok (.iconst 0, 1)) ∧ (decode cX10_holds 114 = .ok (.ior, 1)) ∧ (decode cX10_holds 115 = .ok (.istore_n 3, 1)) := by decide +kernel
theorem kd23_11 : (decode cX10_holds 116 = .ok (.iinc 4 1, 3)) ∧ (decode cX10_holds 119 = .ok (.goto (-109), 3)) ∧ (decode cX10_holds 122 = .ok (.iload_n 3, 1)) ∧ (decode cX10_holds 123 = .ok (.iconst 1, 1)) ∧ (decode cX10_holds 124 = .ok (.iand, 1)) ∧ (decode cX10_holds 125 = .ok (.iconst 1, 1)) ∧ (decode cX10_holds 126 = .ok (.if_icmp .ne 7, 3)) ∧ (decode cX10_holds 129 = .ok (.iconst 1, 1)) ∧ (decode cX10_holds 130 = .ok (.goto 4, 3)) ∧ (decode cX10_holds 133 = .ok (.iconst 0, 1)) ∧ (decode cX10_holds 134 = .ok (.ireturn, 1)) ∧ (decode cX10_lineFor 0 = .ok (.iconst 0, 1)) := by decide +kernel
theorem kd23_12 : (decode cX10_lineFor 1 = .ok (.istore_n 3, 1)) ∧ (decode cX10_lineFor 2 = .ok (.iload_n 3, 1)) ∧ (decode cX10_lineFor 3 = .ok (.aload_n 0, 1)) ∧ (decode cX10_lineFor 4 = .ok (.getfield 15, 3)) ∧ (decode cX10_lineFor 7 = .ok (.if_icmp .ge 30, 3)) ∧ (decode cX10_lineFor 10 = .ok (.aload_n 0, 1)) ∧ (decode cX10_lineFor 11 = .ok (.getfield 21, 3)) ∧ (decode cX10_lineFor 14 = .ok (.iload_n 3, 1)) ∧ (decode cX10_lineFor 15 = .ok (.iaload, 1)) ∧ (decode cX10_lineFor 16 = .ok (.iload_n 1, 1)) ∧ (decode cX10_lineFor 17 = .ok (.if_icmp .ne 14, 3)) ∧ (decode cX10_lineFor 20 = .ok (.aload_n 0, 1)) := by decide +kernel
theorem kd23_13 : (decode cX10_lineFor 21 = .ok (.iload_n 3, 1)) ∧ (decode cX10_lineFor 22 = .ok (.aload_n 2, 1)) ∧ (decode cX10_lineFor 23 = .ok (.invokevirtual 37, 3)) ∧ (decode cX10_lineFor 26 = .ok (.ifCond .eq 5, 3)) ∧ (decode cX10_lineFor 29 = .ok (.iload_n 3, 1)) ∧ (decode cX10_lineFor 30 = .ok (.ireturn, 1)) ∧ (decode cX10_lineFor 31 = .ok (.iinc 3 1, 3)) ∧ (decode cX10_lineFor 34 = .ok (.goto (-32), 3)) ∧ (decode cX10_lineFor 37 = .ok (.iconst (-1), 1)) ∧ (decode cX10_lineFor 38 = .ok (.ireturn, 1)) := by decide +kernel
theorem fl_X10_15_11 : xF RX10 15 11 1 .int false := ⟨by decide, RX10, TX10, 8, tyX10, "PaperBoys$Terms", rfl, inlX10, tyX10_ok, nmX10, by decide, rfl, rfl, m_5_23, Or.inl rfl⟩
theorem fl_X10_18_11 : xF RX10 18 11 2 .int false := ⟨by decide, RX10, TX10, 8, tyX10, "PaperBoys$Terms", rfl, inlX10, tyX10_ok, nmX10, by decide, rfl, rfl, m_6_0, Or.inl rfl⟩
theorem fl_X10_21_11 : xF RX10 21 11 3 (.array .int) true := ⟨by decide, RX10, TX10, 8, tyX10, "PaperBoys$Terms", rfl, inlX10, tyX10_ok, nmX10, by decide, rfl, rfl, m_6_1, Or.inl rfl⟩
theorem fl_X10_25_11 : xF RX10 25 11 4 (.array .int) true := ⟨by decide, RX10, TX10, 8, tyX10, "PaperBoys$Terms", rfl, inlX10, tyX10_ok, nmX10, by decide, rfl, rfl, m_6_2, Or.inl rfl⟩
theorem fl_X10_28_11 : xF RX10 28 11 5 (.array .int) true := ⟨by decide, RX10, TX10, 8, tyX10, "PaperBoys$Terms", rfl, inlX10, tyX10_ok, nmX10, by decide, rfl, rfl, m_6_3, Or.inl rfl⟩
theorem fl_X10_31_11 : xF RX10 31 11 6 (.array .int) true := ⟨by decide, RX10, TX10, 8, tyX10, "PaperBoys$Terms", rfl, inlX10, tyX10_ok, nmX10, by decide, rfl, rfl, m_6_4, Or.inl rfl⟩
theorem fl_X10_34_11 : xF RX10 34 11 7 (.array .int) true := ⟨by decide, RX10, TX10, 8, tyX10, "PaperBoys$Terms", rfl, inlX10, tyX10_ok, nmX10, by decide, rfl, rfl, m_6_5, Or.inl rfl⟩
theorem lk_X10_37 : xLV RX10 37 yX10_holds cX10_holds 7 (some .boolean) 2 := ⟨m_35_10, m_35_11, m_35_12, m_2_9, m_35_13, by decide +kernel⟩
theorem lk_X10_57 : xLS RX10 57 yX10_isSo cX10_isSo 4 (some .boolean) 2 := ⟨m_35_14, m_35_15, m_2_9, m_35_16, by decide +kernel⟩
set_option maxHeartbeats 4000000 in
set_option maxRecDepth 100000 in
theorem c_X10_addStep (l : Launch) (D : va_G) (kA : Nat → ClassId) (b0 : Nat) (t0 : Nat → Nat) (S : xT) (g : xG) (a0 : Nat) (x1 : Int) (x2 : Int) (x3 : Int) (hs_a0 : S a0 = some (11, 0)) (hx1 : 0 ≤ x1 ∧ x1 ≤ 14) (hx2 : 0 ≤ x2 ∧ x2 ≤ 2) (hx3 : 0 ≤ x3 ∧ x3 ≤ 9999) : xMt l yX10_addStep cX10_addStep 4 none 0 0 0 0 D kA b0 t0 [(14000, 0), (11, 2)] [.ref a0, .int (iI x1), .int (iI x2), .int (iI x3)] S g (fun (r : Option Value) (S1 : xT) (g1 : xG) => S = S1 ∧ r = none) := by
  refine xEnterV (by decide) (by simp [lg_sl, Value.category]) [(0, .ref a0), (1, .int (iI x1)), (2, .int (iI x2)), (3, .int (iI x3))] rfl ?_
  intro K E hK hret _ _ _
  refine X_aloadn hK (i := 0) 0 kd23_3.1 rfl rfl ?_
  refine X_geti hK fl_X10_18_11 hs_a0 sl_11_2 kd23_3.2.1 (fun z1 ez1 lz1 uz1 => ?_)
  refine X_bipush hK kd23_3.2.2.1 (by decide) ?_
  refine X_icmp_ge hK 39 (by omega) (by omega) kd23_3.2.2.2.1 (by decide) (fun c2 => ?_) (fun c2 => ?_)
  · exact hret _ _ _ _ _ _ kd23_5.1 ⟨rfl, rfl⟩ (Nat.le_refl _) (Nat.le_refl _)
  · refine X_aloadn hK (i := 0) 0 kd23_3.2.2.2.2.1 rfl rfl ?_
    refine X_getr hK 14000 100 fl_X10_34_11 hs_a0 sl_11_7 kd23_3.2.2.2.2.2.1 (fun b3 eb3 hs_b3 => ?_)
    refine X_aloadn hK (i := 0) 0 kd23_3.2.2.2.2.2.2.1 rfl rfl ?_
    refine X_getK hK fl_X10_18_11 hs_a0 ez1 kd23_3.2.2.2.2.2.2.2.1 ?_
    refine X_iloadn hK (i := 1) 1 kd23_3.2.2.2.2.2.2.2.2.1 rfl rfl ?_
    refine X_bipush hK kd23_3.2.2.2.2.2.2.2.2.2.1 (by decide) ?_
    refine X_iloadn hK (i := 2) 2 kd23_3.2.2.2.2.2.2.2.2.2.2.1 rfl rfl ?_
    refine X_imul hK kd23_3.2.2.2.2.2.2.2.2.2.2.2 ?_
    refine X_iadd hK kd23_4.1 ?_
    refine X_bipush hK kd23_4.2.1 (by decide) ?_
    refine X_iloadn hK (i := 3) 3 kd23_4.2.2.1 rfl rfl ?_
    refine X_imul hK kd23_4.2.2.2.1 ?_
    refine X_iadd hK kd23_4.2.2.2.2.1 ?_
    refine X_iast4 hK hs_b3 (by decide) (by decide) sl_14000 (by omega) (by omega) (by omega) (by omega) (by omega) kd23_4.2.2.2.2.2.1 (fun g4 hg4 => ?_)
    refine X_aloadn hK (i := 0) 0 kd23_4.2.2.2.2.2.2.1 rfl rfl ?_
    refine X_dup hK kd23_4.2.2.2.2.2.2.2.1 rfl ?_
    refine X_getK hK fl_X10_18_11 hs_a0 ((xs_a hg4 (xne hs_a0 hs_b3 (by decide))).trans ez1) kd23_4.2.2.2.2.2.2.2.2.1 ?_
    refine X_iconst hK kd23_4.2.2.2.2.2.2.2.2.2.1 ?_
    refine X_iadd hK kd23_4.2.2.2.2.2.2.2.2.2.2.1 ?_
    refine X_puti hK fl_X10_18_11 hs_a0 (by decide) sl_11_2 (by omega) (by omega) kd23_4.2.2.2.2.2.2.2.2.2.2.2 (fun g5 hg5 => ?_)
    exact hret _ _ _ _ _ _ kd23_5.1 ⟨rfl, rfl⟩ (Nat.le_refl _) (Nat.le_refl _)

set_option maxHeartbeats 4000000 in
set_option maxRecDepth 100000 in
theorem c_X10_addLine (l : Launch) (D : va_G) (kA : Nat → ClassId) (b0 : Nat) (t0 : Nat → Nat) (S : xT) (g : xG) (a0 : Nat) (x1 : Int) (x2 : Int) (x3 : Int) (hs_a0 : S a0 = some (11, 0)) (hx1 : 0 ≤ x1 ∧ x1 ≤ 5) (hx2 : (-2147483648) ≤ x2 ∧ x2 ≤ 2147483647) (hx3 : 0 ≤ x3 ∧ x3 ≤ 100) : xMt l yX10_addLine cX10_addLine 4 none 0 0 0 0 D kA b0 t0 [(13600, 0), (13700, 0), (13800, 0), (13900, 0), (11, 1)] [.ref a0, .int (iI x1), .int (iI x2), .int (iI x3)] S g (fun (r : Option Value) (S1 : xT) (g1 : xG) => S = S1 ∧ r = none) := by
  refine xEnterV (by decide) (by simp [lg_sl, Value.category]) [(0, .ref a0), (1, .int (iI x1)), (2, .int (iI x2)), (3, .int (iI x3))] rfl ?_
  intro K E hK hret _ _ _
  refine X_aloadn hK (i := 0) 0 kd23_0.1 rfl rfl ?_
  refine X_geti hK fl_X10_15_11 hs_a0 sl_11_1 kd23_0.2.1 (fun z1 ez1 lz1 uz1 => ?_)
  refine X_bipush hK kd23_0.2.2.1 (by decide) ?_
  refine X_icmp_ge hK 62 (by omega) (by omega) kd23_0.2.2.2.1 (by decide) (fun c2 => ?_) (fun c2 => ?_)
  · exact hret _ _ _ _ _ _ kd23_2.2.2.2.2.2.2.2.2.2.2.2 ⟨rfl, rfl⟩ (Nat.le_refl _) (Nat.le_refl _)
  · refine X_aloadn hK (i := 0) 0 kd23_0.2.2.2.2.1 rfl rfl ?_
    refine X_getr hK 13600 16 fl_X10_21_11 hs_a0 sl_11_3 kd23_0.2.2.2.2.2.1 (fun b3 eb3 hs_b3 => ?_)
    refine X_aloadn hK (i := 0) 0 kd23_0.2.2.2.2.2.2.1 rfl rfl ?_
    refine X_getK hK fl_X10_15_11 hs_a0 ez1 kd23_0.2.2.2.2.2.2.2.1 ?_
    refine X_iloadn hK (i := 1) 1 kd23_0.2.2.2.2.2.2.2.2.1 rfl rfl ?_
    refine X_iast hK hs_b3 (by decide) (by decide) sl_13600 (by omega) (by omega) (by omega) (by omega) kd23_0.2.2.2.2.2.2.2.2.2.1 (fun g4 hg4 => ?_)
    refine X_aloadn hK (i := 0) 0 kd23_0.2.2.2.2.2.2.2.2.2.2.1 rfl rfl ?_
    refine X_getr hK 13700 16 fl_X10_25_11 hs_a0 sl_11_4 kd23_0.2.2.2.2.2.2.2.2.2.2.2 (fun b5 eb5 hs_b5 => ?_)
    refine X_aloadn hK (i := 0) 0 kd23_1.1 rfl rfl ?_
    refine X_getK hK fl_X10_15_11 hs_a0 ((xs_a hg4 (xne hs_a0 hs_b3 (by decide))).trans ez1) kd23_1.2.1 ?_
    refine X_iloadn hK (i := 2) 2 kd23_1.2.2.1 rfl rfl ?_
    refine X_iast hK hs_b5 (by decide) (by decide) sl_13700 (by omega) (by omega) (by omega) (by omega) kd23_1.2.2.2.1 (fun g6 hg6 => ?_)
    refine X_aloadn hK (i := 0) 0 kd23_1.2.2.2.2.1 rfl rfl ?_
    refine X_getr hK 13800 16 fl_X10_28_11 hs_a0 sl_11_5 kd23_1.2.2.2.2.2.1 (fun b7 eb7 hs_b7 => ?_)
    refine X_aloadn hK (i := 0) 0 kd23_1.2.2.2.2.2.2.1 rfl rfl ?_
    refine X_getK hK fl_X10_15_11 hs_a0 ((xs_a hg6 (xne hs_a0 hs_b5 (by decide))).trans ((xs_a hg4 (xne hs_a0 hs_b3 (by decide))).trans ez1)) kd23_1.2.2.2.2.2.2.2.1 ?_
    refine X_iloadn hK (i := 3) 3 kd23_1.2.2.2.2.2.2.2.2.1 rfl rfl ?_
    refine X_iast hK hs_b7 (by decide) (by decide) sl_13800 (by omega) (by omega) (by omega) (by omega) kd23_1.2.2.2.2.2.2.2.2.2.1 (fun g8 hg8 => ?_)
    refine X_aloadn hK (i := 0) 0 kd23_1.2.2.2.2.2.2.2.2.2.2.1 rfl rfl ?_
    refine X_getr hK 13900 16 fl_X10_31_11 hs_a0 sl_11_6 kd23_1.2.2.2.2.2.2.2.2.2.2.2 (fun b9 eb9 hs_b9 => ?_)
    refine X_aloadn hK (i := 0) 0 kd23_2.1 rfl rfl ?_
    refine X_getK hK fl_X10_15_11 hs_a0 ((xs_a hg8 (xne hs_a0 hs_b7 (by decide))).trans ((xs_a hg6 (xne hs_a0 hs_b5 (by decide))).trans ((xs_a hg4 (xne hs_a0 hs_b3 (by decide))).trans ez1))) kd23_2.2.1 ?_
    refine X_aloadn hK (i := 0) 0 kd23_2.2.2.1 rfl rfl ?_
    refine X_geti hK fl_X10_18_11 hs_a0 sl_11_2 kd23_2.2.2.2.1 (fun z10 ez10 lz10 uz10 => ?_)
    refine X_iast hK hs_b9 (by decide) (by decide) sl_13900 (by omega) (by omega) (by omega) (by omega) kd23_2.2.2.2.2.1 (fun g11 hg11 => ?_)
    refine X_aloadn hK (i := 0) 0 kd23_2.2.2.2.2.2.1 rfl rfl ?_
    refine X_dup hK kd23_2.2.2.2.2.2.2.1 rfl ?_
    refine X_getK hK fl_X10_15_11 hs_a0 ((xs_a hg11 (xne hs_a0 hs_b9 (by decide))).trans ((xs_a hg8 (xne hs_a0 hs_b7 (by decide))).trans ((xs_a hg6 (xne hs_a0 hs_b5 (by decide))).trans ((xs_a hg4 (xne hs_a0 hs_b3 (by decide))).trans ez1)))) kd23_2.2.2.2.2.2.2.2.1 ?_
    refine X_iconst hK kd23_2.2.2.2.2.2.2.2.2.1 ?_
    refine X_iadd hK kd23_2.2.2.2.2.2.2.2.2.2.1 ?_
    refine X_puti hK fl_X10_15_11 hs_a0 (by decide) sl_11_1 (by omega) (by omega) kd23_2.2.2.2.2.2.2.2.2.2.2.1 (fun g12 hg12 => ?_)
    exact hret _ _ _ _ _ _ kd23_2.2.2.2.2.2.2.2.2.2.2.2 ⟨rfl, rfl⟩ (Nat.le_refl _) (Nat.le_refl _)

set_option maxHeartbeats 4000000 in
set_option maxRecDepth 100000 in
theorem c_X10_holds (l : Launch) (D : va_G) (kA : Nat → ClassId) (b0 : Nat) (t0 : Nat → Nat) (S : xT) (g : xG) (a0 : Nat) (x1 : Int) (a2 : Nat) (hs_a0 : S a0 = some (11, 0)) (hx1 : 0 ≤ x1 ∧ x1 ≤ 15) (hs_a2 : S a2 = some (12000, 12)) : xMt l yX10_holds cX10_holds 7 (some .boolean) 1 0 0 23 D kA b0 t0 [] [.ref a0, .int (iI x1), .ref a2] S g (fun (r : Option Value) (S1 : xT) (g1 : xG) => S = S1 ∧ g = g1 ∧ ∃ z : Int, r = some (.int (iI z)) ∧ 0 ≤ z ∧ z ≤ 1) := by
  refine xEnterZ (by decide) (by simp [lg_sl, Value.category]) [(0, .ref a0), (1, .int (iI x1)), (2, .ref a2)] rfl ?_
  intro K E hK hret _ _ _
  refine X_iconst hK kd23_5.2.1 ?_
  refine X_istoren hK (i := 3) [(3, .int (iI 1)), (0, .ref a0), (1, .int (iI x1)), (2, .ref a2)] kd23_5.2.2.1 rfl (by decide) rfl ?_
  refine X_aloadn hK (i := 0) 1 kd23_5.2.2.2.1 rfl rfl ?_
  refine X_getr hK 13800 16 fl_X10_28_11 hs_a0 sl_11_5 kd23_5.2.2.2.2.1 (fun b1 eb1 hs_b1 => ?_)
  refine X_iloadn hK (i := 1) 2 kd23_5.2.2.2.2.2.1 rfl rfl ?_
  refine X_iald hK hs_b1 (by decide) sl_13800 (by omega) (by omega) kd23_5.2.2.2.2.2.2.1 (fun z2 ez2 lz2 uz2 => ?_)
  refine X_istore hK (i := 4) [(4, .int (iI z2)), (3, .int (iI 1)), (0, .ref a0), (1, .int (iI x1)), (2, .ref a2)] kd23_5.2.2.2.2.2.2.2.1 (by decide) rfl ?_
  have P303 : ∀ (nP303 : Nat) (z253 : Int) (_ : 0 ≤ z253) (_ : z253 ≤ 100) (z254 : Int) (_ : (-2147483648) ≤ z254) (_ : z254 ≤ 2147483647) (_ : 116 - z253 < (nP303 : Int)), X K E 10 [(4, .int (iI z253)), (3, .int (iI z254)), (0, .ref a0), (1, .int (iI x1)), (2, .ref a2)] [] S g 0 0 := by
    intro nP303
    induction nP303 with
    | zero => intro z253 lz253 uz253 z254 lz254 uz254 mP303; exact False.elim (by omega)
    | succ nP303 ihP303 =>
      intro z253 lz253 uz253 z254 lz254 uz254 mP303
      refine X_iload hK (i := 4) 0 kd23_5.2.2.2.2.2.2.2.2.1 rfl ?_
      refine X_aloadn hK (i := 0) 2 kd23_5.2.2.2.2.2.2.2.2.2.1 rfl rfl ?_
      refine X_getr hK 13900 16 fl_X10_31_11 hs_a0 sl_11_6 kd23_5.2.2.2.2.2.2.2.2.2.2.1 (fun b304 eb304 hs_b304 => ?_)
      refine X_iloadn hK (i := 1) 3 kd23_5.2.2.2.2.2.2.2.2.2.2.2 rfl rfl ?_
      refine X_iald hK hs_b304 (by decide) sl_13900 (by omega) (by omega) kd23_6.1 (fun z305 ez305 lz305 uz305 => ?_)
      refine X_icmp_ge hK 122 (by omega) (by omega) kd23_6.2.1 (by decide) (fun c306 => ?_) (fun c306 => ?_)
      · refine X_iloadn hK (i := 3) 1 kd23_11.2.2.1 rfl rfl ?_
        refine X_iconst hK kd23_11.2.2.2.1 ?_
        refine X_iand hK kd23_11.2.2.2.2.1 (fun z307 ez307 lz307 uz307 => ?_)
        have bz307 := xandB ez307 ⟨lz307, uz307⟩ (by omega)
        refine X_iconst hK kd23_11.2.2.2.2.2.1 ?_
        refine X_icmp_ne hK 133 (by omega) (by omega) kd23_11.2.2.2.2.2.2.1 (by decide) (fun c308 => ?_) (fun c308 => ?_)
        · refine X_iconst hK kd23_11.2.2.2.2.2.2.2.2.2.1 ?_
          exact hret _ _ _ _ _ _ _ kd23_11.2.2.2.2.2.2.2.2.2.2.1 (by omega) (by omega) ⟨rfl, rfl, 0, rfl, (by omega), (by omega)⟩ (Nat.le_refl _) (Nat.le_refl _)
        · refine X_iconst hK kd23_11.2.2.2.2.2.2.2.1 ?_
          refine X_goto hK 134 kd23_11.2.2.2.2.2.2.2.2.1 (by decide) ?_
          exact hret _ _ _ _ _ _ _ kd23_11.2.2.2.2.2.2.2.2.2.2.1 (by omega) (by omega) ⟨rfl, rfl, 1, rfl, (by omega), (by omega)⟩ (Nat.le_refl _) (Nat.le_refl _)
      · refine X_aloadn hK (i := 0) 2 kd23_6.2.2.1 rfl rfl ?_
        refine X_getr hK 14000 100 fl_X10_34_11 hs_a0 sl_11_7 kd23_6.2.2.2.1 (fun b309 eb309 hs_b309 => ?_)
        refine X_iload hK (i := 4) 0 kd23_6.2.2.2.2.1 rfl ?_
        refine X_iald4 hK hs_b309 (by decide) sl_14000 (by omega) (by omega) kd23_6.2.2.2.2.2.1 (fun z310 ez310 lz310 uz310 mz310 => ?_)
        refine X_bipush hK kd23_6.2.2.2.2.2.2.1 (by decide) ?_
        refine X_irem hK (by omega) (by omega) kd23_6.2.2.2.2.2.2.2.1 (fun z311 wz311 ez311 fz311 hz311 => ?_)
        have bz311 : 0 ≤ z311 ∧ z311 ≤ 15 := by omega
        refine X_istore hK (i := 5) [(5, .int (iI z311)), (4, .int (iI z253)), (3, .int (iI z254)), (0, .ref a0), (1, .int (iI x1)), (2, .ref a2)] kd23_6.2.2.2.2.2.2.2.2.1 (by decide) rfl ?_
        refine X_iloadn hK (i := 3) 2 kd23_6.2.2.2.2.2.2.2.2.2.1 rfl rfl ?_
        refine X_iconst hK kd23_6.2.2.2.2.2.2.2.2.2.2.1 ?_
        refine X_iand hK kd23_6.2.2.2.2.2.2.2.2.2.2.2 (fun z312 ez312 lz312 uz312 => ?_)
        have bz312 := xandB ez312 ⟨lz312, uz312⟩ (by omega)
        refine X_istore hK (i := 6) [(6, .int (iI z312)), (5, .int (iI z311)), (4, .int (iI z253)), (3, .int (iI z254)), (0, .ref a0), (1, .int (iI x1)), (2, .ref a2)] kd23_7.1 (by decide) rfl ?_
        refine X_iload hK (i := 5) 1 kd23_7.2.1 rfl ?_
        refine X_bipush hK kd23_7.2.2.1 (by decide) ?_
        have J333 : ∀ (z332 : Int) (lz332 : (-2147483648) ≤ z332) (uz332 : z332 ≤ 2147483647), X K E 116 [(3, .int (iI z332)), (6, .int (iI z312)), (5, .int (iI z311)), (4, .int (iI z253)), (0, .ref a0), (1, .int (iI x1)), (2, .ref a2)] [] S g 0 0 := by
          intro z332 lz332 uz332
          refine X_iinc hK (i := 4) (z := z253) (n := 1) 3 [(4, .int (iI (z253 + 1))), (3, .int (iI z332)), (6, .int (iI z312)), (5, .int (iI z311)), (0, .ref a0), (1, .int (iI x1)), (2, .ref a2)] kd23_11.1 rfl (by decide) rfl ?_
          refine X_goto hK 10 kd23_11.2.1 (by decide) ?_
          refine X_lv [(4, .int (iI (z253 + 1))), (3, .int (iI z332)), (0, .ref a0), (1, .int (iI x1)), (2, .ref a2)] [0, 1, 4, 5, 6] rfl ?_
          exact ihP303  (z253 + 1) (by omega) (by omega) z332 (by omega) (by omega) (by omega)
        refine X_icmp_ne hK 52 (by omega) (by omega) kd23_7.2.2.2.1 (by decide) (fun c313 => ?_) (fun c313 => ?_)
        · refine X_iload hK (i := 5) 1 kd23_7.2.2.2.2.2.2.2.2.2.1 rfl ?_
          refine X_bipush hK kd23_7.2.2.2.2.2.2.2.2.2.2.1 (by decide) ?_
          refine X_icmp_ne hK 72 (by omega) (by omega) kd23_7.2.2.2.2.2.2.2.2.2.2.2 (by decide) (fun c334 => ?_) (fun c334 => ?_)
          · refine X_iload hK (i := 5) 1 kd23_8.2.2.2.2.2.2.2.2.2.1 rfl ?_
            refine X_bipush hK kd23_8.2.2.2.2.2.2.2.2.2.2.1 (by decide) ?_
            refine X_icmp_ne hK 89 (by omega) (by omega) kd23_8.2.2.2.2.2.2.2.2.2.2.2 (by decide) (fun c335 => ?_) (fun c335 => ?_)
            · refine X_iloadn hK (i := 3) 3 kd23_9.2.2.2.2.2.2.2.1 rfl rfl ?_
              refine X_iconst hK kd23_9.2.2.2.2.2.2.2.2.1 ?_
              refine X_ishl hK kd23_9.2.2.2.2.2.2.2.2.2.1 (fun z336 ez336 lz336 uz336 => ?_)
              refine X_aloadn hK (i := 0) 4 kd23_9.2.2.2.2.2.2.2.2.2.2.1 rfl rfl ?_
              refine X_getK hK fl_X10_34_11 hs_a0 eb309 kd23_9.2.2.2.2.2.2.2.2.2.2.2 ?_
              refine X_iload hK (i := 4) 2 kd23_10.1 rfl ?_
              refine X_ialdK hK hs_b309 (by decide) (by omega) (by omega) ez310 kd23_10.2.1 ?_
              refine X_aloadn hK (i := 2) 6 kd23_10.2.2.1 rfl rfl ?_
              refine X_iload hK (i := 5) 1 kd23_10.2.2.2.1 rfl ?_
              refine X_iald hK hs_a2 (by decide) sl_12000 (by omega) (by omega) kd23_10.2.2.2.2.1 (fun z337 ez337 lz337 uz337 => ?_)
              refine X_callS hK [.int (iI z310), .int (iI z337)] [.int (iI z336)] lk_X10_57 (c_X10_isSo _ _ _ _ _ S g z310 z337 (by omega) (by omega)) kd23_10.2.2.2.2.2.1 rfl rfl (by simp [Value.category]) (by decide) (by decide) (by decide) (by decide) (fun r338 S340 g339 pr338 qr338 hg339 => ?_)
              obtain ⟨rfl, rfl, z341, rfl, lz341, uz341⟩ := pr338
              refine X_st [.int (iI z341), .int (iI z336)] rfl ?_
              have J344 : ∀ (z343 : Int) (lz343 : 0 ≤ z343) (uz343 : z343 ≤ 1), X K E 114 [(6, .int (iI z312)), (5, .int (iI z311)), (4, .int (iI z253)), (3, .int (iI z254)), (0, .ref a0), (1, .int (iI x1)), (2, .ref a2)] [.int (iI z343), .int (iI z336)] S g 0 0 := by
                intro z343 lz343 uz343
                refine X_ior hK kd23_10.2.2.2.2.2.2.2.2.2.2.1 (fun z345 ez345 lz345 uz345 => ?_)
                refine X_istoren hK (i := 3) [(3, .int (iI z345)), (6, .int (iI z312)), (5, .int (iI z311)), (4, .int (iI z253)), (0, .ref a0), (1, .int (iI x1)), (2, .ref a2)] kd23_10.2.2.2.2.2.2.2.2.2.2.2 rfl (by decide) rfl ?_
                exact J333 z345 (by omega) (by omega)
              refine X_if_eq hK 113 (by omega) kd23_10.2.2.2.2.2.2.1 (by decide) (fun c342 => ?_) (fun c342 => ?_)
              · refine X_iconst hK kd23_10.2.2.2.2.2.2.2.2.2.1 ?_
                exact J344 0 (by omega) (by omega)
              · refine X_iconst hK kd23_10.2.2.2.2.2.2.2.1 ?_
                refine X_goto hK 114 kd23_10.2.2.2.2.2.2.2.2.1 (by decide) ?_
                exact J344 1 (by omega) (by omega)
            · refine X_iloadn hK (i := 3) 3 kd23_9.1 rfl rfl ?_
              refine X_iconst hK kd23_9.2.1 ?_
              refine X_iushr hK kd23_9.2.2.1 (fun z346 ez346 lz346 uz346 => ?_)
              refine X_iload hK (i := 6) 0 kd23_9.2.2.2.1 rfl ?_
              refine X_ior hK kd23_9.2.2.2.2.1 (fun z347 ez347 lz347 uz347 => ?_)
              refine X_istoren hK (i := 3) [(3, .int (iI z347)), (6, .int (iI z312)), (5, .int (iI z311)), (4, .int (iI z253)), (0, .ref a0), (1, .int (iI x1)), (2, .ref a2)] kd23_9.2.2.2.2.2.1 rfl (by decide) rfl ?_
              refine X_goto hK 116 kd23_9.2.2.2.2.2.2.1 (by decide) ?_
              exact J333 z347 (by omega) (by omega)
          · refine X_iloadn hK (i := 3) 3 kd23_8.1 rfl rfl ?_
            refine X_iconst hK kd23_8.2.1 ?_
            refine X_iushr hK kd23_8.2.2.1 (fun z348 ez348 lz348 uz348 => ?_)
            refine X_iload hK (i := 6) 0 kd23_8.2.2.2.1 rfl ?_
            refine X_bipush hK kd23_8.2.2.2.2.1 (by decide) ?_
            refine X_ior hK kd23_8.2.2.2.2.2.1 (fun z349 ez349 lz349 uz349 => ?_)
            refine X_iand hK kd23_8.2.2.2.2.2.2.1 (fun z350 ez350 lz350 uz350 => ?_)
            refine X_istoren hK (i := 3) [(3, .int (iI z350)), (6, .int (iI z312)), (5, .int (iI z311)), (4, .int (iI z253)), (0, .ref a0), (1, .int (iI x1)), (2, .ref a2)] kd23_8.2.2.2.2.2.2.2.1 rfl (by decide) rfl ?_
            refine X_goto hK 116 kd23_8.2.2.2.2.2.2.2.2.1 (by decide) ?_
            exact J333 z350 (by omega) (by omega)
        · refine X_iloadn hK (i := 3) 3 kd23_7.2.2.2.2.1 rfl rfl ?_
          refine X_iconst hK kd23_7.2.2.2.2.2.1 ?_
          refine X_ixor hK kd23_7.2.2.2.2.2.2.1 (fun z351 ez351 lz351 uz351 => ?_)
          refine X_istoren hK (i := 3) [(3, .int (iI z351)), (6, .int (iI z312)), (5, .int (iI z311)), (4, .int (iI z253)), (0, .ref a0), (1, .int (iI x1)), (2, .ref a2)] kd23_7.2.2.2.2.2.2.2.1 rfl (by decide) rfl ?_
          refine X_goto hK 116 kd23_7.2.2.2.2.2.2.2.2.1 (by decide) ?_
          exact J333 z351 (by omega) (by omega)
  exact P303 ((116 - z2 : Int).toNat + 1) z2 (by omega) (by omega) 1 (by omega) (by omega) (by omega)

set_option maxHeartbeats 4000000 in
set_option maxRecDepth 100000 in
theorem c_X10_lineFor (l : Launch) (D : va_G) (kA : Nat → ClassId) (b0 : Nat) (t0 : Nat → Nat) (S : xT) (g : xG) (a0 : Nat) (x1 : Int) (a2 : Nat) (hs_a0 : S a0 = some (11, 0)) (hx1 : (-2147483648) ≤ x1 ∧ x1 ≤ 2147483647) (hs_a2 : S a2 = some (12000, 12)) : xMt l yX10_lineFor cX10_lineFor 4 (some .int) 2 0 0 49 D kA b0 t0 [] [.ref a0, .int (iI x1), .ref a2] S g (fun (r : Option Value) (S1 : xT) (g1 : xG) => S = S1 ∧ g = g1 ∧ ∃ z : Int, r = some (.int (iI z)) ∧ (-1) ≤ z ∧ z ≤ 15) := by
  refine xEnterI (by decide) (by simp [lg_sl, Value.category]) [(0, .ref a0), (1, .int (iI x1)), (2, .ref a2)] rfl ?_
  intro K E hK hret _ _ _
  refine X_iconst hK kd23_11.2.2.2.2.2.2.2.2.2.2.2 ?_
  refine X_istoren hK (i := 3) [(3, .int (iI 0)), (0, .ref a0), (1, .int (iI x1)), (2, .ref a2)] kd23_12.1 rfl (by decide) rfl ?_
  have P67 : ∀ (nP67 : Nat) (z56 : Int) (_ : 0 ≤ z56) (_ : z56 ≤ 16) (_ : 32 - z56 < (nP67 : Int)), X K E 2 [(3, .int (iI z56)), (0, .ref a0), (1, .int (iI x1)), (2, .ref a2)] [] S g 0 0 := by
    intro nP67
    induction nP67 with
    | zero => intro z56 lz56 uz56 mP67; exact False.elim (by omega)
    | succ nP67 ihP67 =>
      intro z56 lz56 uz56 mP67
      refine X_iloadn hK (i := 3) 0 kd23_12.2.1 rfl rfl ?_
      refine X_aloadn hK (i := 0) 1 kd23_12.2.2.1 rfl rfl ?_
      refine X_geti hK fl_X10_15_11 hs_a0 sl_11_1 kd23_12.2.2.2.1 (fun z68 ez68 lz68 uz68 => ?_)
      refine X_icmp_ge hK 37 (by omega) (by omega) kd23_12.2.2.2.2.1 (by decide) (fun c69 => ?_) (fun c69 => ?_)
      · refine X_iconst hK kd23_13.2.2.2.2.2.2.2.2.1 ?_
        exact hret _ _ _ _ _ _ _ kd23_13.2.2.2.2.2.2.2.2.2 ⟨rfl, rfl, (-1), rfl, (by omega), (by omega)⟩ (Nat.le_refl _) (Nat.le_refl _)
      · refine X_aloadn hK (i := 0) 1 kd23_12.2.2.2.2.2.1 rfl rfl ?_
        refine X_getr hK 13600 16 fl_X10_21_11 hs_a0 sl_11_3 kd23_12.2.2.2.2.2.2.1 (fun b70 eb70 hs_b70 => ?_)
        refine X_iloadn hK (i := 3) 0 kd23_12.2.2.2.2.2.2.2.1 rfl rfl ?_
        refine X_iald hK hs_b70 (by decide) sl_13600 (by omega) (by omega) kd23_12.2.2.2.2.2.2.2.2.1 (fun z71 ez71 lz71 uz71 => ?_)
        refine X_iloadn hK (i := 1) 2 kd23_12.2.2.2.2.2.2.2.2.2.1 rfl rfl ?_
        refine X_icmp_ne hK 31 (by omega) (by omega) kd23_12.2.2.2.2.2.2.2.2.2.2.1 (by decide) (fun c72 => ?_) (fun c72 => ?_)
        · refine X_iinc hK (i := 3) (z := z56) (n := 1) 0 [(3, .int (iI (z56 + 1))), (0, .ref a0), (1, .int (iI x1)), (2, .ref a2)] kd23_13.2.2.2.2.2.2.1 rfl (by decide) rfl ?_
          refine X_goto hK 2 kd23_13.2.2.2.2.2.2.2.1 (by decide) ?_
          exact ihP67  (z56 + 1) (by omega) (by omega) (by omega)
        · refine X_aloadn hK (i := 0) 1 kd23_12.2.2.2.2.2.2.2.2.2.2.2 rfl rfl ?_
          refine X_iloadn hK (i := 3) 0 kd23_13.1 rfl rfl ?_
          refine X_aloadn hK (i := 2) 3 kd23_13.2.1 rfl rfl ?_
          refine X_callV hK [.int (iI z56), .ref a2] [] lk_X10_37 (c_X10_holds _ _ _ _ _ S g a0 z56 a2 hs_a0 (by omega) hs_a2) hs_a0 ⟨by decide, rfl⟩ kd23_13.2.2.1 rfl rfl (by simp [Value.category]) (by decide) (by decide) (by decide) (by decide) (fun r73 S75 g74 pr73 qr73 hg74 => ?_)
          obtain ⟨rfl, rfl, z76, rfl, lz76, uz76⟩ := pr73
          refine X_st [.int (iI z76)] rfl ?_
          refine X_if_eq hK 31 (by omega) kd23_13.2.2.2.1 (by decide) (fun c77 => ?_) (fun c77 => ?_)
          · refine X_iinc hK (i := 3) (z := z56) (n := 1) 0 [(3, .int (iI (z56 + 1))), (0, .ref a0), (1, .int (iI x1)), (2, .ref a2)] kd23_13.2.2.2.2.2.2.1 rfl (by decide) rfl ?_
            refine X_goto hK 2 kd23_13.2.2.2.2.2.2.2.1 (by decide) ?_
            exact ihP67  (z56 + 1) (by omega) (by omega) (by omega)
          · refine X_iloadn hK (i := 3) 0 kd23_13.2.2.2.2.1 rfl rfl ?_
            exact hret _ _ _ _ _ _ _ kd23_13.2.2.2.2.2.1 ⟨rfl, rfl, z56, rfl, (by omega), (by omega)⟩ (Nat.le_refl _) (Nat.le_refl _)
  exact P67 ((32 - 0 : Int).toNat + 1) 0 (by omega) (by omega) (by omega)
