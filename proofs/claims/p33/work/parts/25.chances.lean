theorem m_2_18 : Cond.initialized RX2 ∈ wsL_law := ch_2 _ (List.mem_of_getElem? (i := 18) rfl)
theorem m_6_19 : Cond.fieldLink RX2 9 "PaperBoys$Chances" "asks" "[I" ∈ wsL_law := ch_6 _ (List.mem_of_getElem? (i := 19) rfl)
theorem m_6_20 : Cond.fieldLink RX2 15 "PaperBoys$Chances" "shares" "[I" ∈ wsL_law := ch_6 _ (List.mem_of_getElem? (i := 20) rfl)
theorem m_6_21 : Cond.fieldLink RX2 18 "PaperBoys$Chances" "size" "I" ∈ wsL_law := ch_6 _ (List.mem_of_getElem? (i := 21) rfl)
theorem m_6_22 : Cond.fieldLink RX2 22 "PaperBoys$Chances" "expected" "J" ∈ wsL_law := ch_6 _ (List.mem_of_getElem? (i := 22) rfl)
theorem m_13_23 : Cond.initialized "java/lang/Math" ∈ wsL_law := ch_13 _ (List.mem_of_getElem? (i := 23) rfl)
theorem m_15_1 : Cond.static Lib.Math.min.name ∈ wsL_law := ch_15 _ (List.mem_of_getElem? (i := 1) rfl)
theorem m_15_2 : Cond.code Lib.Math.min.name Lib.Math.min.code 2 (some .int) ∈ wsL_law := ch_15 _ (List.mem_of_getElem? (i := 2) rfl)
theorem m_35_22 : Cond.static yX11_costOf ∈ wsL_law := ch_35 _ (List.mem_of_getElem? (i := 22) rfl)
theorem m_35_23 : Cond.code yX11_costOf cX11_costOf 2 (some .int) ∈ wsL_law := ch_35 _ (List.mem_of_getElem? (i := 23) rfl)
theorem m_40_12 : Cond.static yX11_backOf ∈ wsL_law := ch_40 _ (List.mem_of_getElem? (i := 12) rfl)
theorem m_40_13 : Cond.code yX11_backOf cX11_backOf 2 (some .int) ∈ wsL_law := ch_40 _ (List.mem_of_getElem? (i := 13) rfl)
theorem m_40_14 : Cond.static yX11_paidFor ∈ wsL_law := ch_40 _ (List.mem_of_getElem? (i := 14) rfl)
theorem m_40_15 : Cond.code yX11_paidFor cX11_paidFor 2 (some .int) ∈ wsL_law := ch_40 _ (List.mem_of_getElem? (i := 15) rfl)
theorem m_46_19 : Cond.methodLink RX2 37 yX2_gainOf ∈ wsL_law := ch_46 _ (List.mem_of_getElem? (i := 19) rfl)
theorem m_46_20 : Cond.instanceMethod yX2_gainOf ∈ wsL_law := ch_46 _ (List.mem_of_getElem? (i := 20) rfl)
theorem m_46_21 : Cond.selects RX2 yX2_gainOf yX2_gainOf ∈ wsL_law := ch_46 _ (List.mem_of_getElem? (i := 21) rfl)
theorem m_46_22 : Cond.code yX2_gainOf cX2_gainOf 11 (some .long) ∈ wsL_law := ch_46 _ (List.mem_of_getElem? (i := 22) rfl)
theorem m_46_23 : Cond.methodLink RX2 45 Lib.Math.min.name ∈ wsL_law := ch_46 _ (List.mem_of_getElem? (i := 23) rfl)
theorem kd25_0 : (decode cX2_choose 0 = .ok (.iconst 0, 1)) ∧ (decode cX2_choose 1 = .ok (.istore 4, 2)) ∧ (decode cX2_choose 3 = .ok (.aload_n 0, 1)) ∧ (decode cX2_choose 4 = .ok (.aload_n 0, 1)) ∧ (decode cX2_choose 5 = .ok (.iconst 0, 1)) ∧ (decode cX2_choose 6 = .ok (.iload_n 1, 1)) ∧ (decode cX2_choose 7 = .ok (.iload_n 2, 1)) ∧ (decode cX2_choose 8 = .ok (.iload_n 3, 1)) ∧ (decode cX2_choose 9 = .ok (.invokevirtual 37, 3)) ∧ (decode cX2_choose 12 = .ok (.putfield 22, 3)) ∧ (decode cX2_choose 15 = .ok (.iconst 1, 1)) ∧ (decode cX2_choose 16 = .ok (.istore 5, 2)) := by decide +kernel
theorem kd25_1 : (decode cX2_choose 18 = .ok (.iload 5, 2)) ∧ (decode cX2_choose 20 = .ok (.sipush 400, 3)) ∧ (decode cX2_choose 23 = .ok (.if_icmp .gt 40, 3)) ∧ (decode cX2_choose 26 = .ok (.aload_n 0, 1)) ∧ (decode cX2_choose 27 = .ok (.iload 5, 2)) ∧ (decode cX2_choose 29 = .ok (.iload_n 1, 1)) ∧ (decode cX2_choose 30 = .ok (.iload_n 2, 1)) ∧ (decode cX2_choose 31 = .ok (.iload_n 3, 1)) ∧ (decode cX2_choose 32 = .ok (.invokevirtual 37, 3)) ∧ (decode cX2_choose 35 = .ok (.lstore 6, 2)) ∧ (decode cX2_choose 37 = .ok (.lload 6, 2)) ∧ (decode cX2_choose 39 = .ok (.aload_n 0, 1)) := by decide +kernel
theorem kd25_2 : (decode cX2_choose 40 = .ok (.getfield 22, 3)) ∧ (decode cX2_choose 43 = .ok (.lcmp, 1)) ∧ (decode cX2_choose 44 = .ok (.ifCond .le 13, 3)) ∧ (decode cX2_choose 47 = .ok (.aload_n 0, 1)) ∧ (decode cX2_choose 48 = .ok (.lload 6, 2)) ∧ (decode cX2_choose 50 = .ok (.putfield 22, 3)) ∧ (decode cX2_choose 53 = .ok (.iload 5, 2)) ∧ (decode cX2_choose 55 = .ok (.istore 4, 2)) ∧ (decode cX2_choose 57 = .ok (.iinc 5 1, 3)) ∧ (decode cX2_choose 60 = .ok (.goto (-42), 3)) ∧ (decode cX2_choose 63 = .ok (.iload 4, 2)) ∧ (decode cX2_choose 65 = .ok (.ireturn, 1)) := by decide +kernel
theorem kd25_3 : (decode cX2_gainOf 0 = .ok (.lconst 0, 1)) ∧ (decode cX2_gainOf 1 = .ok (.lstore 5, 2)) ∧ (decode cX2_gainOf 3 = .ok (.iload_n 1, 1)) ∧ (decode cX2_gainOf 4 = .ok (.iload_n 2, 1)) ∧ (decode cX2_gainOf 5 = .ok (.invokestatic 41, 3)) ∧ (decode cX2_gainOf 8 = .ok (.istore 7, 2)) ∧ (decode cX2_gainOf 10 = .ok (.iconst 0, 1)) ∧ (decode cX2_gainOf 11 = .ok (.istore 8, 2)) ∧ (decode cX2_gainOf 13 = .ok (.iload 8, 2)) ∧ (decode cX2_gainOf 15 = .ok (.aload_n 0, 1)) ∧ (decode cX2_gainOf 16 = .ok (.getfield 18, 3)) ∧ (decode cX2_gainOf 19 = .ok (.if_icmp .ge 62, 3)) := by decide +kernel
theorem kd25_4 : (decode cX2_gainOf 22 = .ok (.iload_n 1, 1)) ∧ (decode cX2_gainOf 23 = .ok (.aload_n 0, 1)) ∧ (decode cX2_gainOf 24 = .ok (.getfield 9, 3)) ∧ (decode cX2_gainOf 27 = .ok (.iload 8, 2)) ∧ (decode cX2_gainOf 29 = .ok (.iaload, 1)) ∧ (decode cX2_gainOf 30 = .ok (.invokestatic 45, 3)) ∧ (decode cX2_gainOf 33 = .ok (.istore 9, 2)) ∧ (decode cX2_gainOf 35 = .ok (.iload_n 3, 1)) ∧ (decode cX2_gainOf 36 = .ok (.iload 9, 2)) ∧ (decode cX2_gainOf 38 = .ok (.imul, 1)) ∧ (decode cX2_gainOf 39 = .ok (.iload 7, 2)) ∧ (decode cX2_gainOf 41 = .ok (.isub, 1)) := by decide +kernel
theorem kd25_5 : (decode cX2_gainOf 42 = .ok (.iload_n 1, 1)) ∧ (decode cX2_gainOf 43 = .ok (.iload 9, 2)) ∧ (decode cX2_gainOf 45 = .ok (.isub, 1)) ∧ (decode cX2_gainOf 46 = .ok (.iload 4, 2)) ∧ (decode cX2_gainOf 48 = .ok (.invokestatic 50, 3)) ∧ (decode cX2_gainOf 51 = .ok (.iload_n 2, 1)) ∧ (decode cX2_gainOf 52 = .ok (.invokestatic 53, 3)) ∧ (decode cX2_gainOf 55 = .ok (.iadd, 1)) ∧ (decode cX2_gainOf 56 = .ok (.istore 10, 2)) ∧ (decode cX2_gainOf 58 = .ok (.lload 5, 2)) ∧ (decode cX2_gainOf 60 = .ok (.iload 10, 2)) ∧ (decode cX2_gainOf 62 = .ok (.i2l, 1)) := by decide +kernel
theorem kd25_6 : (decode cX2_gainOf 63 = .ok (.aload_n 0, 1)) ∧ (decode cX2_gainOf 64 = .ok (.getfield 15, 3)) ∧ (decode cX2_gainOf 67 = .ok (.iload 8, 2)) ∧ (decode cX2_gainOf 69 = .ok (.iaload, 1)) ∧ (decode cX2_gainOf 70 = .ok (.i2l, 1)) ∧ (decode cX2_gainOf 71 = .ok (.lmul, 1)) ∧ (decode cX2_gainOf 72 = .ok (.ladd, 1)) ∧ (decode cX2_gainOf 73 = .ok (.lstore 5, 2)) ∧ (decode cX2_gainOf 75 = .ok (.iinc 8 1, 3)) ∧ (decode cX2_gainOf 78 = .ok (.goto (-65), 3)) ∧ (decode cX2_gainOf 81 = .ok (.lload 5, 2)) ∧ (decode cX2_gainOf 83 = .ok (.lreturn, 1)) := by decide +kernel
theorem fl_X2_15_3 : xF RX2 15 3 1 (.array .int) true := ⟨by decide, RX2, TX2, 4, tyX2, "PaperBoys$Chances", rfl, inlX2, tyX2_ok, nmX2, by decide, rfl, rfl, m_6_20, Or.inl rfl⟩
theorem fl_X2_18_3 : xF RX2 18 3 2 .int false := ⟨by decide, RX2, TX2, 4, tyX2, "PaperBoys$Chances", rfl, inlX2, tyX2_ok, nmX2, by decide, rfl, rfl, m_6_21, Or.inl rfl⟩
theorem fl_X2_22_3 : xF RX2 22 3 3 .long false := ⟨by decide, RX2, TX2, 4, tyX2, "PaperBoys$Chances", rfl, inlX2, tyX2_ok, nmX2, by decide, rfl, rfl, m_6_22, Or.inl rfl⟩
theorem fl_X2_9_3 : xF RX2 9 3 0 (.array .int) true := ⟨by decide, RX2, TX2, 4, tyX2, "PaperBoys$Chances", rfl, inlX2, tyX2_ok, nmX2, by decide, rfl, rfl, m_6_19, Or.inl rfl⟩
theorem lk_X2_37 : xLV RX2 37 yX2_gainOf cX2_gainOf 11 (some .long) 4 := ⟨m_46_19, m_46_20, m_46_21, m_2_18, m_46_22, by decide +kernel⟩
theorem lk_X2_41 : xLN RX2 41 yX11_costOf cX11_costOf 2 (some .int) 2 := ⟨by decide, m_35_22, m_1_2, m_35_23, by decide +kernel⟩
theorem lk_X2_50 : xLN RX2 50 yX11_backOf cX11_backOf 2 (some .int) 2 := ⟨by decide, m_40_12, m_1_2, m_40_13, by decide +kernel⟩
theorem lk_X2_53 : xLN RX2 53 yX11_paidFor cX11_paidFor 2 (some .int) 2 := ⟨by decide, m_40_14, m_1_2, m_40_15, by decide +kernel⟩
theorem mm_X2_45 : Cond.methodLink RX2 45 Lib.Math.min.name ∈ wsL_law ∧ Cond.static Lib.Math.min.name ∈ wsL_law ∧ Cond.initialized "java/lang/Math" ∈ wsL_law ∧ Cond.code Lib.Math.min.name Lib.Math.min.code 2 (some .int) ∈ wsL_law := ⟨m_46_23, m_15_1, m_13_23, m_15_2⟩
set_option maxHeartbeats 4000000 in
set_option maxRecDepth 100000 in
theorem c_X2_gainOf (l : Launch) (D : va_G) (kA : Nat → ClassId) (b0 : Nat) (t0 : Nat → Nat) (S : xT) (g : xG) (a0 : Nat) (x1 : Int) (x2 : Int) (x3 : Int) (x4 : Int) (hs_a0 : S a0 = some (3, 0)) (hx1 : (-2147483648) ≤ x1 ∧ x1 ≤ 2147483647) (hx2 : (-2147483648) ≤ x2 ∧ x2 ≤ 2147483647) (hx3 : (-2147483648) ≤ x3 ∧ x3 ≤ 2147483647) (hx4 : (-2147483648) ≤ x4 ∧ x4 ≤ 2147483647) : xMt l yX2_gainOf cX2_gainOf 11 (some .long) 1 0 0 21 D kA b0 t0 [] [.ref a0, .int (iI x1), .int (iI x2), .int (iI x3), .int (iI x4)] S g (fun (r : Option Value) (S1 : xT) (g1 : xG) => S = S1 ∧ g = g1 ∧ ∃ z : Int64, r = some (.long z)) := by
  refine xEnterL (by decide) (by simp [lg_sl, Value.category]) [(0, .ref a0), (1, .int (iI x1)), (2, .int (iI x2)), (3, .int (iI x3)), (4, .int (iI x4))] rfl ?_
  intro K E hK hret _ _ _
  refine X_lconst hK kd25_3.1 (fun y1 => ?_)
  refine X_lstore hK (i := 5) [(5, .long y1), (0, .ref a0), (1, .int (iI x1)), (2, .int (iI x2)), (3, .int (iI x3)), (4, .int (iI x4))] kd25_3.2.1 (by decide) rfl ?_
  refine X_iloadn hK (i := 1) 2 kd25_3.2.2.1 rfl rfl ?_
  refine X_iloadn hK (i := 2) 3 kd25_3.2.2.2.1 rfl rfl ?_
  refine X_callN hK [.int (iI x1), .int (iI x2)] [] lk_X2_41 (c_X11_costOf _ _ _ _ _ S g x1 x2 (by omega) (by omega)) kd25_3.2.2.2.2.1 rfl rfl (by simp [Value.category]) (by decide) (by decide) (by decide) (by decide) (fun r2 S4 g3 pr2 qr2 hg3 => ?_)
  obtain ⟨rfl, rfl, z5, rfl, lz5, uz5⟩ := pr2
  refine X_st [.int (iI z5)] rfl ?_
  refine X_istore hK (i := 7) [(7, .int (iI z5)), (5, .long y1), (0, .ref a0), (1, .int (iI x1)), (2, .int (iI x2)), (3, .int (iI x3)), (4, .int (iI x4))] kd25_3.2.2.2.2.2.1 (by decide) rfl ?_
  refine X_iconst hK kd25_3.2.2.2.2.2.2.1 ?_
  refine X_istore hK (i := 8) [(8, .int (iI 0)), (7, .int (iI z5)), (5, .long y1), (0, .ref a0), (1, .int (iI x1)), (2, .int (iI x2)), (3, .int (iI x3)), (4, .int (iI x4))] kd25_3.2.2.2.2.2.2.2.1 (by decide) rfl ?_
  have P156 : ∀ (nP156 : Nat) (z131 : Int) (_ : 0 ≤ z131) (_ : z131 ≤ 24) (y132 : Int64) (_ : 40 - z131 < (nP156 : Int)), X K E 13 [(8, .int (iI z131)), (7, .int (iI z5)), (5, .long y132), (0, .ref a0), (1, .int (iI x1)), (2, .int (iI x2)), (3, .int (iI x3)), (4, .int (iI x4))] [] S g 0 0 := by
    intro nP156
    induction nP156 with
    | zero => intro z131 lz131 uz131 y132 mP156; exact False.elim (by omega)
    | succ nP156 ihP156 =>
      intro z131 lz131 uz131 y132 mP156
      refine X_iload hK (i := 8) 0 kd25_3.2.2.2.2.2.2.2.2.1 rfl ?_
      refine X_aloadn hK (i := 0) 3 kd25_3.2.2.2.2.2.2.2.2.2.1 rfl rfl ?_
      refine X_geti hK fl_X2_18_3 hs_a0 sl_3_2 kd25_3.2.2.2.2.2.2.2.2.2.2.1 (fun z157 ez157 lz157 uz157 => ?_)
      refine X_icmp_ge hK 81 (by omega) (by omega) kd25_3.2.2.2.2.2.2.2.2.2.2.2 (by decide) (fun c158 => ?_) (fun c158 => ?_)
      · refine X_lload hK (i := 5) 2 kd25_6.2.2.2.2.2.2.2.2.2.2.1 rfl ?_
        exact hret _ _ _ _ _ _ _ kd25_6.2.2.2.2.2.2.2.2.2.2.2 ⟨rfl, rfl, y132, rfl⟩ (Nat.le_refl _) (Nat.le_refl _)
      · refine X_iloadn hK (i := 1) 4 kd25_4.1 rfl rfl ?_
        refine X_aloadn hK (i := 0) 3 kd25_4.2.1 rfl rfl ?_
        refine X_getr hK 10500 24 fl_X2_9_3 hs_a0 sl_3_0 kd25_4.2.2.1 (fun b159 eb159 hs_b159 => ?_)
        refine X_iload hK (i := 8) 0 kd25_4.2.2.2.1 rfl ?_
        refine X_iald hK hs_b159 (by decide) sl_10500 (by omega) (by omega) kd25_4.2.2.2.2.1 (fun z160 ez160 lz160 uz160 => ?_)
        refine X_mmin hK mm_X2_45 ⟨by decide, by simp [Value.category]⟩ (by decide) (by omega) (by omega) kd25_4.2.2.2.2.2.1 (fun z161 ez161 fz161 => ?_)
        have bz161 : (-2147483648) ≤ z161 ∧ z161 ≤ 3600 := by omega
        refine X_istore hK (i := 9) [(9, .int (iI z161)), (8, .int (iI z131)), (7, .int (iI z5)), (5, .long y132), (0, .ref a0), (1, .int (iI x1)), (2, .int (iI x2)), (3, .int (iI x3)), (4, .int (iI x4))] kd25_4.2.2.2.2.2.2.1 (by decide) rfl ?_
        refine X_iloadn hK (i := 3) 7 kd25_4.2.2.2.2.2.2.2.1 rfl rfl ?_
        refine X_iload hK (i := 9) 0 kd25_4.2.2.2.2.2.2.2.2.1 rfl ?_
        refine X_imul hK kd25_4.2.2.2.2.2.2.2.2.2.1 ?_
        refine X_norm (fun z162 ez162 lz162 uz162 => ?_)
        refine X_iload hK (i := 7) 2 kd25_4.2.2.2.2.2.2.2.2.2.2.1 rfl ?_
        refine X_isub hK kd25_4.2.2.2.2.2.2.2.2.2.2.2 ?_
        refine X_norm (fun z163 ez163 lz163 uz163 => ?_)
        refine X_iloadn hK (i := 1) 5 kd25_5.1 rfl rfl ?_
        refine X_iload hK (i := 9) 0 kd25_5.2.1 rfl ?_
        refine X_isub hK kd25_5.2.2.1 ?_
        refine X_norm (fun z164 ez164 lz164 uz164 => ?_)
        refine X_iload hK (i := 4) 8 kd25_5.2.2.2.1 rfl ?_
        refine X_callN hK [.int (iI z164), .int (iI x4)] [.int (iI z163)] lk_X2_50 (c_X11_backOf _ _ _ _ _ S g z164 x4 (by omega) (by omega)) kd25_5.2.2.2.2.1 rfl rfl (by simp [Value.category]) (by decide) (by decide) (by decide) (by decide) (fun r165 S167 g166 pr165 qr165 hg166 => ?_)
        obtain ⟨rfl, rfl, z168, rfl, lz168, uz168⟩ := pr165
        refine X_st [.int (iI z168), .int (iI z163)] rfl ?_
        refine X_iloadn hK (i := 2) 6 kd25_5.2.2.2.2.2.1 rfl rfl ?_
        refine X_callN hK [.int (iI z168), .int (iI x2)] [.int (iI z163)] lk_X2_53 (c_X11_paidFor _ _ _ _ _ S g z168 x2 (by omega) (by omega)) kd25_5.2.2.2.2.2.2.1 rfl rfl (by simp [Value.category]) (by decide) (by decide) (by decide) (by decide) (fun r169 S171 g170 pr169 qr169 hg170 => ?_)
        obtain ⟨rfl, rfl, z172, rfl, lz172, uz172⟩ := pr169
        refine X_st [.int (iI z172), .int (iI z163)] rfl ?_
        refine X_iadd hK kd25_5.2.2.2.2.2.2.2.1 ?_
        refine X_norm (fun z173 ez173 lz173 uz173 => ?_)
        refine X_istore hK (i := 10) [(10, .int (iI z173)), (9, .int (iI z161)), (8, .int (iI z131)), (7, .int (iI z5)), (5, .long y132), (0, .ref a0), (1, .int (iI x1)), (2, .int (iI x2)), (3, .int (iI x3)), (4, .int (iI x4))] kd25_5.2.2.2.2.2.2.2.2.1 (by decide) rfl ?_
        refine X_lload hK (i := 5) 4 kd25_5.2.2.2.2.2.2.2.2.2.1 rfl ?_
        refine X_iload hK (i := 10) 0 kd25_5.2.2.2.2.2.2.2.2.2.2.1 rfl ?_
        refine X_i2l hK kd25_5.2.2.2.2.2.2.2.2.2.2.2 (fun y174 => ?_)
        refine X_aloadn hK (i := 0) 5 kd25_6.1 rfl rfl ?_
        refine X_getr hK 10600 24 fl_X2_15_3 hs_a0 sl_3_1 kd25_6.2.1 (fun b175 eb175 hs_b175 => ?_)
        refine X_iload hK (i := 8) 2 kd25_6.2.2.1 rfl ?_
        refine X_iald hK hs_b175 (by decide) sl_10600 (by omega) (by omega) kd25_6.2.2.2.1 (fun z176 ez176 lz176 uz176 => ?_)
        refine X_i2l hK kd25_6.2.2.2.2.1 (fun y177 => ?_)
        refine X_lmul hK kd25_6.2.2.2.2.2.1 (fun y178 => ?_)
        refine X_ladd hK kd25_6.2.2.2.2.2.2.1 (fun y179 => ?_)
        refine X_lstore hK (i := 5) [(5, .long y179), (10, .int (iI z173)), (9, .int (iI z161)), (8, .int (iI z131)), (7, .int (iI z5)), (0, .ref a0), (1, .int (iI x1)), (2, .int (iI x2)), (3, .int (iI x3)), (4, .int (iI x4))] kd25_6.2.2.2.2.2.2.2.1 (by decide) rfl ?_
        refine X_iinc hK (i := 8) (z := z131) (n := 1) 3 [(8, .int (iI (z131 + 1))), (5, .long y179), (10, .int (iI z173)), (9, .int (iI z161)), (7, .int (iI z5)), (0, .ref a0), (1, .int (iI x1)), (2, .int (iI x2)), (3, .int (iI x3)), (4, .int (iI x4))] kd25_6.2.2.2.2.2.2.2.2.1 rfl (by decide) rfl ?_
        refine X_goto hK 13 kd25_6.2.2.2.2.2.2.2.2.2.1 (by decide) ?_
        refine X_lv [(8, .int (iI (z131 + 1))), (7, .int (iI z5)), (5, .long y179), (0, .ref a0), (1, .int (iI x1)), (2, .int (iI x2)), (3, .int (iI x3)), (4, .int (iI x4))] [0, 4, 1, 5, 6, 7, 8, 9] rfl ?_
        exact ihP156  (z131 + 1) (by omega) (by omega) y179 (by omega)
  exact P156 ((40 - 0 : Int).toNat + 1) 0 (by omega) (by omega) y1 (by omega)

set_option maxHeartbeats 4000000 in
set_option maxRecDepth 100000 in
theorem c_X2_choose (l : Launch) (D : va_G) (kA : Nat → ClassId) (b0 : Nat) (t0 : Nat → Nat) (S : xT) (g : xG) (a0 : Nat) (x1 : Int) (x2 : Int) (x3 : Int) (hs_a0 : S a0 = some (3, 0)) (hx1 : (-2147483648) ≤ x1 ∧ x1 ≤ 2147483647) (hx2 : (-2147483648) ≤ x2 ∧ x2 ≤ 2147483647) (hx3 : (-2147483648) ≤ x3 ∧ x3 ≤ 2147483647) : xMt l yX2_choose cX2_choose 8 (some .int) 2 0 0 51 D kA b0 t0 [(3, 3)] [.ref a0, .int (iI x1), .int (iI x2), .int (iI x3)] S g (fun (r : Option Value) (S1 : xT) (g1 : xG) => S = S1 ∧ ∃ z : Int, r = some (.int (iI z)) ∧ 0 ≤ z ∧ z ≤ 400) := by
  refine xEnterI (by decide) (by simp [lg_sl, Value.category]) [(0, .ref a0), (1, .int (iI x1)), (2, .int (iI x2)), (3, .int (iI x3))] rfl ?_
  intro K E hK hret _ _ _
  refine X_iconst hK kd25_0.1 ?_
  refine X_istore hK (i := 4) [(4, .int (iI 0)), (0, .ref a0), (1, .int (iI x1)), (2, .int (iI x2)), (3, .int (iI x3))] kd25_0.2.1 (by decide) rfl ?_
  refine X_aloadn hK (i := 0) 1 kd25_0.2.2.1 rfl rfl ?_
  refine X_aloadn hK (i := 0) 1 kd25_0.2.2.2.1 rfl rfl ?_
  refine X_iconst hK kd25_0.2.2.2.2.1 ?_
  refine X_iloadn hK (i := 1) 2 kd25_0.2.2.2.2.2.1 rfl rfl ?_
  refine X_iloadn hK (i := 2) 3 kd25_0.2.2.2.2.2.2.1 rfl rfl ?_
  refine X_iloadn hK (i := 3) 4 kd25_0.2.2.2.2.2.2.2.1 rfl rfl ?_
  refine X_callV hK [.int (iI 0), .int (iI x1), .int (iI x2), .int (iI x3)] [.ref a0] lk_X2_37 (c_X2_gainOf _ _ _ _ _ S g a0 0 x1 x2 x3 hs_a0 (by omega) (by omega) (by omega) (by omega)) hs_a0 ⟨by decide, rfl⟩ kd25_0.2.2.2.2.2.2.2.2.1 rfl rfl (by simp [Value.category]) (by decide) (by decide) (by decide) (by decide) (fun r1 S3 g2 pr1 qr1 hg2 => ?_)
  obtain ⟨rfl, rfl, y4, rfl⟩ := pr1
  refine X_st [.long y4, .ref a0] rfl ?_
  refine X_putl hK fl_X2_22_3 hs_a0 (by decide) sl_3_3 kd25_0.2.2.2.2.2.2.2.2.2.1 (fun g5 hg5 => ?_)
  refine X_iconst hK kd25_0.2.2.2.2.2.2.2.2.2.2.1 ?_
  refine X_istore hK (i := 5) [(5, .int (iI 1)), (4, .int (iI 0)), (0, .ref a0), (1, .int (iI x1)), (2, .int (iI x2)), (3, .int (iI x3))] kd25_0.2.2.2.2.2.2.2.2.2.2.2 (by decide) rfl ?_
  have P116 : ∀ (nP116 : Nat) (g102 : xG) (_ : xM [(3, 3)] S g5 g102) (z100 : Int) (_ : 1 ≤ z100) (_ : z100 ≤ 401) (z101 : Int) (_ : 0 ≤ z101) (_ : z101 ≤ 400) (_ : 417 - z100 < (nP116 : Int)), X K E 18 [(5, .int (iI z100)), (4, .int (iI z101)), (0, .ref a0), (1, .int (iI x1)), (2, .int (iI x2)), (3, .int (iI x3))] [] S g102 0 0 := by
    intro nP116
    induction nP116 with
    | zero => intro g102 hg102 z100 lz100 uz100 z101 lz101 uz101 mP116; exact False.elim (by omega)
    | succ nP116 ihP116 =>
      intro g102 hg102 z100 lz100 uz100 z101 lz101 uz101 mP116
      refine X_iload hK (i := 5) 0 kd25_1.1 rfl ?_
      refine X_sipush hK kd25_1.2.1 (by decide) ?_
      refine X_icmp_gt hK 63 (by omega) (by omega) kd25_1.2.2.1 (by decide) (fun c117 => ?_) (fun c117 => ?_)
      · refine X_iload hK (i := 4) 1 kd25_2.2.2.2.2.2.2.2.2.2.2.1 rfl ?_
        exact hret _ _ _ _ _ _ _ kd25_2.2.2.2.2.2.2.2.2.2.2.2 ⟨rfl, z101, rfl, (by omega), (by omega)⟩ (Nat.le_refl _) (Nat.le_refl _)
      · refine X_aloadn hK (i := 0) 2 kd25_1.2.2.2.1 rfl rfl ?_
        refine X_iload hK (i := 5) 0 kd25_1.2.2.2.2.1 rfl ?_
        refine X_iloadn hK (i := 1) 3 kd25_1.2.2.2.2.2.1 rfl rfl ?_
        refine X_iloadn hK (i := 2) 4 kd25_1.2.2.2.2.2.2.1 rfl rfl ?_
        refine X_iloadn hK (i := 3) 5 kd25_1.2.2.2.2.2.2.2.1 rfl rfl ?_
        refine X_callV hK [.int (iI z100), .int (iI x1), .int (iI x2), .int (iI x3)] [] lk_X2_37 (c_X2_gainOf _ _ _ _ _ S g102 a0 z100 x1 x2 x3 hs_a0 (by omega) (by omega) (by omega) (by omega)) hs_a0 ⟨by decide, rfl⟩ kd25_1.2.2.2.2.2.2.2.2.1 rfl rfl (by simp [Value.category]) (by decide) (by decide) (by decide) (by decide) (fun r118 S120 g119 pr118 qr118 hg119 => ?_)
        obtain ⟨rfl, rfl, y121, rfl⟩ := pr118
        refine X_st [.long y121] rfl ?_
        refine X_lstore hK (i := 6) [(6, .long y121), (5, .int (iI z100)), (4, .int (iI z101)), (0, .ref a0), (1, .int (iI x1)), (2, .int (iI x2)), (3, .int (iI x3))] kd25_1.2.2.2.2.2.2.2.2.2.1 (by decide) rfl ?_
        refine X_lload hK (i := 6) 0 kd25_1.2.2.2.2.2.2.2.2.2.2.1 rfl ?_
        refine X_aloadn hK (i := 0) 3 kd25_1.2.2.2.2.2.2.2.2.2.2.2 rfl rfl ?_
        refine X_getl hK fl_X2_22_3 hs_a0 sl_3_3 kd25_2.1 (fun y122 ey122 => ?_)
        refine X_lcmp hK kd25_2.2.1 (fun z123 lz123 uz123 => ?_)
        have J127 : ∀ (g128 : xG) (hg128 : xM [(3, 3)] S g102 g128) (z126 : Int) (lz126 : 0 ≤ z126) (uz126 : z126 ≤ 400), X K E 57 [(6, .long y121), (5, .int (iI z100)), (4, .int (iI z126)), (0, .ref a0), (1, .int (iI x1)), (2, .int (iI x2)), (3, .int (iI x3))] [] S g128 0 0 := by
          intro g128 hg128 z126 lz126 uz126
          refine X_iinc hK (i := 5) (z := z100) (n := 1) 1 [(5, .int (iI (z100 + 1))), (6, .long y121), (4, .int (iI z126)), (0, .ref a0), (1, .int (iI x1)), (2, .int (iI x2)), (3, .int (iI x3))] kd25_2.2.2.2.2.2.2.2.2.1 rfl (by decide) rfl ?_
          refine X_goto hK 18 kd25_2.2.2.2.2.2.2.2.2.2.1 (by decide) ?_
          refine X_lv [(5, .int (iI (z100 + 1))), (4, .int (iI z126)), (0, .ref a0), (1, .int (iI x1)), (2, .int (iI x2)), (3, .int (iI x3))] [0, 2, 3, 4, 5, 6] rfl ?_
          exact ihP116  g128 (xM.tr (xM.tr xM.rf xLe.rf hg102 (by decide)) xLe.rf hg128 (by decide)) (z100 + 1) (by omega) (by omega) z126 (by omega) (by omega) (by omega)
        refine X_if_le hK 57 (by omega) kd25_2.2.2.1 (by decide) (fun c124 => ?_) (fun c124 => ?_)
        · exact J127 g102 xM.rf z101 (by omega) (by omega)
        · refine X_aloadn hK (i := 0) 3 kd25_2.2.2.2.1 rfl rfl ?_
          refine X_lload hK (i := 6) 0 kd25_2.2.2.2.2.1 rfl ?_
          refine X_putl hK fl_X2_22_3 hs_a0 (by decide) sl_3_3 kd25_2.2.2.2.2.2.1 (fun g129 hg129 => ?_)
          refine X_iload hK (i := 5) 1 kd25_2.2.2.2.2.2.2.1 rfl ?_
          refine X_istore hK (i := 4) [(4, .int (iI z100)), (6, .long y121), (5, .int (iI z100)), (0, .ref a0), (1, .int (iI x1)), (2, .int (iI x2)), (3, .int (iI x3))] kd25_2.2.2.2.2.2.2.2.1 (by decide) rfl ?_
          refine X_lv [(6, .long y121), (5, .int (iI z100)), (4, .int (iI z100)), (0, .ref a0), (1, .int (iI x1)), (2, .int (iI x2)), (3, .int (iI x3))] [1, 2, 0, 3, 4, 5, 6] rfl ?_
          exact J127 g129 (xM_up xM.rf hg129 hs_a0 (by decide) (by decide)) z100 (by omega) (by omega)
  exact P116 ((417 - 1 : Int).toNat + 1) g5 xM.rf 1 (by omega) (by omega) 0 (by omega) (by omega) (by omega)
