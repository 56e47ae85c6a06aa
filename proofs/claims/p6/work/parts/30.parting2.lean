theorem m_7_16 : Cond.fieldLink RX6 28 "PaperBoys$Parting" "trial" "[I" ∈ wsL_law := ch_7 _ (List.mem_of_getElem? (i := 16) rfl)
theorem m_7_17 : Cond.fieldLink RX6 31 "PaperBoys$Parting" "rest" "[I" ∈ wsL_law := ch_7 _ (List.mem_of_getElem? (i := 17) rfl)
theorem m_7_21 : Cond.fieldLink RX6 42 "PaperBoys$Parting" "bestSum" "I" ∈ wsL_law := ch_7 _ (List.mem_of_getElem? (i := 21) rfl)
theorem m_51_12 : Cond.methodLink RX6 80 yX6_place ∈ wsL_law := ch_51 _ (List.mem_of_getElem? (i := 12) rfl)
theorem m_51_13 : Cond.instanceMethod yX6_place ∈ wsL_law := ch_51 _ (List.mem_of_getElem? (i := 13) rfl)
theorem m_51_14 : Cond.selects RX6 yX6_place yX6_place ∈ wsL_law := ch_51 _ (List.mem_of_getElem? (i := 14) rfl)
theorem m_51_15 : Cond.code yX6_place cX6_place 8 none ∈ wsL_law := ch_51 _ (List.mem_of_getElem? (i := 15) rfl)
theorem dX6_place_0 : decode cX6_place 0 = .ok (.iload_n 3, 1) := by decide +kernel
theorem dX6_place_1 : decode cX6_place 1 = .ok (.aload_n 0, 1) := by decide +kernel
theorem dX6_place_2 : decode cX6_place 2 = .ok (.getfield 31, 3) := by decide +kernel
theorem dX6_place_5 : decode cX6_place 5 = .ok (.iload_n 2, 1) := by decide +kernel
theorem dX6_place_6 : decode cX6_place 6 = .ok (.iaload, 1) := by decide +kernel
theorem dX6_place_7 : decode cX6_place 7 = .ok (.iadd, 1) := by decide +kernel
theorem dX6_place_8 : decode cX6_place 8 = .ok (.aload_n 0, 1) := by decide +kernel
theorem dX6_place_9 : decode cX6_place 9 = .ok (.getfield 42, 3) := by decide +kernel
theorem dX6_place_12 : decode cX6_place 12 = .ok (.if_icmp .gt 4, 3) := by decide +kernel
theorem dX6_place_15 : decode cX6_place 15 = .ok (.return_, 1) := by decide +kernel
theorem dX6_place_16 : decode cX6_place 16 = .ok (.iload_n 1, 1) := by decide +kernel
theorem dX6_place_17 : decode cX6_place 17 = .ok (.aload_n 0, 1) := by decide +kernel
theorem dX6_place_18 : decode cX6_place 18 = .ok (.getfield 9, 3) := by decide +kernel
theorem dX6_place_21 : decode cX6_place 21 = .ok (.if_icmp .ne 41, 3) := by decide +kernel
theorem dX6_place_24 : decode cX6_place 24 = .ok (.aload_n 0, 1) := by decide +kernel
theorem dX6_place_25 : decode cX6_place 25 = .ok (.iload_n 3, 1) := by decide +kernel
theorem dX6_place_26 : decode cX6_place 26 = .ok (.putfield 42, 3) := by decide +kernel
theorem dX6_place_29 : decode cX6_place 29 = .ok (.iconst 0, 1) := by decide +kernel
theorem dX6_place_30 : decode cX6_place 30 = .ok (.istore 6, 2) := by decide +kernel
theorem dX6_place_32 : decode cX6_place 32 = .ok (.iload 6, 2) := by decide +kernel
theorem dX6_place_34 : decode cX6_place 34 = .ok (.aload_n 0, 1) := by decide +kernel
theorem dX6_place_35 : decode cX6_place 35 = .ok (.getfield 9, 3) := by decide +kernel
theorem dX6_place_38 : decode cX6_place 38 = .ok (.if_icmp .ge 23, 3) := by decide +kernel
theorem dX6_place_41 : decode cX6_place 41 = .ok (.aload_n 0, 1) := by decide +kernel
theorem dX6_place_42 : decode cX6_place 42 = .ok (.getfield 22, 3) := by decide +kernel
theorem dX6_place_45 : decode cX6_place 45 = .ok (.iload 6, 2) := by decide +kernel
theorem dX6_place_47 : decode cX6_place 47 = .ok (.aload_n 0, 1) := by decide +kernel
theorem dX6_place_48 : decode cX6_place 48 = .ok (.getfield 28, 3) := by decide +kernel
theorem dX6_place_51 : decode cX6_place 51 = .ok (.iload 6, 2) := by decide +kernel
theorem dX6_place_53 : decode cX6_place 53 = .ok (.iaload, 1) := by decide +kernel
theorem dX6_place_54 : decode cX6_place 54 = .ok (.iastore, 1) := by decide +kernel
theorem dX6_place_55 : decode cX6_place 55 = .ok (.iinc 6 1, 3) := by decide +kernel
theorem dX6_place_58 : decode cX6_place 58 = .ok (.goto (-26), 3) := by decide +kernel
theorem dX6_place_61 : decode cX6_place 61 = .ok (.return_, 1) := by decide +kernel
theorem dX6_place_62 : decode cX6_place 62 = .ok (.iconst 0, 1) := by decide +kernel
theorem dX6_place_63 : decode cX6_place 63 = .ok (.istore 6, 2) := by decide +kernel
theorem dX6_place_65 : decode cX6_place 65 = .ok (.iload 6, 2) := by decide +kernel
theorem dX6_place_67 : decode cX6_place 67 = .ok (.aload_n 0, 1) := by decide +kernel
theorem dX6_place_68 : decode cX6_place 68 = .ok (.getfield 9, 3) := by decide +kernel
theorem dX6_place_71 : decode cX6_place 71 = .ok (.if_icmp .ge 70, 3) := by decide +kernel
theorem dX6_place_74 : decode cX6_place 74 = .ok (.iload_n 1, 1) := by decide +kernel
theorem dX6_place_75 : decode cX6_place 75 = .ok (.bipush 8, 2) := by decide +kernel
theorem dX6_place_77 : decode cX6_place 77 = .ok (.imul, 1) := by decide +kernel
theorem dX6_place_78 : decode cX6_place 78 = .ok (.iload 6, 2) := by decide +kernel
theorem dX6_place_80 : decode cX6_place 80 = .ok (.iadd, 1) := by decide +kernel
theorem dX6_place_81 : decode cX6_place 81 = .ok (.istore 7, 2) := by decide +kernel
theorem dX6_place_83 : decode cX6_place 83 = .ok (.lload 4, 2) := by decide +kernel
theorem dX6_place_85 : decode cX6_place 85 = .ok (.iload 7, 2) := by decide +kernel
theorem dX6_place_87 : decode cX6_place 87 = .ok (.lushr, 1) := by decide +kernel
theorem dX6_place_88 : decode cX6_place 88 = .ok (.lconst 1, 1) := by decide +kernel
theorem dX6_place_89 : decode cX6_place 89 = .ok (.land, 1) := by decide +kernel
theorem dX6_place_90 : decode cX6_place 90 = .ok (.lconst 0, 1) := by decide +kernel
theorem dX6_place_91 : decode cX6_place 91 = .ok (.lcmp, 1) := by decide +kernel
theorem dX6_place_92 : decode cX6_place 92 = .ok (.ifCond .ne 43, 3) := by decide +kernel
theorem dX6_place_95 : decode cX6_place 95 = .ok (.aload_n 0, 1) := by decide +kernel
theorem dX6_place_96 : decode cX6_place 96 = .ok (.getfield 28, 3) := by decide +kernel
theorem dX6_place_99 : decode cX6_place 99 = .ok (.iload_n 1, 1) := by decide +kernel
theorem dX6_place_100 : decode cX6_place 100 = .ok (.iload 6, 2) := by decide +kernel
theorem dX6_place_102 : decode cX6_place 102 = .ok (.iastore, 1) := by decide +kernel
theorem dX6_place_103 : decode cX6_place 103 = .ok (.aload_n 0, 1) := by decide +kernel
theorem dX6_place_104 : decode cX6_place 104 = .ok (.iload_n 1, 1) := by decide +kernel
theorem dX6_place_105 : decode cX6_place 105 = .ok (.iconst 1, 1) := by decide +kernel
theorem dX6_place_106 : decode cX6_place 106 = .ok (.iadd, 1) := by decide +kernel
theorem dX6_place_107 : decode cX6_place 107 = .ok (.iload_n 2, 1) := by decide +kernel
theorem dX6_place_108 : decode cX6_place 108 = .ok (.iconst 1, 1) := by decide +kernel
theorem dX6_place_109 : decode cX6_place 109 = .ok (.iload 6, 2) := by decide +kernel
theorem dX6_place_111 : decode cX6_place 111 = .ok (.ishl, 1) := by decide +kernel
theorem dX6_place_112 : decode cX6_place 112 = .ok (.ior, 1) := by decide +kernel
theorem dX6_place_113 : decode cX6_place 113 = .ok (.iload_n 3, 1) := by decide +kernel
theorem dX6_place_114 : decode cX6_place 114 = .ok (.aload_n 0, 1) := by decide +kernel
theorem dX6_place_115 : decode cX6_place 115 = .ok (.getfield 15, 3) := by decide +kernel
theorem dX6_place_118 : decode cX6_place 118 = .ok (.iload 7, 2) := by decide +kernel
theorem dX6_place_120 : decode cX6_place 120 = .ok (.iaload, 1) := by decide +kernel
theorem dX6_place_121 : decode cX6_place 121 = .ok (.iadd, 1) := by decide +kernel
theorem dX6_place_122 : decode cX6_place 122 = .ok (.lload 4, 2) := by decide +kernel
theorem dX6_place_124 : decode cX6_place 124 = .ok (.aload_n 0, 1) := by decide +kernel
theorem dX6_place_125 : decode cX6_place 125 = .ok (.getfield 38, 3) := by decide +kernel
theorem dX6_place_128 : decode cX6_place 128 = .ok (.iload 7, 2) := by decide +kernel
theorem dX6_place_130 : decode cX6_place 130 = .ok (.laload, 1) := by decide +kernel
theorem dX6_place_131 : decode cX6_place 131 = .ok (.lor, 1) := by decide +kernel
theorem dX6_place_132 : decode cX6_place 132 = .ok (.invokevirtual 80, 3) := by decide +kernel
theorem dX6_place_135 : decode cX6_place 135 = .ok (.iinc 6 1, 3) := by decide +kernel
theorem dX6_place_138 : decode cX6_place 138 = .ok (.goto (-73), 3) := by decide +kernel
theorem dX6_place_141 : decode cX6_place 141 = .ok (.return_, 1) := by decide +kernel
theorem fl_X6_28_7 : xF RX6 28 7 5 (.array .int) true := ⟨by decide, RX6, TX6, 10, tyX6, "PaperBoys$Parting", rfl, inlX6, tyX6_ok, nmX6, by decide, rfl, rfl, m_7_16, Or.inl rfl⟩
theorem fl_X6_31_7 : xF RX6 31 7 6 (.array .int) true := ⟨by decide, RX6, TX6, 10, tyX6, "PaperBoys$Parting", rfl, inlX6, tyX6_ok, nmX6, by decide, rfl, rfl, m_7_17, Or.inl rfl⟩
theorem fl_X6_42_7 : xF RX6 42 7 9 .int false := ⟨by decide, RX6, TX6, 10, tyX6, "PaperBoys$Parting", rfl, inlX6, tyX6_ok, nmX6, by decide, rfl, rfl, m_7_21, Or.inl rfl⟩
theorem lk_X6_80 : xLV RX6 80 yX6_place cX6_place 8 none 4 := ⟨m_51_12, m_51_13, m_51_14, m_3_2, m_51_15, by decide +kernel⟩
set_option maxHeartbeats 4000000 in
set_option maxRecDepth 100000 in
theorem c_X6_place_8 (l : Launch) (D : va_G) (kA : Nat → ClassId) (b0 : Nat) (t0 : Nat → Nat) (S : xT) (g : xG) (a0 : Nat) (x1 : Int) (x2 : Int) (x3 : Int) (y4 : Int64) (n0 : Int) (hs_a0 : S a0 = some (7, 0)) (hx1 : 8 ≤ x1 ∧ x1 ≤ 8) (hx2 : 0 ≤ x2 ∧ x2 ≤ 255) (hx3 : (-2147483648) ≤ x3 ∧ x3 ≤ 2147483647) (hn0 : 8 ≤ n0 ∧ n0 ≤ 8) (en0 : g a0 0 = .int (iI n0)) : xMt l yX6_place cX6_place 8 none 0 0 0 0 D kA b0 t0 [(7, 9), (12300, 0)] [.ref a0, .int (iI x1), .int (iI x2), .int (iI x3), .long y4] S g (fun (r : Option Value) (S1 : xT) (g1 : xG) => S = S1 ∧ r = none) := by
  refine xEnterV (by decide) (by simp [lg_sl, Value.category]) [(0, .ref a0), (1, .int (iI x1)), (2, .int (iI x2)), (3, .int (iI x3)), (4, .long y4)] rfl ?_
  intro K E hK hret _ _ _
  refine X_iloadn hK (i := 3) 3 dX6_place_0 rfl rfl ?_
  refine X_aloadn hK (i := 0) 0 dX6_place_1 rfl rfl ?_
  refine X_getr hK 12600 256 fl_X6_31_7 hs_a0 sl_7_6 dX6_place_2 (fun b1 eb1 hs_b1 => ?_)
  refine X_iloadn hK (i := 2) 2 dX6_place_5 rfl rfl ?_
  refine X_iald hK hs_b1 (by decide) sl_12600 (by omega) (by omega) dX6_place_6 (fun z2 ez2 lz2 uz2 => ?_)
  refine X_iadd hK dX6_place_7 ?_
  refine X_norm (fun z3 ez3 lz3 uz3 => ?_)
  refine X_aloadn hK (i := 0) 0 dX6_place_8 rfl rfl ?_
  refine X_geti hK fl_X6_42_7 hs_a0 sl_7_9 dX6_place_9 (fun z4 ez4 lz4 uz4 => ?_)
  refine X_icmp_gt hK 16 (by omega) (by omega) dX6_place_12 (by decide) (fun c5 => ?_) (fun c5 => ?_)
  · refine X_iloadn hK (i := 1) 1 dX6_place_16 rfl rfl ?_
    refine X_aloadn hK (i := 0) 0 dX6_place_17 rfl rfl ?_
    refine X_getK hK fl_X6_9_7 hs_a0 en0 dX6_place_18 ?_
    refine X_icmp_ne hK 62 (by omega) (by omega) dX6_place_21 (by decide) (fun c6 => False.elim (by omega)) (fun c6 => ?_)
    refine X_aloadn hK (i := 0) 0 dX6_place_24 rfl rfl ?_
    refine X_iloadn hK (i := 3) 3 dX6_place_25 rfl rfl ?_
    refine X_puti hK fl_X6_42_7 hs_a0 (by decide) sl_7_9 (by omega) (by omega) dX6_place_26 (fun g7 hg7 => ?_)
    refine X_iconst hK dX6_place_29 ?_
    refine X_istore hK (i := 6) [(6, .int (iI 0)), (0, .ref a0), (1, .int (iI x1)), (2, .int (iI x2)), (3, .int (iI x3)), (4, .long y4)] dX6_place_30 (by decide) rfl ?_
    have P49 : ∀ (nP49 : Nat) (g43 : xG) (_ : xM [(12300, 0)] S g7 g43) (z42 : Int) (_ : 0 ≤ z42) (_ : z42 ≤ 8) (_ : 24 - z42 < (nP49 : Int)), X K E 32 [(6, .int (iI z42)), (0, .ref a0), (1, .int (iI x1)), (2, .int (iI x2)), (3, .int (iI x3)), (4, .long y4)] [] S g43 0 0 := by
      intro nP49
      induction nP49 with
      | zero => intro g43 hg43 z42 lz42 uz42 mP49; exact False.elim (by omega)
      | succ nP49 ihP49 =>
        intro g43 hg43 z42 lz42 uz42 mP49
        refine X_iload hK (i := 6) 0 dX6_place_32 rfl ?_
        refine X_aloadn hK (i := 0) 1 dX6_place_34 rfl rfl ?_
        refine X_getK hK fl_X6_9_7 hs_a0 ((hg43 a0 7 0 0 hs_a0 (by decide)).trans ((xs_k hg7 (by decide)).trans en0)) dX6_place_35 ?_
        refine X_icmp_ge hK 61 (by omega) (by omega) dX6_place_38 (by decide) (fun c50 => ?_) (fun c50 => ?_)
        · exact hret _ _ _ _ _ _ dX6_place_61 ⟨rfl, rfl⟩ (Nat.le_refl _) (Nat.le_refl _)
        · refine X_aloadn hK (i := 0) 1 dX6_place_41 rfl rfl ?_
          refine X_getr hK 12300 8 fl_X6_22_7 hs_a0 sl_7_3 dX6_place_42 (fun b51 eb51 hs_b51 => ?_)
          refine X_iload hK (i := 6) 0 dX6_place_45 rfl ?_
          refine X_aloadn hK (i := 0) 1 dX6_place_47 rfl rfl ?_
          refine X_getr hK 12500 8 fl_X6_28_7 hs_a0 sl_7_5 dX6_place_48 (fun b52 eb52 hs_b52 => ?_)
          refine X_iload hK (i := 6) 0 dX6_place_51 rfl ?_
          refine X_iald hK hs_b52 (by decide) sl_12500 (by omega) (by omega) dX6_place_53 (fun z53 ez53 lz53 uz53 => ?_)
          refine X_iast hK hs_b51 (by decide) (by decide) sl_12300 (by omega) (by omega) (by omega) (by omega) dX6_place_54 (fun g54 hg54 => ?_)
          refine X_iinc hK (i := 6) (z := z42) (n := 1) 0 [(6, .int (iI (z42 + 1))), (0, .ref a0), (1, .int (iI x1)), (2, .int (iI x2)), (3, .int (iI x3)), (4, .long y4)] dX6_place_55 rfl (by decide) rfl ?_
          refine X_goto hK 32 dX6_place_58 (by decide) ?_
          exact ihP49  g54 (xM_ua (xM.tr xM.rf xLe.rf hg43 (by decide)) hg54 hs_b51 (by decide) (by decide)) (z42 + 1) (by omega) (by omega) (by omega)
    exact P49 ((24 - 0 : Int).toNat + 1) g7 xM.rf 0 (by omega) (by omega) (by omega)
  · exact hret _ _ _ _ _ _ dX6_place_15 ⟨rfl, rfl⟩ (Nat.le_refl _) (Nat.le_refl _)

set_option maxHeartbeats 4000000 in
set_option maxRecDepth 100000 in
theorem c_X6_place_7 (l : Launch) (D : va_G) (kA : Nat → ClassId) (b0 : Nat) (t0 : Nat → Nat) (S : xT) (g : xG) (a0 : Nat) (x1 : Int) (x2 : Int) (x3 : Int) (y4 : Int64) (n0 : Int) (hs_a0 : S a0 = some (7, 0)) (hx1 : 7 ≤ x1 ∧ x1 ≤ 7) (hx2 : 0 ≤ x2 ∧ x2 ≤ 255) (hx3 : (-2147483648) ≤ x3 ∧ x3 ≤ 2147483647) (hn0 : 7 ≤ n0 ∧ n0 ≤ 8) (en0 : g a0 0 = .int (iI n0)) : xMt l yX6_place cX6_place 8 none 1 0 0 27 D kA b0 t0 [(12500, 0), (7, 9), (12300, 0)] [.ref a0, .int (iI x1), .int (iI x2), .int (iI x3), .long y4] S g (fun (r : Option Value) (S1 : xT) (g1 : xG) => S = S1 ∧ r = none) := by
  refine xEnterV (by decide) (by simp [lg_sl, Value.category]) [(0, .ref a0), (1, .int (iI x1)), (2, .int (iI x2)), (3, .int (iI x3)), (4, .long y4)] rfl ?_
  intro K E hK hret _ _ _
  refine X_iloadn hK (i := 3) 3 dX6_place_0 rfl rfl ?_
  refine X_aloadn hK (i := 0) 0 dX6_place_1 rfl rfl ?_
  refine X_getr hK 12600 256 fl_X6_31_7 hs_a0 sl_7_6 dX6_place_2 (fun b1 eb1 hs_b1 => ?_)
  refine X_iloadn hK (i := 2) 2 dX6_place_5 rfl rfl ?_
  refine X_iald hK hs_b1 (by decide) sl_12600 (by omega) (by omega) dX6_place_6 (fun z2 ez2 lz2 uz2 => ?_)
  refine X_iadd hK dX6_place_7 ?_
  refine X_norm (fun z3 ez3 lz3 uz3 => ?_)
  refine X_aloadn hK (i := 0) 0 dX6_place_8 rfl rfl ?_
  refine X_geti hK fl_X6_42_7 hs_a0 sl_7_9 dX6_place_9 (fun z4 ez4 lz4 uz4 => ?_)
  refine X_icmp_gt hK 16 (by omega) (by omega) dX6_place_12 (by decide) (fun c5 => ?_) (fun c5 => ?_)
  · refine X_iloadn hK (i := 1) 1 dX6_place_16 rfl rfl ?_
    refine X_aloadn hK (i := 0) 0 dX6_place_17 rfl rfl ?_
    refine X_getK hK fl_X6_9_7 hs_a0 en0 dX6_place_18 ?_
    refine X_icmp_ne hK 62 (by omega) (by omega) dX6_place_21 (by decide) (fun c6 => ?_) (fun c6 => ?_)
    · refine X_iconst hK dX6_place_62 ?_
      refine X_istore hK (i := 6) [(6, .int (iI 0)), (0, .ref a0), (1, .int (iI x1)), (2, .int (iI x2)), (3, .int (iI x3)), (4, .long y4)] dX6_place_63 (by decide) rfl ?_
      have P228 : ∀ (nP228 : Nat) (g192 : xG) (_ : xM [(7, 9), (12300, 0), (12500, 0)] S g g192) (z191 : Int) (_ : 0 ≤ z191) (_ : z191 ≤ 8) (_ : 24 - z191 < (nP228 : Int)), X K E 65 [(6, .int (iI z191)), (0, .ref a0), (1, .int (iI x1)), (2, .int (iI x2)), (3, .int (iI x3)), (4, .long y4)] [] S g192 0 0 := by
        intro nP228
        induction nP228 with
        | zero => intro g192 hg192 z191 lz191 uz191 mP228; exact False.elim (by omega)
        | succ nP228 ihP228 =>
          intro g192 hg192 z191 lz191 uz191 mP228
          refine X_iload hK (i := 6) 0 dX6_place_65 rfl ?_
          refine X_aloadn hK (i := 0) 1 dX6_place_67 rfl rfl ?_
          refine X_getK hK fl_X6_9_7 hs_a0 ((hg192 a0 7 0 0 hs_a0 (by decide)).trans en0) dX6_place_68 ?_
          refine X_icmp_ge hK 141 (by omega) (by omega) dX6_place_71 (by decide) (fun c229 => ?_) (fun c229 => ?_)
          · exact hret _ _ _ _ _ _ dX6_place_141 ⟨rfl, rfl⟩ (Nat.le_refl _) (Nat.le_refl _)
          · refine X_iloadn hK (i := 1) 2 dX6_place_74 rfl rfl ?_
            refine X_bipush hK dX6_place_75 (by decide) ?_
            refine X_imul hK dX6_place_77 ?_
            refine X_iload hK (i := 6) 0 dX6_place_78 rfl ?_
            refine X_iadd hK dX6_place_80 ?_
            refine X_istore hK (i := 7) [(7, .int (iI ((x1 * 8) + z191))), (6, .int (iI z191)), (0, .ref a0), (1, .int (iI x1)), (2, .int (iI x2)), (3, .int (iI x3)), (4, .long y4)] dX6_place_81 (by decide) rfl ?_
            refine X_lload hK (i := 4) 6 dX6_place_83 rfl ?_
            refine X_iload hK (i := 7) 0 dX6_place_85 rfl ?_
            refine X_lushr hK dX6_place_87 (fun y230 => ?_)
            refine X_lconst hK dX6_place_88 (fun y231 => ?_)
            refine X_land hK dX6_place_89 (fun y232 => ?_)
            refine X_lconst hK dX6_place_90 (fun y233 => ?_)
            refine X_lcmp hK dX6_place_91 (fun z234 lz234 uz234 => ?_)
            have J249 : ∀ (g250 : xG) (hg250 : xM [(7, 9), (12300, 0), (12500, 0)] S g192 g250), X K E 135 [(7, .int (iI ((x1 * 8) + z191))), (6, .int (iI z191)), (0, .ref a0), (1, .int (iI x1)), (2, .int (iI x2)), (3, .int (iI x3)), (4, .long y4)] [] S g250 0 0 := by
              intro g250 hg250
              refine X_iinc hK (i := 6) (z := z191) (n := 1) 1 [(6, .int (iI (z191 + 1))), (7, .int (iI ((x1 * 8) + z191))), (0, .ref a0), (1, .int (iI x1)), (2, .int (iI x2)), (3, .int (iI x3)), (4, .long y4)] dX6_place_135 rfl (by decide) rfl ?_
              refine X_goto hK 65 dX6_place_138 (by decide) ?_
              refine X_lv [(6, .int (iI (z191 + 1))), (0, .ref a0), (1, .int (iI x1)), (2, .int (iI x2)), (3, .int (iI x3)), (4, .long y4)] [0, 2, 3, 4, 5, 6] rfl ?_
              exact ihP228  g250 (xM.tr (xM.tr xM.rf xLe.rf hg192 (by decide)) xLe.rf hg250 (by decide)) (z191 + 1) (by omega) (by omega) (by omega)
            refine X_if_ne hK 135 (by omega) dX6_place_92 (by decide) (fun c235 => ?_) (fun c235 => ?_)
            · exact J249 g192 xM.rf
            · refine X_aloadn hK (i := 0) 2 dX6_place_95 rfl rfl ?_
              refine X_getr hK 12500 8 fl_X6_28_7 hs_a0 sl_7_5 dX6_place_96 (fun b251 eb251 hs_b251 => ?_)
              refine X_iloadn hK (i := 1) 3 dX6_place_99 rfl rfl ?_
              refine X_iload hK (i := 6) 1 dX6_place_100 rfl ?_
              refine X_iast hK hs_b251 (by decide) (by decide) sl_12500 (by omega) (by omega) (by omega) (by omega) dX6_place_102 (fun g252 hg252 => ?_)
              refine X_aloadn hK (i := 0) 2 dX6_place_103 rfl rfl ?_
              refine X_iloadn hK (i := 1) 3 dX6_place_104 rfl rfl ?_
              refine X_iconst hK dX6_place_105 ?_
              refine X_iadd hK dX6_place_106 ?_
              refine X_iloadn hK (i := 2) 4 dX6_place_107 rfl rfl ?_
              refine X_iconst hK dX6_place_108 ?_
              refine X_iload hK (i := 6) 1 dX6_place_109 rfl ?_
              refine X_ishl hK dX6_place_111 (fun z253 ez253 lz253 uz253 => ?_)
              have bz253 := xshlB 7 ez253 ⟨lz253, uz253⟩ (by omega) (by decide)
              refine X_ior hK dX6_place_112 (fun z254 ez254 lz254 uz254 => ?_)
              have bz254 := xiorB 8 ez254 ⟨lz254, uz254⟩ (by omega) (by omega) (by decide)
              refine X_iloadn hK (i := 3) 5 dX6_place_113 rfl rfl ?_
              refine X_aloadn hK (i := 0) 2 dX6_place_114 rfl rfl ?_
              refine X_getr hK 12100 64 fl_X6_15_7 hs_a0 sl_7_1 dX6_place_115 (fun b255 eb255 hs_b255 => ?_)
              refine X_iload hK (i := 7) 0 dX6_place_118 rfl ?_
              refine X_iald hK hs_b255 (by decide) sl_12100 (by omega) (by omega) dX6_place_120 (fun z256 ez256 lz256 uz256 => ?_)
              refine X_iadd hK dX6_place_121 ?_
              refine X_norm (fun z257 ez257 lz257 uz257 => ?_)
              refine X_lload hK (i := 4) 6 dX6_place_122 rfl ?_
              refine X_aloadn hK (i := 0) 2 dX6_place_124 rfl rfl ?_
              refine X_getr hK 12802 64 fl_X6_38_7 hs_a0 sl_7_8 dX6_place_125 (fun b258 eb258 hs_b258 => ?_)
              refine X_iload hK (i := 7) 0 dX6_place_128 rfl ?_
              refine X_lald hK hs_b258 (by decide) sl_12802 (by omega) (by omega) dX6_place_130 (fun y259 => ?_)
              refine X_lor hK dX6_place_131 (fun y260 => ?_)
              refine X_callV hK [.int (iI (x1 + 1)), .int (iI z254), .int (iI z257), .long y260] [] lk_X6_80 (c_X6_place_8 _ _ _ _ _ S g252 a0 (x1 + 1) z254 z257 y260 n0 hs_a0 (by omega) (by omega) (by omega) (by omega) ((xs_a hg252 (xne hs_a0 hs_b251 (by decide))).trans ((hg192 a0 7 0 0 hs_a0 (by decide)).trans en0))) hs_a0 ⟨by decide, rfl⟩ dX6_place_132 rfl rfl (by simp [Value.category]) (by decide) (by decide) (by decide) (by decide) (fun r261 S263 g262 pr261 qr261 hg262 => ?_)
              obtain ⟨rfl, rfl⟩ := pr261
              refine X_st [] rfl ?_
              exact J249 g262 (xM.tr (xM_ua xM.rf hg252 hs_b251 (by decide) (by decide)) xLe.rf hg262 (by decide))
      exact P228 ((24 - 0 : Int).toNat + 1) g xM.rf 0 (by omega) (by omega) (by omega)
    · refine X_aloadn hK (i := 0) 0 dX6_place_24 rfl rfl ?_
      refine X_iloadn hK (i := 3) 3 dX6_place_25 rfl rfl ?_
      refine X_puti hK fl_X6_42_7 hs_a0 (by decide) sl_7_9 (by omega) (by omega) dX6_place_26 (fun g264 hg264 => ?_)
      refine X_iconst hK dX6_place_29 ?_
      refine X_istore hK (i := 6) [(6, .int (iI 0)), (0, .ref a0), (1, .int (iI x1)), (2, .int (iI x2)), (3, .int (iI x3)), (4, .long y4)] dX6_place_30 (by decide) rfl ?_
      have P306 : ∀ (nP306 : Nat) (g300 : xG) (_ : xM [(12300, 0)] S g264 g300) (z299 : Int) (_ : 0 ≤ z299) (_ : z299 ≤ 7) (_ : 23 - z299 < (nP306 : Int)), X K E 32 [(6, .int (iI z299)), (0, .ref a0), (1, .int (iI x1)), (2, .int (iI x2)), (3, .int (iI x3)), (4, .long y4)] [] S g300 0 0 := by
        intro nP306
        induction nP306 with
        | zero => intro g300 hg300 z299 lz299 uz299 mP306; exact False.elim (by omega)
        | succ nP306 ihP306 =>
          intro g300 hg300 z299 lz299 uz299 mP306
          refine X_iload hK (i := 6) 0 dX6_place_32 rfl ?_
          refine X_aloadn hK (i := 0) 1 dX6_place_34 rfl rfl ?_
          refine X_getK hK fl_X6_9_7 hs_a0 ((hg300 a0 7 0 0 hs_a0 (by decide)).trans ((xs_k hg264 (by decide)).trans en0)) dX6_place_35 ?_
          refine X_icmp_ge hK 61 (by omega) (by omega) dX6_place_38 (by decide) (fun c307 => ?_) (fun c307 => ?_)
          · exact hret _ _ _ _ _ _ dX6_place_61 ⟨rfl, rfl⟩ (Nat.le_refl _) (Nat.le_refl _)
          · refine X_aloadn hK (i := 0) 1 dX6_place_41 rfl rfl ?_
            refine X_getr hK 12300 8 fl_X6_22_7 hs_a0 sl_7_3 dX6_place_42 (fun b308 eb308 hs_b308 => ?_)
            refine X_iload hK (i := 6) 0 dX6_place_45 rfl ?_
            refine X_aloadn hK (i := 0) 1 dX6_place_47 rfl rfl ?_
            refine X_getr hK 12500 8 fl_X6_28_7 hs_a0 sl_7_5 dX6_place_48 (fun b309 eb309 hs_b309 => ?_)
            refine X_iload hK (i := 6) 0 dX6_place_51 rfl ?_
            refine X_iald hK hs_b309 (by decide) sl_12500 (by omega) (by omega) dX6_place_53 (fun z310 ez310 lz310 uz310 => ?_)
            refine X_iast hK hs_b308 (by decide) (by decide) sl_12300 (by omega) (by omega) (by omega) (by omega) dX6_place_54 (fun g311 hg311 => ?_)
            refine X_iinc hK (i := 6) (z := z299) (n := 1) 0 [(6, .int (iI (z299 + 1))), (0, .ref a0), (1, .int (iI x1)), (2, .int (iI x2)), (3, .int (iI x3)), (4, .long y4)] dX6_place_55 rfl (by decide) rfl ?_
            refine X_goto hK 32 dX6_place_58 (by decide) ?_
            exact ihP306  g311 (xM_ua (xM.tr xM.rf xLe.rf hg300 (by decide)) hg311 hs_b308 (by decide) (by decide)) (z299 + 1) (by omega) (by omega) (by omega)
      exact P306 ((23 - 0 : Int).toNat + 1) g264 xM.rf 0 (by omega) (by omega) (by omega)
  · exact hret _ _ _ _ _ _ dX6_place_15 ⟨rfl, rfl⟩ (Nat.le_refl _) (Nat.le_refl _)

set_option maxHeartbeats 4000000 in
set_option maxRecDepth 100000 in
theorem c_X6_place_6 (l : Launch) (D : va_G) (kA : Nat → ClassId) (b0 : Nat) (t0 : Nat → Nat) (S : xT) (g : xG) (a0 : Nat) (x1 : Int) (x2 : Int) (x3 : Int) (y4 : Int64) (n0 : Int) (hs_a0 : S a0 = some (7, 0)) (hx1 : 6 ≤ x1 ∧ x1 ≤ 6) (hx2 : 0 ≤ x2 ∧ x2 ≤ 255) (hx3 : (-2147483648) ≤ x3 ∧ x3 ≤ 2147483647) (hn0 : 6 ≤ n0 ∧ n0 ≤ 8) (en0 : g a0 0 = .int (iI n0)) : xMt l yX6_place cX6_place 8 none 2 0 0 54 D kA b0 t0 [(12500, 0), (7, 9), (12300, 0)] [.ref a0, .int (iI x1), .int (iI x2), .int (iI x3), .long y4] S g (fun (r : Option Value) (S1 : xT) (g1 : xG) => S = S1 ∧ r = none) := by
  refine xEnterV (by decide) (by simp [lg_sl, Value.category]) [(0, .ref a0), (1, .int (iI x1)), (2, .int (iI x2)), (3, .int (iI x3)), (4, .long y4)] rfl ?_
  intro K E hK hret _ _ _
  refine X_iloadn hK (i := 3) 3 dX6_place_0 rfl rfl ?_
  refine X_aloadn hK (i := 0) 0 dX6_place_1 rfl rfl ?_
  refine X_getr hK 12600 256 fl_X6_31_7 hs_a0 sl_7_6 dX6_place_2 (fun b1 eb1 hs_b1 => ?_)
  refine X_iloadn hK (i := 2) 2 dX6_place_5 rfl rfl ?_
  refine X_iald hK hs_b1 (by decide) sl_12600 (by omega) (by omega) dX6_place_6 (fun z2 ez2 lz2 uz2 => ?_)
  refine X_iadd hK dX6_place_7 ?_
  refine X_norm (fun z3 ez3 lz3 uz3 => ?_)
  refine X_aloadn hK (i := 0) 0 dX6_place_8 rfl rfl ?_
  refine X_geti hK fl_X6_42_7 hs_a0 sl_7_9 dX6_place_9 (fun z4 ez4 lz4 uz4 => ?_)
  refine X_icmp_gt hK 16 (by omega) (by omega) dX6_place_12 (by decide) (fun c5 => ?_) (fun c5 => ?_)
  · refine X_iloadn hK (i := 1) 1 dX6_place_16 rfl rfl ?_
    refine X_aloadn hK (i := 0) 0 dX6_place_17 rfl rfl ?_
    refine X_getK hK fl_X6_9_7 hs_a0 en0 dX6_place_18 ?_
    refine X_icmp_ne hK 62 (by omega) (by omega) dX6_place_21 (by decide) (fun c6 => ?_) (fun c6 => ?_)
    · refine X_iconst hK dX6_place_62 ?_
      refine X_istore hK (i := 6) [(6, .int (iI 0)), (0, .ref a0), (1, .int (iI x1)), (2, .int (iI x2)), (3, .int (iI x3)), (4, .long y4)] dX6_place_63 (by decide) rfl ?_
      have P228 : ∀ (nP228 : Nat) (g192 : xG) (_ : xM [(12500, 0), (7, 9), (12300, 0)] S g g192) (z191 : Int) (_ : 0 ≤ z191) (_ : z191 ≤ 8) (_ : 24 - z191 < (nP228 : Int)), X K E 65 [(6, .int (iI z191)), (0, .ref a0), (1, .int (iI x1)), (2, .int (iI x2)), (3, .int (iI x3)), (4, .long y4)] [] S g192 0 0 := by
        intro nP228
        induction nP228 with
        | zero => intro g192 hg192 z191 lz191 uz191 mP228; exact False.elim (by omega)
        | succ nP228 ihP228 =>
          intro g192 hg192 z191 lz191 uz191 mP228
          refine X_iload hK (i := 6) 0 dX6_place_65 rfl ?_
          refine X_aloadn hK (i := 0) 1 dX6_place_67 rfl rfl ?_
          refine X_getK hK fl_X6_9_7 hs_a0 ((hg192 a0 7 0 0 hs_a0 (by decide)).trans en0) dX6_place_68 ?_
          refine X_icmp_ge hK 141 (by omega) (by omega) dX6_place_71 (by decide) (fun c229 => ?_) (fun c229 => ?_)
          · exact hret _ _ _ _ _ _ dX6_place_141 ⟨rfl, rfl⟩ (Nat.le_refl _) (Nat.le_refl _)
          · refine X_iloadn hK (i := 1) 2 dX6_place_74 rfl rfl ?_
            refine X_bipush hK dX6_place_75 (by decide) ?_
            refine X_imul hK dX6_place_77 ?_
            refine X_iload hK (i := 6) 0 dX6_place_78 rfl ?_
            refine X_iadd hK dX6_place_80 ?_
            refine X_istore hK (i := 7) [(7, .int (iI ((x1 * 8) + z191))), (6, .int (iI z191)), (0, .ref a0), (1, .int (iI x1)), (2, .int (iI x2)), (3, .int (iI x3)), (4, .long y4)] dX6_place_81 (by decide) rfl ?_
            refine X_lload hK (i := 4) 6 dX6_place_83 rfl ?_
            refine X_iload hK (i := 7) 0 dX6_place_85 rfl ?_
            refine X_lushr hK dX6_place_87 (fun y230 => ?_)
            refine X_lconst hK dX6_place_88 (fun y231 => ?_)
            refine X_land hK dX6_place_89 (fun y232 => ?_)
            refine X_lconst hK dX6_place_90 (fun y233 => ?_)
            refine X_lcmp hK dX6_place_91 (fun z234 lz234 uz234 => ?_)
            have J249 : ∀ (g250 : xG) (hg250 : xM [(12500, 0), (7, 9), (12300, 0)] S g192 g250), X K E 135 [(7, .int (iI ((x1 * 8) + z191))), (6, .int (iI z191)), (0, .ref a0), (1, .int (iI x1)), (2, .int (iI x2)), (3, .int (iI x3)), (4, .long y4)] [] S g250 0 0 := by
              intro g250 hg250
              refine X_iinc hK (i := 6) (z := z191) (n := 1) 1 [(6, .int (iI (z191 + 1))), (7, .int (iI ((x1 * 8) + z191))), (0, .ref a0), (1, .int (iI x1)), (2, .int (iI x2)), (3, .int (iI x3)), (4, .long y4)] dX6_place_135 rfl (by decide) rfl ?_
              refine X_goto hK 65 dX6_place_138 (by decide) ?_
              refine X_lv [(6, .int (iI (z191 + 1))), (0, .ref a0), (1, .int (iI x1)), (2, .int (iI x2)), (3, .int (iI x3)), (4, .long y4)] [0, 2, 3, 4, 5, 6] rfl ?_
              exact ihP228  g250 (xM.tr (xM.tr xM.rf xLe.rf hg192 (by decide)) xLe.rf hg250 (by decide)) (z191 + 1) (by omega) (by omega) (by omega)
            refine X_if_ne hK 135 (by omega) dX6_place_92 (by decide) (fun c235 => ?_) (fun c235 => ?_)
            · exact J249 g192 xM.rf
            · refine X_aloadn hK (i := 0) 2 dX6_place_95 rfl rfl ?_
              refine X_getr hK 12500 8 fl_X6_28_7 hs_a0 sl_7_5 dX6_place_96 (fun b251 eb251 hs_b251 => ?_)
              refine X_iloadn hK (i := 1) 3 dX6_place_99 rfl rfl ?_
              refine X_iload hK (i := 6) 1 dX6_place_100 rfl ?_
              refine X_iast hK hs_b251 (by decide) (by decide) sl_12500 (by omega) (by omega) (by omega) (by omega) dX6_place_102 (fun g252 hg252 => ?_)
              refine X_aloadn hK (i := 0) 2 dX6_place_103 rfl rfl ?_
              refine X_iloadn hK (i := 1) 3 dX6_place_104 rfl rfl ?_
              refine X_iconst hK dX6_place_105 ?_
              refine X_iadd hK dX6_place_106 ?_
              refine X_iloadn hK (i := 2) 4 dX6_place_107 rfl rfl ?_
              refine X_iconst hK dX6_place_108 ?_
              refine X_iload hK (i := 6) 1 dX6_place_109 rfl ?_
              refine X_ishl hK dX6_place_111 (fun z253 ez253 lz253 uz253 => ?_)
              have bz253 := xshlB 7 ez253 ⟨lz253, uz253⟩ (by omega) (by decide)
              refine X_ior hK dX6_place_112 (fun z254 ez254 lz254 uz254 => ?_)
              have bz254 := xiorB 8 ez254 ⟨lz254, uz254⟩ (by omega) (by omega) (by decide)
              refine X_iloadn hK (i := 3) 5 dX6_place_113 rfl rfl ?_
              refine X_aloadn hK (i := 0) 2 dX6_place_114 rfl rfl ?_
              refine X_getr hK 12100 64 fl_X6_15_7 hs_a0 sl_7_1 dX6_place_115 (fun b255 eb255 hs_b255 => ?_)
              refine X_iload hK (i := 7) 0 dX6_place_118 rfl ?_
              refine X_iald hK hs_b255 (by decide) sl_12100 (by omega) (by omega) dX6_place_120 (fun z256 ez256 lz256 uz256 => ?_)
              refine X_iadd hK dX6_place_121 ?_
              refine X_norm (fun z257 ez257 lz257 uz257 => ?_)
              refine X_lload hK (i := 4) 6 dX6_place_122 rfl ?_
              refine X_aloadn hK (i := 0) 2 dX6_place_124 rfl rfl ?_
              refine X_getr hK 12802 64 fl_X6_38_7 hs_a0 sl_7_8 dX6_place_125 (fun b258 eb258 hs_b258 => ?_)
              refine X_iload hK (i := 7) 0 dX6_place_128 rfl ?_
              refine X_lald hK hs_b258 (by decide) sl_12802 (by omega) (by omega) dX6_place_130 (fun y259 => ?_)
              refine X_lor hK dX6_place_131 (fun y260 => ?_)
              refine X_callV hK [.int (iI (x1 + 1)), .int (iI z254), .int (iI z257), .long y260] [] lk_X6_80 (c_X6_place_7 _ _ _ _ _ S g252 a0 (x1 + 1) z254 z257 y260 n0 hs_a0 (by omega) (by omega) (by omega) (by omega) ((xs_a hg252 (xne hs_a0 hs_b251 (by decide))).trans ((hg192 a0 7 0 0 hs_a0 (by decide)).trans en0))) hs_a0 ⟨by decide, rfl⟩ dX6_place_132 rfl rfl (by simp [Value.category]) (by decide) (by decide) (by decide) (by decide) (fun r261 S263 g262 pr261 qr261 hg262 => ?_)
              obtain ⟨rfl, rfl⟩ := pr261
              refine X_st [] rfl ?_
              exact J249 g262 (xM.tr (xM_ua xM.rf hg252 hs_b251 (by decide) (by decide)) xLe.rf hg262 (by decide))
      exact P228 ((24 - 0 : Int).toNat + 1) g xM.rf 0 (by omega) (by omega) (by omega)
    · refine X_aloadn hK (i := 0) 0 dX6_place_24 rfl rfl ?_
      refine X_iloadn hK (i := 3) 3 dX6_place_25 rfl rfl ?_
      refine X_puti hK fl_X6_42_7 hs_a0 (by decide) sl_7_9 (by omega) (by omega) dX6_place_26 (fun g264 hg264 => ?_)
      refine X_iconst hK dX6_place_29 ?_
      refine X_istore hK (i := 6) [(6, .int (iI 0)), (0, .ref a0), (1, .int (iI x1)), (2, .int (iI x2)), (3, .int (iI x3)), (4, .long y4)] dX6_place_30 (by decide) rfl ?_
      have P306 : ∀ (nP306 : Nat) (g300 : xG) (_ : xM [(12300, 0)] S g264 g300) (z299 : Int) (_ : 0 ≤ z299) (_ : z299 ≤ 6) (_ : 22 - z299 < (nP306 : Int)), X K E 32 [(6, .int (iI z299)), (0, .ref a0), (1, .int (iI x1)), (2, .int (iI x2)), (3, .int (iI x3)), (4, .long y4)] [] S g300 0 0 := by
        intro nP306
        induction nP306 with
        | zero => intro g300 hg300 z299 lz299 uz299 mP306; exact False.elim (by omega)
        | succ nP306 ihP306 =>
          intro g300 hg300 z299 lz299 uz299 mP306
          refine X_iload hK (i := 6) 0 dX6_place_32 rfl ?_
          refine X_aloadn hK (i := 0) 1 dX6_place_34 rfl rfl ?_
          refine X_getK hK fl_X6_9_7 hs_a0 ((hg300 a0 7 0 0 hs_a0 (by decide)).trans ((xs_k hg264 (by decide)).trans en0)) dX6_place_35 ?_
          refine X_icmp_ge hK 61 (by omega) (by omega) dX6_place_38 (by decide) (fun c307 => ?_) (fun c307 => ?_)
          · exact hret _ _ _ _ _ _ dX6_place_61 ⟨rfl, rfl⟩ (Nat.le_refl _) (Nat.le_refl _)
          · refine X_aloadn hK (i := 0) 1 dX6_place_41 rfl rfl ?_
            refine X_getr hK 12300 8 fl_X6_22_7 hs_a0 sl_7_3 dX6_place_42 (fun b308 eb308 hs_b308 => ?_)
            refine X_iload hK (i := 6) 0 dX6_place_45 rfl ?_
            refine X_aloadn hK (i := 0) 1 dX6_place_47 rfl rfl ?_
            refine X_getr hK 12500 8 fl_X6_28_7 hs_a0 sl_7_5 dX6_place_48 (fun b309 eb309 hs_b309 => ?_)
            refine X_iload hK (i := 6) 0 dX6_place_51 rfl ?_
            refine X_iald hK hs_b309 (by decide) sl_12500 (by omega) (by omega) dX6_place_53 (fun z310 ez310 lz310 uz310 => ?_)
            refine X_iast hK hs_b308 (by decide) (by decide) sl_12300 (by omega) (by omega) (by omega) (by omega) dX6_place_54 (fun g311 hg311 => ?_)
            refine X_iinc hK (i := 6) (z := z299) (n := 1) 0 [(6, .int (iI (z299 + 1))), (0, .ref a0), (1, .int (iI x1)), (2, .int (iI x2)), (3, .int (iI x3)), (4, .long y4)] dX6_place_55 rfl (by decide) rfl ?_
            refine X_goto hK 32 dX6_place_58 (by decide) ?_
            exact ihP306  g311 (xM_ua (xM.tr xM.rf xLe.rf hg300 (by decide)) hg311 hs_b308 (by decide) (by decide)) (z299 + 1) (by omega) (by omega) (by omega)
      exact P306 ((22 - 0 : Int).toNat + 1) g264 xM.rf 0 (by omega) (by omega) (by omega)
  · exact hret _ _ _ _ _ _ dX6_place_15 ⟨rfl, rfl⟩ (Nat.le_refl _) (Nat.le_refl _)

set_option maxHeartbeats 4000000 in
set_option maxRecDepth 100000 in
theorem c_X6_place_5 (l : Launch) (D : va_G) (kA : Nat → ClassId) (b0 : Nat) (t0 : Nat → Nat) (S : xT) (g : xG) (a0 : Nat) (x1 : Int) (x2 : Int) (x3 : Int) (y4 : Int64) (n0 : Int) (hs_a0 : S a0 = some (7, 0)) (hx1 : 5 ≤ x1 ∧ x1 ≤ 5) (hx2 : 0 ≤ x2 ∧ x2 ≤ 255) (hx3 : (-2147483648) ≤ x3 ∧ x3 ≤ 2147483647) (hn0 : 5 ≤ n0 ∧ n0 ≤ 8) (en0 : g a0 0 = .int (iI n0)) : xMt l yX6_place cX6_place 8 none 3 0 0 81 D kA b0 t0 [(12500, 0), (7, 9), (12300, 0)] [.ref a0, .int (iI x1), .int (iI x2), .int (iI x3), .long y4] S g (fun (r : Option Value) (S1 : xT) (g1 : xG) => S = S1 ∧ r = none) := by
  refine xEnterV (by decide) (by simp [lg_sl, Value.category]) [(0, .ref a0), (1, .int (iI x1)), (2, .int (iI x2)), (3, .int (iI x3)), (4, .long y4)] rfl ?_
  intro K E hK hret _ _ _
  refine X_iloadn hK (i := 3) 3 dX6_place_0 rfl rfl ?_
  refine X_aloadn hK (i := 0) 0 dX6_place_1 rfl rfl ?_
  refine X_getr hK 12600 256 fl_X6_31_7 hs_a0 sl_7_6 dX6_place_2 (fun b1 eb1 hs_b1 => ?_)
  refine X_iloadn hK (i := 2) 2 dX6_place_5 rfl rfl ?_
  refine X_iald hK hs_b1 (by decide) sl_12600 (by omega) (by omega) dX6_place_6 (fun z2 ez2 lz2 uz2 => ?_)
  refine X_iadd hK dX6_place_7 ?_
  refine X_norm (fun z3 ez3 lz3 uz3 => ?_)
  refine X_aloadn hK (i := 0) 0 dX6_place_8 rfl rfl ?_
  refine X_geti hK fl_X6_42_7 hs_a0 sl_7_9 dX6_place_9 (fun z4 ez4 lz4 uz4 => ?_)
  refine X_icmp_gt hK 16 (by omega) (by omega) dX6_place_12 (by decide) (fun c5 => ?_) (fun c5 => ?_)
  · refine X_iloadn hK (i := 1) 1 dX6_place_16 rfl rfl ?_
    refine X_aloadn hK (i := 0) 0 dX6_place_17 rfl rfl ?_
    refine X_getK hK fl_X6_9_7 hs_a0 en0 dX6_place_18 ?_
    refine X_icmp_ne hK 62 (by omega) (by omega) dX6_place_21 (by decide) (fun c6 => ?_) (fun c6 => ?_)
    · refine X_iconst hK dX6_place_62 ?_
      refine X_istore hK (i := 6) [(6, .int (iI 0)), (0, .ref a0), (1, .int (iI x1)), (2, .int (iI x2)), (3, .int (iI x3)), (4, .long y4)] dX6_place_63 (by decide) rfl ?_
      have P228 : ∀ (nP228 : Nat) (g192 : xG) (_ : xM [(12500, 0), (7, 9), (12300, 0)] S g g192) (z191 : Int) (_ : 0 ≤ z191) (_ : z191 ≤ 8) (_ : 24 - z191 < (nP228 : Int)), X K E 65 [(6, .int (iI z191)), (0, .ref a0), (1, .int (iI x1)), (2, .int (iI x2)), (3, .int (iI x3)), (4, .long y4)] [] S g192 0 0 := by
        intro nP228
        induction nP228 with
        | zero => intro g192 hg192 z191 lz191 uz191 mP228; exact False.elim (by omega)
        | succ nP228 ihP228 =>
          intro g192 hg192 z191 lz191 uz191 mP228
          refine X_iload hK (i := 6) 0 dX6_place_65 rfl ?_
          refine X_aloadn hK (i := 0) 1 dX6_place_67 rfl rfl ?_
          refine X_getK hK fl_X6_9_7 hs_a0 ((hg192 a0 7 0 0 hs_a0 (by decide)).trans en0) dX6_place_68 ?_
          refine X_icmp_ge hK 141 (by omega) (by omega) dX6_place_71 (by decide) (fun c229 => ?_) (fun c229 => ?_)
          · exact hret _ _ _ _ _ _ dX6_place_141 ⟨rfl, rfl⟩ (Nat.le_refl _) (Nat.le_refl _)
          · refine X_iloadn hK (i := 1) 2 dX6_place_74 rfl rfl ?_
            refine X_bipush hK dX6_place_75 (by decide) ?_
            refine X_imul hK dX6_place_77 ?_
            refine X_iload hK (i := 6) 0 dX6_place_78 rfl ?_
            refine X_iadd hK dX6_place_80 ?_
            refine X_istore hK (i := 7) [(7, .int (iI ((x1 * 8) + z191))), (6, .int (iI z191)), (0, .ref a0), (1, .int (iI x1)), (2, .int (iI x2)), (3, .int (iI x3)), (4, .long y4)] dX6_place_81 (by decide) rfl ?_
            refine X_lload hK (i := 4) 6 dX6_place_83 rfl ?_
            refine X_iload hK (i := 7) 0 dX6_place_85 rfl ?_
            refine X_lushr hK dX6_place_87 (fun y230 => ?_)
            refine X_lconst hK dX6_place_88 (fun y231 => ?_)
            refine X_land hK dX6_place_89 (fun y232 => ?_)
            refine X_lconst hK dX6_place_90 (fun y233 => ?_)
            refine X_lcmp hK dX6_place_91 (fun z234 lz234 uz234 => ?_)
            have J249 : ∀ (g250 : xG) (hg250 : xM [(12500, 0), (7, 9), (12300, 0)] S g192 g250), X K E 135 [(7, .int (iI ((x1 * 8) + z191))), (6, .int (iI z191)), (0, .ref a0), (1, .int (iI x1)), (2, .int (iI x2)), (3, .int (iI x3)), (4, .long y4)] [] S g250 0 0 := by
              intro g250 hg250
              refine X_iinc hK (i := 6) (z := z191) (n := 1) 1 [(6, .int (iI (z191 + 1))), (7, .int (iI ((x1 * 8) + z191))), (0, .ref a0), (1, .int (iI x1)), (2, .int (iI x2)), (3, .int (iI x3)), (4, .long y4)] dX6_place_135 rfl (by decide) rfl ?_
              refine X_goto hK 65 dX6_place_138 (by decide) ?_
              refine X_lv [(6, .int (iI (z191 + 1))), (0, .ref a0), (1, .int (iI x1)), (2, .int (iI x2)), (3, .int (iI x3)), (4, .long y4)] [0, 2, 3, 4, 5, 6] rfl ?_
              exact ihP228  g250 (xM.tr (xM.tr xM.rf xLe.rf hg192 (by decide)) xLe.rf hg250 (by decide)) (z191 + 1) (by omega) (by omega) (by omega)
            refine X_if_ne hK 135 (by omega) dX6_place_92 (by decide) (fun c235 => ?_) (fun c235 => ?_)
            · exact J249 g192 xM.rf
            · refine X_aloadn hK (i := 0) 2 dX6_place_95 rfl rfl ?_
              refine X_getr hK 12500 8 fl_X6_28_7 hs_a0 sl_7_5 dX6_place_96 (fun b251 eb251 hs_b251 => ?_)
              refine X_iloadn hK (i := 1) 3 dX6_place_99 rfl rfl ?_
              refine X_iload hK (i := 6) 1 dX6_place_100 rfl ?_
              refine X_iast hK hs_b251 (by decide) (by decide) sl_12500 (by omega) (by omega) (by omega) (by omega) dX6_place_102 (fun g252 hg252 => ?_)
              refine X_aloadn hK (i := 0) 2 dX6_place_103 rfl rfl ?_
              refine X_iloadn hK (i := 1) 3 dX6_place_104 rfl rfl ?_
              refine X_iconst hK dX6_place_105 ?_
              refine X_iadd hK dX6_place_106 ?_
              refine X_iloadn hK (i := 2) 4 dX6_place_107 rfl rfl ?_
              refine X_iconst hK dX6_place_108 ?_
              refine X_iload hK (i := 6) 1 dX6_place_109 rfl ?_
              refine X_ishl hK dX6_place_111 (fun z253 ez253 lz253 uz253 => ?_)
              have bz253 := xshlB 7 ez253 ⟨lz253, uz253⟩ (by omega) (by decide)
              refine X_ior hK dX6_place_112 (fun z254 ez254 lz254 uz254 => ?_)
              have bz254 := xiorB 8 ez254 ⟨lz254, uz254⟩ (by omega) (by omega) (by decide)
              refine X_iloadn hK (i := 3) 5 dX6_place_113 rfl rfl ?_
              refine X_aloadn hK (i := 0) 2 dX6_place_114 rfl rfl ?_
              refine X_getr hK 12100 64 fl_X6_15_7 hs_a0 sl_7_1 dX6_place_115 (fun b255 eb255 hs_b255 => ?_)
              refine X_iload hK (i := 7) 0 dX6_place_118 rfl ?_
              refine X_iald hK hs_b255 (by decide) sl_12100 (by omega) (by omega) dX6_place_120 (fun z256 ez256 lz256 uz256 => ?_)
              refine X_iadd hK dX6_place_121 ?_
              refine X_norm (fun z257 ez257 lz257 uz257 => ?_)
              refine X_lload hK (i := 4) 6 dX6_place_122 rfl ?_
              refine X_aloadn hK (i := 0) 2 dX6_place_124 rfl rfl ?_
              refine X_getr hK 12802 64 fl_X6_38_7 hs_a0 sl_7_8 dX6_place_125 (fun b258 eb258 hs_b258 => ?_)
              refine X_iload hK (i := 7) 0 dX6_place_128 rfl ?_
              refine X_lald hK hs_b258 (by decide) sl_12802 (by omega) (by omega) dX6_place_130 (fun y259 => ?_)
              refine X_lor hK dX6_place_131 (fun y260 => ?_)
              refine X_callV hK [.int (iI (x1 + 1)), .int (iI z254), .int (iI z257), .long y260] [] lk_X6_80 (c_X6_place_6 _ _ _ _ _ S g252 a0 (x1 + 1) z254 z257 y260 n0 hs_a0 (by omega) (by omega) (by omega) (by omega) ((xs_a hg252 (xne hs_a0 hs_b251 (by decide))).trans ((hg192 a0 7 0 0 hs_a0 (by decide)).trans en0))) hs_a0 ⟨by decide, rfl⟩ dX6_place_132 rfl rfl (by simp [Value.category]) (by decide) (by decide) (by decide) (by decide) (fun r261 S263 g262 pr261 qr261 hg262 => ?_)
              obtain ⟨rfl, rfl⟩ := pr261
              refine X_st [] rfl ?_
              exact J249 g262 (xM.tr (xM_ua xM.rf hg252 hs_b251 (by decide) (by decide)) xLe.rf hg262 (by decide))
      exact P228 ((24 - 0 : Int).toNat + 1) g xM.rf 0 (by omega) (by omega) (by omega)
    · refine X_aloadn hK (i := 0) 0 dX6_place_24 rfl rfl ?_
      refine X_iloadn hK (i := 3) 3 dX6_place_25 rfl rfl ?_
      refine X_puti hK fl_X6_42_7 hs_a0 (by decide) sl_7_9 (by omega) (by omega) dX6_place_26 (fun g264 hg264 => ?_)
      refine X_iconst hK dX6_place_29 ?_
      refine X_istore hK (i := 6) [(6, .int (iI 0)), (0, .ref a0), (1, .int (iI x1)), (2, .int (iI x2)), (3, .int (iI x3)), (4, .long y4)] dX6_place_30 (by decide) rfl ?_
      have P306 : ∀ (nP306 : Nat) (g300 : xG) (_ : xM [(12300, 0)] S g264 g300) (z299 : Int) (_ : 0 ≤ z299) (_ : z299 ≤ 5) (_ : 21 - z299 < (nP306 : Int)), X K E 32 [(6, .int (iI z299)), (0, .ref a0), (1, .int (iI x1)), (2, .int (iI x2)), (3, .int (iI x3)), (4, .long y4)] [] S g300 0 0 := by
        intro nP306
        induction nP306 with
        | zero => intro g300 hg300 z299 lz299 uz299 mP306; exact False.elim (by omega)
        | succ nP306 ihP306 =>
          intro g300 hg300 z299 lz299 uz299 mP306
          refine X_iload hK (i := 6) 0 dX6_place_32 rfl ?_
          refine X_aloadn hK (i := 0) 1 dX6_place_34 rfl rfl ?_
          refine X_getK hK fl_X6_9_7 hs_a0 ((hg300 a0 7 0 0 hs_a0 (by decide)).trans ((xs_k hg264 (by decide)).trans en0)) dX6_place_35 ?_
          refine X_icmp_ge hK 61 (by omega) (by omega) dX6_place_38 (by decide) (fun c307 => ?_) (fun c307 => ?_)
          · exact hret _ _ _ _ _ _ dX6_place_61 ⟨rfl, rfl⟩ (Nat.le_refl _) (Nat.le_refl _)
          · refine X_aloadn hK (i := 0) 1 dX6_place_41 rfl rfl ?_
            refine X_getr hK 12300 8 fl_X6_22_7 hs_a0 sl_7_3 dX6_place_42 (fun b308 eb308 hs_b308 => ?_)
            refine X_iload hK (i := 6) 0 dX6_place_45 rfl ?_
            refine X_aloadn hK (i := 0) 1 dX6_place_47 rfl rfl ?_
            refine X_getr hK 12500 8 fl_X6_28_7 hs_a0 sl_7_5 dX6_place_48 (fun b309 eb309 hs_b309 => ?_)
            refine X_iload hK (i := 6) 0 dX6_place_51 rfl ?_
            refine X_iald hK hs_b309 (by decide) sl_12500 (by omega) (by omega) dX6_place_53 (fun z310 ez310 lz310 uz310 => ?_)
            refine X_iast hK hs_b308 (by decide) (by decide) sl_12300 (by omega) (by omega) (by omega) (by omega) dX6_place_54 (fun g311 hg311 => ?_)
            refine X_iinc hK (i := 6) (z := z299) (n := 1) 0 [(6, .int (iI (z299 + 1))), (0, .ref a0), (1, .int (iI x1)), (2, .int (iI x2)), (3, .int (iI x3)), (4, .long y4)] dX6_place_55 rfl (by decide) rfl ?_
            refine X_goto hK 32 dX6_place_58 (by decide) ?_
            exact ihP306  g311 (xM_ua (xM.tr xM.rf xLe.rf hg300 (by decide)) hg311 hs_b308 (by decide) (by decide)) (z299 + 1) (by omega) (by omega) (by omega)
      exact P306 ((21 - 0 : Int).toNat + 1) g264 xM.rf 0 (by omega) (by omega) (by omega)
  · exact hret _ _ _ _ _ _ dX6_place_15 ⟨rfl, rfl⟩ (Nat.le_refl _) (Nat.le_refl _)

set_option maxHeartbeats 4000000 in
set_option maxRecDepth 100000 in
theorem c_X6_place_4 (l : Launch) (D : va_G) (kA : Nat → ClassId) (b0 : Nat) (t0 : Nat → Nat) (S : xT) (g : xG) (a0 : Nat) (x1 : Int) (x2 : Int) (x3 : Int) (y4 : Int64) (n0 : Int) (hs_a0 : S a0 = some (7, 0)) (hx1 : 4 ≤ x1 ∧ x1 ≤ 4) (hx2 : 0 ≤ x2 ∧ x2 ≤ 255) (hx3 : (-2147483648) ≤ x3 ∧ x3 ≤ 2147483647) (hn0 : 4 ≤ n0 ∧ n0 ≤ 8) (en0 : g a0 0 = .int (iI n0)) : xMt l yX6_place cX6_place 8 none 4 0 0 108 D kA b0 t0 [(12500, 0), (7, 9), (12300, 0)] [.ref a0, .int (iI x1), .int (iI x2), .int (iI x3), .long y4] S g (fun (r : Option Value) (S1 : xT) (g1 : xG) => S = S1 ∧ r = none) := by
  refine xEnterV (by decide) (by simp [lg_sl, Value.category]) [(0, .ref a0), (1, .int (iI x1)), (2, .int (iI x2)), (3, .int (iI x3)), (4, .long y4)] rfl ?_
  intro K E hK hret _ _ _
  refine X_iloadn hK (i := 3) 3 dX6_place_0 rfl rfl ?_
  refine X_aloadn hK (i := 0) 0 dX6_place_1 rfl rfl ?_
  refine X_getr hK 12600 256 fl_X6_31_7 hs_a0 sl_7_6 dX6_place_2 (fun b1 eb1 hs_b1 => ?_)
  refine X_iloadn hK (i := 2) 2 dX6_place_5 rfl rfl ?_
  refine X_iald hK hs_b1 (by decide) sl_12600 (by omega) (by omega) dX6_place_6 (fun z2 ez2 lz2 uz2 => ?_)
  refine X_iadd hK dX6_place_7 ?_
  refine X_norm (fun z3 ez3 lz3 uz3 => ?_)
  refine X_aloadn hK (i := 0) 0 dX6_place_8 rfl rfl ?_
  refine X_geti hK fl_X6_42_7 hs_a0 sl_7_9 dX6_place_9 (fun z4 ez4 lz4 uz4 => ?_)
  refine X_icmp_gt hK 16 (by omega) (by omega) dX6_place_12 (by decide) (fun c5 => ?_) (fun c5 => ?_)
  · refine X_iloadn hK (i := 1) 1 dX6_place_16 rfl rfl ?_
    refine X_aloadn hK (i := 0) 0 dX6_place_17 rfl rfl ?_
    refine X_getK hK fl_X6_9_7 hs_a0 en0 dX6_place_18 ?_
    refine X_icmp_ne hK 62 (by omega) (by omega) dX6_place_21 (by decide) (fun c6 => ?_) (fun c6 => ?_)
    · refine X_iconst hK dX6_place_62 ?_
      refine X_istore hK (i := 6) [(6, .int (iI 0)), (0, .ref a0), (1, .int (iI x1)), (2, .int (iI x2)), (3, .int (iI x3)), (4, .long y4)] dX6_place_63 (by decide) rfl ?_
      have P228 : ∀ (nP228 : Nat) (g192 : xG) (_ : xM [(12500, 0), (7, 9), (12300, 0)] S g g192) (z191 : Int) (_ : 0 ≤ z191) (_ : z191 ≤ 8) (_ : 24 - z191 < (nP228 : Int)), X K E 65 [(6, .int (iI z191)), (0, .ref a0), (1, .int (iI x1)), (2, .int (iI x2)), (3, .int (iI x3)), (4, .long y4)] [] S g192 0 0 := by
        intro nP228
        induction nP228 with
        | zero => intro g192 hg192 z191 lz191 uz191 mP228; exact False.elim (by omega)
        | succ nP228 ihP228 =>
          intro g192 hg192 z191 lz191 uz191 mP228
          refine X_iload hK (i := 6) 0 dX6_place_65 rfl ?_
          refine X_aloadn hK (i := 0) 1 dX6_place_67 rfl rfl ?_
          refine X_getK hK fl_X6_9_7 hs_a0 ((hg192 a0 7 0 0 hs_a0 (by decide)).trans en0) dX6_place_68 ?_
          refine X_icmp_ge hK 141 (by omega) (by omega) dX6_place_71 (by decide) (fun c229 => ?_) (fun c229 => ?_)
          · exact hret _ _ _ _ _ _ dX6_place_141 ⟨rfl, rfl⟩ (Nat.le_refl _) (Nat.le_refl _)
          · refine X_iloadn hK (i := 1) 2 dX6_place_74 rfl rfl ?_
            refine X_bipush hK dX6_place_75 (by decide) ?_
            refine X_imul hK dX6_place_77 ?_
            refine X_iload hK (i := 6) 0 dX6_place_78 rfl ?_
            refine X_iadd hK dX6_place_80 ?_
            refine X_istore hK (i := 7) [(7, .int (iI ((x1 * 8) + z191))), (6, .int (iI z191)), (0, .ref a0), (1, .int (iI x1)), (2, .int (iI x2)), (3, .int (iI x3)), (4, .long y4)] dX6_place_81 (by decide) rfl ?_
            refine X_lload hK (i := 4) 6 dX6_place_83 rfl ?_
            refine X_iload hK (i := 7) 0 dX6_place_85 rfl ?_
            refine X_lushr hK dX6_place_87 (fun y230 => ?_)
            refine X_lconst hK dX6_place_88 (fun y231 => ?_)
            refine X_land hK dX6_place_89 (fun y232 => ?_)
            refine X_lconst hK dX6_place_90 (fun y233 => ?_)
            refine X_lcmp hK dX6_place_91 (fun z234 lz234 uz234 => ?_)
            have J249 : ∀ (g250 : xG) (hg250 : xM [(12500, 0), (7, 9), (12300, 0)] S g192 g250), X K E 135 [(7, .int (iI ((x1 * 8) + z191))), (6, .int (iI z191)), (0, .ref a0), (1, .int (iI x1)), (2, .int (iI x2)), (3, .int (iI x3)), (4, .long y4)] [] S g250 0 0 := by
              intro g250 hg250
              refine X_iinc hK (i := 6) (z := z191) (n := 1) 1 [(6, .int (iI (z191 + 1))), (7, .int (iI ((x1 * 8) + z191))), (0, .ref a0), (1, .int (iI x1)), (2, .int (iI x2)), (3, .int (iI x3)), (4, .long y4)] dX6_place_135 rfl (by decide) rfl ?_
              refine X_goto hK 65 dX6_place_138 (by decide) ?_
              refine X_lv [(6, .int (iI (z191 + 1))), (0, .ref a0), (1, .int (iI x1)), (2, .int (iI x2)), (3, .int (iI x3)), (4, .long y4)] [0, 2, 3, 4, 5, 6] rfl ?_
              exact ihP228  g250 (xM.tr (xM.tr xM.rf xLe.rf hg192 (by decide)) xLe.rf hg250 (by decide)) (z191 + 1) (by omega) (by omega) (by omega)
            refine X_if_ne hK 135 (by omega) dX6_place_92 (by decide) (fun c235 => ?_) (fun c235 => ?_)
            · exact J249 g192 xM.rf
            · refine X_aloadn hK (i := 0) 2 dX6_place_95 rfl rfl ?_
              refine X_getr hK 12500 8 fl_X6_28_7 hs_a0 sl_7_5 dX6_place_96 (fun b251 eb251 hs_b251 => ?_)
              refine X_iloadn hK (i := 1) 3 dX6_place_99 rfl rfl ?_
              refine X_iload hK (i := 6) 1 dX6_place_100 rfl ?_
              refine X_iast hK hs_b251 (by decide) (by decide) sl_12500 (by omega) (by omega) (by omega) (by omega) dX6_place_102 (fun g252 hg252 => ?_)
              refine X_aloadn hK (i := 0) 2 dX6_place_103 rfl rfl ?_
              refine X_iloadn hK (i := 1) 3 dX6_place_104 rfl rfl ?_
              refine X_iconst hK dX6_place_105 ?_
              refine X_iadd hK dX6_place_106 ?_
              refine X_iloadn hK (i := 2) 4 dX6_place_107 rfl rfl ?_
              refine X_iconst hK dX6_place_108 ?_
              refine X_iload hK (i := 6) 1 dX6_place_109 rfl ?_
              refine X_ishl hK dX6_place_111 (fun z253 ez253 lz253 uz253 => ?_)
              have bz253 := xshlB 7 ez253 ⟨lz253, uz253⟩ (by omega) (by decide)
              refine X_ior hK dX6_place_112 (fun z254 ez254 lz254 uz254 => ?_)
              have bz254 := xiorB 8 ez254 ⟨lz254, uz254⟩ (by omega) (by omega) (by decide)
              refine X_iloadn hK (i := 3) 5 dX6_place_113 rfl rfl ?_
              refine X_aloadn hK (i := 0) 2 dX6_place_114 rfl rfl ?_
              refine X_getr hK 12100 64 fl_X6_15_7 hs_a0 sl_7_1 dX6_place_115 (fun b255 eb255 hs_b255 => ?_)
              refine X_iload hK (i := 7) 0 dX6_place_118 rfl ?_
              refine X_iald hK hs_b255 (by decide) sl_12100 (by omega) (by omega) dX6_place_120 (fun z256 ez256 lz256 uz256 => ?_)
              refine X_iadd hK dX6_place_121 ?_
              refine X_norm (fun z257 ez257 lz257 uz257 => ?_)
              refine X_lload hK (i := 4) 6 dX6_place_122 rfl ?_
              refine X_aloadn hK (i := 0) 2 dX6_place_124 rfl rfl ?_
              refine X_getr hK 12802 64 fl_X6_38_7 hs_a0 sl_7_8 dX6_place_125 (fun b258 eb258 hs_b258 => ?_)
              refine X_iload hK (i := 7) 0 dX6_place_128 rfl ?_
              refine X_lald hK hs_b258 (by decide) sl_12802 (by omega) (by omega) dX6_place_130 (fun y259 => ?_)
              refine X_lor hK dX6_place_131 (fun y260 => ?_)
              refine X_callV hK [.int (iI (x1 + 1)), .int (iI z254), .int (iI z257), .long y260] [] lk_X6_80 (c_X6_place_5 _ _ _ _ _ S g252 a0 (x1 + 1) z254 z257 y260 n0 hs_a0 (by omega) (by omega) (by omega) (by omega) ((xs_a hg252 (xne hs_a0 hs_b251 (by decide))).trans ((hg192 a0 7 0 0 hs_a0 (by decide)).trans en0))) hs_a0 ⟨by decide, rfl⟩ dX6_place_132 rfl rfl (by simp [Value.category]) (by decide) (by decide) (by decide) (by decide) (fun r261 S263 g262 pr261 qr261 hg262 => ?_)
              obtain ⟨rfl, rfl⟩ := pr261
              refine X_st [] rfl ?_
              exact J249 g262 (xM.tr (xM_ua xM.rf hg252 hs_b251 (by decide) (by decide)) xLe.rf hg262 (by decide))
      exact P228 ((24 - 0 : Int).toNat + 1) g xM.rf 0 (by omega) (by omega) (by omega)
    · refine X_aloadn hK (i := 0) 0 dX6_place_24 rfl rfl ?_
      refine X_iloadn hK (i := 3) 3 dX6_place_25 rfl rfl ?_
      refine X_puti hK fl_X6_42_7 hs_a0 (by decide) sl_7_9 (by omega) (by omega) dX6_place_26 (fun g264 hg264 => ?_)
      refine X_iconst hK dX6_place_29 ?_
      refine X_istore hK (i := 6) [(6, .int (iI 0)), (0, .ref a0), (1, .int (iI x1)), (2, .int (iI x2)), (3, .int (iI x3)), (4, .long y4)] dX6_place_30 (by decide) rfl ?_
      have P306 : ∀ (nP306 : Nat) (g300 : xG) (_ : xM [(12300, 0)] S g264 g300) (z299 : Int) (_ : 0 ≤ z299) (_ : z299 ≤ 4) (_ : 20 - z299 < (nP306 : Int)), X K E 32 [(6, .int (iI z299)), (0, .ref a0), (1, .int (iI x1)), (2, .int (iI x2)), (3, .int (iI x3)), (4, .long y4)] [] S g300 0 0 := by
        intro nP306
        induction nP306 with
        | zero => intro g300 hg300 z299 lz299 uz299 mP306; exact False.elim (by omega)
        | succ nP306 ihP306 =>
          intro g300 hg300 z299 lz299 uz299 mP306
          refine X_iload hK (i := 6) 0 dX6_place_32 rfl ?_
          refine X_aloadn hK (i := 0) 1 dX6_place_34 rfl rfl ?_
          refine X_getK hK fl_X6_9_7 hs_a0 ((hg300 a0 7 0 0 hs_a0 (by decide)).trans ((xs_k hg264 (by decide)).trans en0)) dX6_place_35 ?_
          refine X_icmp_ge hK 61 (by omega) (by omega) dX6_place_38 (by decide) (fun c307 => ?_) (fun c307 => ?_)
          · exact hret _ _ _ _ _ _ dX6_place_61 ⟨rfl, rfl⟩ (Nat.le_refl _) (Nat.le_refl _)
          · refine X_aloadn hK (i := 0) 1 dX6_place_41 rfl rfl ?_
            refine X_getr hK 12300 8 fl_X6_22_7 hs_a0 sl_7_3 dX6_place_42 (fun b308 eb308 hs_b308 => ?_)
            refine X_iload hK (i := 6) 0 dX6_place_45 rfl ?_
            refine X_aloadn hK (i := 0) 1 dX6_place_47 rfl rfl ?_
            refine X_getr hK 12500 8 fl_X6_28_7 hs_a0 sl_7_5 dX6_place_48 (fun b309 eb309 hs_b309 => ?_)
            refine X_iload hK (i := 6) 0 dX6_place_51 rfl ?_
            refine X_iald hK hs_b309 (by decide) sl_12500 (by omega) (by omega) dX6_place_53 (fun z310 ez310 lz310 uz310 => ?_)
            refine X_iast hK hs_b308 (by decide) (by decide) sl_12300 (by omega) (by omega) (by omega) (by omega) dX6_place_54 (fun g311 hg311 => ?_)
            refine X_iinc hK (i := 6) (z := z299) (n := 1) 0 [(6, .int (iI (z299 + 1))), (0, .ref a0), (1, .int (iI x1)), (2, .int (iI x2)), (3, .int (iI x3)), (4, .long y4)] dX6_place_55 rfl (by decide) rfl ?_
            refine X_goto hK 32 dX6_place_58 (by decide) ?_
            exact ihP306  g311 (xM_ua (xM.tr xM.rf xLe.rf hg300 (by decide)) hg311 hs_b308 (by decide) (by decide)) (z299 + 1) (by omega) (by omega) (by omega)
      exact P306 ((20 - 0 : Int).toNat + 1) g264 xM.rf 0 (by omega) (by omega) (by omega)
  · exact hret _ _ _ _ _ _ dX6_place_15 ⟨rfl, rfl⟩ (Nat.le_refl _) (Nat.le_refl _)

set_option maxHeartbeats 4000000 in
set_option maxRecDepth 100000 in
theorem c_X6_place_3 (l : Launch) (D : va_G) (kA : Nat → ClassId) (b0 : Nat) (t0 : Nat → Nat) (S : xT) (g : xG) (a0 : Nat) (x1 : Int) (x2 : Int) (x3 : Int) (y4 : Int64) (n0 : Int) (hs_a0 : S a0 = some (7, 0)) (hx1 : 3 ≤ x1 ∧ x1 ≤ 3) (hx2 : 0 ≤ x2 ∧ x2 ≤ 255) (hx3 : (-2147483648) ≤ x3 ∧ x3 ≤ 2147483647) (hn0 : 3 ≤ n0 ∧ n0 ≤ 8) (en0 : g a0 0 = .int (iI n0)) : xMt l yX6_place cX6_place 8 none 5 0 0 135 D kA b0 t0 [(12500, 0), (7, 9), (12300, 0)] [.ref a0, .int (iI x1), .int (iI x2), .int (iI x3), .long y4] S g (fun (r : Option Value) (S1 : xT) (g1 : xG) => S = S1 ∧ r = none) := by
  refine xEnterV (by decide) (by simp [lg_sl, Value.category]) [(0, .ref a0), (1, .int (iI x1)), (2, .int (iI x2)), (3, .int (iI x3)), (4, .long y4)] rfl ?_
  intro K E hK hret _ _ _
  refine X_iloadn hK (i := 3) 3 dX6_place_0 rfl rfl ?_
  refine X_aloadn hK (i := 0) 0 dX6_place_1 rfl rfl ?_
  refine X_getr hK 12600 256 fl_X6_31_7 hs_a0 sl_7_6 dX6_place_2 (fun b1 eb1 hs_b1 => ?_)
  refine X_iloadn hK (i := 2) 2 dX6_place_5 rfl rfl ?_
  refine X_iald hK hs_b1 (by decide) sl_12600 (by omega) (by omega) dX6_place_6 (fun z2 ez2 lz2 uz2 => ?_)
  refine X_iadd hK dX6_place_7 ?_
  refine X_norm (fun z3 ez3 lz3 uz3 => ?_)
  refine X_aloadn hK (i := 0) 0 dX6_place_8 rfl rfl ?_
  refine X_geti hK fl_X6_42_7 hs_a0 sl_7_9 dX6_place_9 (fun z4 ez4 lz4 uz4 => ?_)
  refine X_icmp_gt hK 16 (by omega) (by omega) dX6_place_12 (by decide) (fun c5 => ?_) (fun c5 => ?_)
  · refine X_iloadn hK (i := 1) 1 dX6_place_16 rfl rfl ?_
    refine X_aloadn hK (i := 0) 0 dX6_place_17 rfl rfl ?_
    refine X_getK hK fl_X6_9_7 hs_a0 en0 dX6_place_18 ?_
    refine X_icmp_ne hK 62 (by omega) (by omega) dX6_place_21 (by decide) (fun c6 => ?_) (fun c6 => ?_)
    · refine X_iconst hK dX6_place_62 ?_
      refine X_istore hK (i := 6) [(6, .int (iI 0)), (0, .ref a0), (1, .int (iI x1)), (2, .int (iI x2)), (3, .int (iI x3)), (4, .long y4)] dX6_place_63 (by decide) rfl ?_
      have P228 : ∀ (nP228 : Nat) (g192 : xG) (_ : xM [(12500, 0), (7, 9), (12300, 0)] S g g192) (z191 : Int) (_ : 0 ≤ z191) (_ : z191 ≤ 8) (_ : 24 - z191 < (nP228 : Int)), X K E 65 [(6, .int (iI z191)), (0, .ref a0), (1, .int (iI x1)), (2, .int (iI x2)), (3, .int (iI x3)), (4, .long y4)] [] S g192 0 0 := by
        intro nP228
        induction nP228 with
        | zero => intro g192 hg192 z191 lz191 uz191 mP228; exact False.elim (by omega)
        | succ nP228 ihP228 =>
          intro g192 hg192 z191 lz191 uz191 mP228
          refine X_iload hK (i := 6) 0 dX6_place_65 rfl ?_
          refine X_aloadn hK (i := 0) 1 dX6_place_67 rfl rfl ?_
          refine X_getK hK fl_X6_9_7 hs_a0 ((hg192 a0 7 0 0 hs_a0 (by decide)).trans en0) dX6_place_68 ?_
          refine X_icmp_ge hK 141 (by omega) (by omega) dX6_place_71 (by decide) (fun c229 => ?_) (fun c229 => ?_)
          · exact hret _ _ _ _ _ _ dX6_place_141 ⟨rfl, rfl⟩ (Nat.le_refl _) (Nat.le_refl _)
          · refine X_iloadn hK (i := 1) 2 dX6_place_74 rfl rfl ?_
            refine X_bipush hK dX6_place_75 (by decide) ?_
            refine X_imul hK dX6_place_77 ?_
            refine X_iload hK (i := 6) 0 dX6_place_78 rfl ?_
            refine X_iadd hK dX6_place_80 ?_
            refine X_istore hK (i := 7) [(7, .int (iI ((x1 * 8) + z191))), (6, .int (iI z191)), (0, .ref a0), (1, .int (iI x1)), (2, .int (iI x2)), (3, .int (iI x3)), (4, .long y4)] dX6_place_81 (by decide) rfl ?_
            refine X_lload hK (i := 4) 6 dX6_place_83 rfl ?_
            refine X_iload hK (i := 7) 0 dX6_place_85 rfl ?_
            refine X_lushr hK dX6_place_87 (fun y230 => ?_)
            refine X_lconst hK dX6_place_88 (fun y231 => ?_)
            refine X_land hK dX6_place_89 (fun y232 => ?_)
            refine X_lconst hK dX6_place_90 (fun y233 => ?_)
            refine X_lcmp hK dX6_place_91 (fun z234 lz234 uz234 => ?_)
            have J249 : ∀ (g250 : xG) (hg250 : xM [(12500, 0), (7, 9), (12300, 0)] S g192 g250), X K E 135 [(7, .int (iI ((x1 * 8) + z191))), (6, .int (iI z191)), (0, .ref a0), (1, .int (iI x1)), (2, .int (iI x2)), (3, .int (iI x3)), (4, .long y4)] [] S g250 0 0 := by
              intro g250 hg250
              refine X_iinc hK (i := 6) (z := z191) (n := 1) 1 [(6, .int (iI (z191 + 1))), (7, .int (iI ((x1 * 8) + z191))), (0, .ref a0), (1, .int (iI x1)), (2, .int (iI x2)), (3, .int (iI x3)), (4, .long y4)] dX6_place_135 rfl (by decide) rfl ?_
              refine X_goto hK 65 dX6_place_138 (by decide) ?_
              refine X_lv [(6, .int (iI (z191 + 1))), (0, .ref a0), (1, .int (iI x1)), (2, .int (iI x2)), (3, .int (iI x3)), (4, .long y4)] [0, 2, 3, 4, 5, 6] rfl ?_
              exact ihP228  g250 (xM.tr (xM.tr xM.rf xLe.rf hg192 (by decide)) xLe.rf hg250 (by decide)) (z191 + 1) (by omega) (by omega) (by omega)
            refine X_if_ne hK 135 (by omega) dX6_place_92 (by decide) (fun c235 => ?_) (fun c235 => ?_)
            · exact J249 g192 xM.rf
            · refine X_aloadn hK (i := 0) 2 dX6_place_95 rfl rfl ?_
              refine X_getr hK 12500 8 fl_X6_28_7 hs_a0 sl_7_5 dX6_place_96 (fun b251 eb251 hs_b251 => ?_)
              refine X_iloadn hK (i := 1) 3 dX6_place_99 rfl rfl ?_
              refine X_iload hK (i := 6) 1 dX6_place_100 rfl ?_
              refine X_iast hK hs_b251 (by decide) (by decide) sl_12500 (by omega) (by omega) (by omega) (by omega) dX6_place_102 (fun g252 hg252 => ?_)
              refine X_aloadn hK (i := 0) 2 dX6_place_103 rfl rfl ?_
              refine X_iloadn hK (i := 1) 3 dX6_place_104 rfl rfl ?_
              refine X_iconst hK dX6_place_105 ?_
              refine X_iadd hK dX6_place_106 ?_
              refine X_iloadn hK (i := 2) 4 dX6_place_107 rfl rfl ?_
              refine X_iconst hK dX6_place_108 ?_
              refine X_iload hK (i := 6) 1 dX6_place_109 rfl ?_
              refine X_ishl hK dX6_place_111 (fun z253 ez253 lz253 uz253 => ?_)
              have bz253 := xshlB 7 ez253 ⟨lz253, uz253⟩ (by omega) (by decide)
              refine X_ior hK dX6_place_112 (fun z254 ez254 lz254 uz254 => ?_)
              have bz254 := xiorB 8 ez254 ⟨lz254, uz254⟩ (by omega) (by omega) (by decide)
              refine X_iloadn hK (i := 3) 5 dX6_place_113 rfl rfl ?_
              refine X_aloadn hK (i := 0) 2 dX6_place_114 rfl rfl ?_
              refine X_getr hK 12100 64 fl_X6_15_7 hs_a0 sl_7_1 dX6_place_115 (fun b255 eb255 hs_b255 => ?_)
              refine X_iload hK (i := 7) 0 dX6_place_118 rfl ?_
              refine X_iald hK hs_b255 (by decide) sl_12100 (by omega) (by omega) dX6_place_120 (fun z256 ez256 lz256 uz256 => ?_)
              refine X_iadd hK dX6_place_121 ?_
              refine X_norm (fun z257 ez257 lz257 uz257 => ?_)
              refine X_lload hK (i := 4) 6 dX6_place_122 rfl ?_
              refine X_aloadn hK (i := 0) 2 dX6_place_124 rfl rfl ?_
              refine X_getr hK 12802 64 fl_X6_38_7 hs_a0 sl_7_8 dX6_place_125 (fun b258 eb258 hs_b258 => ?_)
              refine X_iload hK (i := 7) 0 dX6_place_128 rfl ?_
              refine X_lald hK hs_b258 (by decide) sl_12802 (by omega) (by omega) dX6_place_130 (fun y259 => ?_)
              refine X_lor hK dX6_place_131 (fun y260 => ?_)
              refine X_callV hK [.int (iI (x1 + 1)), .int (iI z254), .int (iI z257), .long y260] [] lk_X6_80 (c_X6_place_4 _ _ _ _ _ S g252 a0 (x1 + 1) z254 z257 y260 n0 hs_a0 (by omega) (by omega) (by omega) (by omega) ((xs_a hg252 (xne hs_a0 hs_b251 (by decide))).trans ((hg192 a0 7 0 0 hs_a0 (by decide)).trans en0))) hs_a0 ⟨by decide, rfl⟩ dX6_place_132 rfl rfl (by simp [Value.category]) (by decide) (by decide) (by decide) (by decide) (fun r261 S263 g262 pr261 qr261 hg262 => ?_)
              obtain ⟨rfl, rfl⟩ := pr261
              refine X_st [] rfl ?_
              exact J249 g262 (xM.tr (xM_ua xM.rf hg252 hs_b251 (by decide) (by decide)) xLe.rf hg262 (by decide))
      exact P228 ((24 - 0 : Int).toNat + 1) g xM.rf 0 (by omega) (by omega) (by omega)
    · refine X_aloadn hK (i := 0) 0 dX6_place_24 rfl rfl ?_
      refine X_iloadn hK (i := 3) 3 dX6_place_25 rfl rfl ?_
      refine X_puti hK fl_X6_42_7 hs_a0 (by decide) sl_7_9 (by omega) (by omega) dX6_place_26 (fun g264 hg264 => ?_)
      refine X_iconst hK dX6_place_29 ?_
      refine X_istore hK (i := 6) [(6, .int (iI 0)), (0, .ref a0), (1, .int (iI x1)), (2, .int (iI x2)), (3, .int (iI x3)), (4, .long y4)] dX6_place_30 (by decide) rfl ?_
      have P306 : ∀ (nP306 : Nat) (g300 : xG) (_ : xM [(12300, 0)] S g264 g300) (z299 : Int) (_ : 0 ≤ z299) (_ : z299 ≤ 3) (_ : 19 - z299 < (nP306 : Int)), X K E 32 [(6, .int (iI z299)), (0, .ref a0), (1, .int (iI x1)), (2, .int (iI x2)), (3, .int (iI x3)), (4, .long y4)] [] S g300 0 0 := by
        intro nP306
        induction nP306 with
        | zero => intro g300 hg300 z299 lz299 uz299 mP306; exact False.elim (by omega)
        | succ nP306 ihP306 =>
          intro g300 hg300 z299 lz299 uz299 mP306
          refine X_iload hK (i := 6) 0 dX6_place_32 rfl ?_
          refine X_aloadn hK (i := 0) 1 dX6_place_34 rfl rfl ?_
          refine X_getK hK fl_X6_9_7 hs_a0 ((hg300 a0 7 0 0 hs_a0 (by decide)).trans ((xs_k hg264 (by decide)).trans en0)) dX6_place_35 ?_
          refine X_icmp_ge hK 61 (by omega) (by omega) dX6_place_38 (by decide) (fun c307 => ?_) (fun c307 => ?_)
          · exact hret _ _ _ _ _ _ dX6_place_61 ⟨rfl, rfl⟩ (Nat.le_refl _) (Nat.le_refl _)
          · refine X_aloadn hK (i := 0) 1 dX6_place_41 rfl rfl ?_
            refine X_getr hK 12300 8 fl_X6_22_7 hs_a0 sl_7_3 dX6_place_42 (fun b308 eb308 hs_b308 => ?_)
            refine X_iload hK (i := 6) 0 dX6_place_45 rfl ?_
            refine X_aloadn hK (i := 0) 1 dX6_place_47 rfl rfl ?_
            refine X_getr hK 12500 8 fl_X6_28_7 hs_a0 sl_7_5 dX6_place_48 (fun b309 eb309 hs_b309 => ?_)
            refine X_iload hK (i := 6) 0 dX6_place_51 rfl ?_
            refine X_iald hK hs_b309 (by decide) sl_12500 (by omega) (by omega) dX6_place_53 (fun z310 ez310 lz310 uz310 => ?_)
            refine X_iast hK hs_b308 (by decide) (by decide) sl_12300 (by omega) (by omega) (by omega) (by omega) dX6_place_54 (fun g311 hg311 => ?_)
            refine X_iinc hK (i := 6) (z := z299) (n := 1) 0 [(6, .int (iI (z299 + 1))), (0, .ref a0), (1, .int (iI x1)), (2, .int (iI x2)), (3, .int (iI x3)), (4, .long y4)] dX6_place_55 rfl (by decide) rfl ?_
            refine X_goto hK 32 dX6_place_58 (by decide) ?_
            exact ihP306  g311 (xM_ua (xM.tr xM.rf xLe.rf hg300 (by decide)) hg311 hs_b308 (by decide) (by decide)) (z299 + 1) (by omega) (by omega) (by omega)
      exact P306 ((19 - 0 : Int).toNat + 1) g264 xM.rf 0 (by omega) (by omega) (by omega)
  · exact hret _ _ _ _ _ _ dX6_place_15 ⟨rfl, rfl⟩ (Nat.le_refl _) (Nat.le_refl _)

set_option maxHeartbeats 4000000 in
set_option maxRecDepth 100000 in
theorem c_X6_place_2 (l : Launch) (D : va_G) (kA : Nat → ClassId) (b0 : Nat) (t0 : Nat → Nat) (S : xT) (g : xG) (a0 : Nat) (x1 : Int) (x2 : Int) (x3 : Int) (y4 : Int64) (n0 : Int) (hs_a0 : S a0 = some (7, 0)) (hx1 : 2 ≤ x1 ∧ x1 ≤ 2) (hx2 : 0 ≤ x2 ∧ x2 ≤ 255) (hx3 : (-2147483648) ≤ x3 ∧ x3 ≤ 2147483647) (hn0 : 2 ≤ n0 ∧ n0 ≤ 8) (en0 : g a0 0 = .int (iI n0)) : xMt l yX6_place cX6_place 8 none 6 0 0 162 D kA b0 t0 [(12500, 0), (7, 9), (12300, 0)] [.ref a0, .int (iI x1), .int (iI x2), .int (iI x3), .long y4] S g (fun (r : Option Value) (S1 : xT) (g1 : xG) => S = S1 ∧ r = none) := by
  refine xEnterV (by decide) (by simp [lg_sl, Value.category]) [(0, .ref a0), (1, .int (iI x1)), (2, .int (iI x2)), (3, .int (iI x3)), (4, .long y4)] rfl ?_
  intro K E hK hret _ _ _
  refine X_iloadn hK (i := 3) 3 dX6_place_0 rfl rfl ?_
  refine X_aloadn hK (i := 0) 0 dX6_place_1 rfl rfl ?_
  refine X_getr hK 12600 256 fl_X6_31_7 hs_a0 sl_7_6 dX6_place_2 (fun b1 eb1 hs_b1 => ?_)
  refine X_iloadn hK (i := 2) 2 dX6_place_5 rfl rfl ?_
  refine X_iald hK hs_b1 (by decide) sl_12600 (by omega) (by omega) dX6_place_6 (fun z2 ez2 lz2 uz2 => ?_)
  refine X_iadd hK dX6_place_7 ?_
  refine X_norm (fun z3 ez3 lz3 uz3 => ?_)
  refine X_aloadn hK (i := 0) 0 dX6_place_8 rfl rfl ?_
  refine X_geti hK fl_X6_42_7 hs_a0 sl_7_9 dX6_place_9 (fun z4 ez4 lz4 uz4 => ?_)
  refine X_icmp_gt hK 16 (by omega) (by omega) dX6_place_12 (by decide) (fun c5 => ?_) (fun c5 => ?_)
  · refine X_iloadn hK (i := 1) 1 dX6_place_16 rfl rfl ?_
    refine X_aloadn hK (i := 0) 0 dX6_place_17 rfl rfl ?_
    refine X_getK hK fl_X6_9_7 hs_a0 en0 dX6_place_18 ?_
    refine X_icmp_ne hK 62 (by omega) (by omega) dX6_place_21 (by decide) (fun c6 => ?_) (fun c6 => ?_)
    · refine X_iconst hK dX6_place_62 ?_
      refine X_istore hK (i := 6) [(6, .int (iI 0)), (0, .ref a0), (1, .int (iI x1)), (2, .int (iI x2)), (3, .int (iI x3)), (4, .long y4)] dX6_place_63 (by decide) rfl ?_
      have P228 : ∀ (nP228 : Nat) (g192 : xG) (_ : xM [(12500, 0), (7, 9), (12300, 0)] S g g192) (z191 : Int) (_ : 0 ≤ z191) (_ : z191 ≤ 8) (_ : 24 - z191 < (nP228 : Int)), X K E 65 [(6, .int (iI z191)), (0, .ref a0), (1, .int (iI x1)), (2, .int (iI x2)), (3, .int (iI x3)), (4, .long y4)] [] S g192 0 0 := by
        intro nP228
        induction nP228 with
        | zero => intro g192 hg192 z191 lz191 uz191 mP228; exact False.elim (by omega)
        | succ nP228 ihP228 =>
          intro g192 hg192 z191 lz191 uz191 mP228
          refine X_iload hK (i := 6) 0 dX6_place_65 rfl ?_
          refine X_aloadn hK (i := 0) 1 dX6_place_67 rfl rfl ?_
          refine X_getK hK fl_X6_9_7 hs_a0 ((hg192 a0 7 0 0 hs_a0 (by decide)).trans en0) dX6_place_68 ?_
          refine X_icmp_ge hK 141 (by omega) (by omega) dX6_place_71 (by decide) (fun c229 => ?_) (fun c229 => ?_)
          · exact hret _ _ _ _ _ _ dX6_place_141 ⟨rfl, rfl⟩ (Nat.le_refl _) (Nat.le_refl _)
          · refine X_iloadn hK (i := 1) 2 dX6_place_74 rfl rfl ?_
            refine X_bipush hK dX6_place_75 (by decide) ?_
            refine X_imul hK dX6_place_77 ?_
            refine X_iload hK (i := 6) 0 dX6_place_78 rfl ?_
            refine X_iadd hK dX6_place_80 ?_
            refine X_istore hK (i := 7) [(7, .int (iI ((x1 * 8) + z191))), (6, .int (iI z191)), (0, .ref a0), (1, .int (iI x1)), (2, .int (iI x2)), (3, .int (iI x3)), (4, .long y4)] dX6_place_81 (by decide) rfl ?_
            refine X_lload hK (i := 4) 6 dX6_place_83 rfl ?_
            refine X_iload hK (i := 7) 0 dX6_place_85 rfl ?_
            refine X_lushr hK dX6_place_87 (fun y230 => ?_)
            refine X_lconst hK dX6_place_88 (fun y231 => ?_)
            refine X_land hK dX6_place_89 (fun y232 => ?_)
            refine X_lconst hK dX6_place_90 (fun y233 => ?_)
            refine X_lcmp hK dX6_place_91 (fun z234 lz234 uz234 => ?_)
            have J249 : ∀ (g250 : xG) (hg250 : xM [(12500, 0), (7, 9), (12300, 0)] S g192 g250), X K E 135 [(7, .int (iI ((x1 * 8) + z191))), (6, .int (iI z191)), (0, .ref a0), (1, .int (iI x1)), (2, .int (iI x2)), (3, .int (iI x3)), (4, .long y4)] [] S g250 0 0 := by
              intro g250 hg250
              refine X_iinc hK (i := 6) (z := z191) (n := 1) 1 [(6, .int (iI (z191 + 1))), (7, .int (iI ((x1 * 8) + z191))), (0, .ref a0), (1, .int (iI x1)), (2, .int (iI x2)), (3, .int (iI x3)), (4, .long y4)] dX6_place_135 rfl (by decide) rfl ?_
              refine X_goto hK 65 dX6_place_138 (by decide) ?_
              refine X_lv [(6, .int (iI (z191 + 1))), (0, .ref a0), (1, .int (iI x1)), (2, .int (iI x2)), (3, .int (iI x3)), (4, .long y4)] [0, 2, 3, 4, 5, 6] rfl ?_
              exact ihP228  g250 (xM.tr (xM.tr xM.rf xLe.rf hg192 (by decide)) xLe.rf hg250 (by decide)) (z191 + 1) (by omega) (by omega) (by omega)
            refine X_if_ne hK 135 (by omega) dX6_place_92 (by decide) (fun c235 => ?_) (fun c235 => ?_)
            · exact J249 g192 xM.rf
            · refine X_aloadn hK (i := 0) 2 dX6_place_95 rfl rfl ?_
              refine X_getr hK 12500 8 fl_X6_28_7 hs_a0 sl_7_5 dX6_place_96 (fun b251 eb251 hs_b251 => ?_)
              refine X_iloadn hK (i := 1) 3 dX6_place_99 rfl rfl ?_
              refine X_iload hK (i := 6) 1 dX6_place_100 rfl ?_
              refine X_iast hK hs_b251 (by decide) (by decide) sl_12500 (by omega) (by omega) (by omega) (by omega) dX6_place_102 (fun g252 hg252 => ?_)
              refine X_aloadn hK (i := 0) 2 dX6_place_103 rfl rfl ?_
              refine X_iloadn hK (i := 1) 3 dX6_place_104 rfl rfl ?_
              refine X_iconst hK dX6_place_105 ?_
              refine X_iadd hK dX6_place_106 ?_
              refine X_iloadn hK (i := 2) 4 dX6_place_107 rfl rfl ?_
              refine X_iconst hK dX6_place_108 ?_
              refine X_iload hK (i := 6) 1 dX6_place_109 rfl ?_
              refine X_ishl hK dX6_place_111 (fun z253 ez253 lz253 uz253 => ?_)
              have bz253 := xshlB 7 ez253 ⟨lz253, uz253⟩ (by omega) (by decide)
              refine X_ior hK dX6_place_112 (fun z254 ez254 lz254 uz254 => ?_)
              have bz254 := xiorB 8 ez254 ⟨lz254, uz254⟩ (by omega) (by omega) (by decide)
              refine X_iloadn hK (i := 3) 5 dX6_place_113 rfl rfl ?_
              refine X_aloadn hK (i := 0) 2 dX6_place_114 rfl rfl ?_
              refine X_getr hK 12100 64 fl_X6_15_7 hs_a0 sl_7_1 dX6_place_115 (fun b255 eb255 hs_b255 => ?_)
              refine X_iload hK (i := 7) 0 dX6_place_118 rfl ?_
              refine X_iald hK hs_b255 (by decide) sl_12100 (by omega) (by omega) dX6_place_120 (fun z256 ez256 lz256 uz256 => ?_)
              refine X_iadd hK dX6_place_121 ?_
              refine X_norm (fun z257 ez257 lz257 uz257 => ?_)
              refine X_lload hK (i := 4) 6 dX6_place_122 rfl ?_
              refine X_aloadn hK (i := 0) 2 dX6_place_124 rfl rfl ?_
              refine X_getr hK 12802 64 fl_X6_38_7 hs_a0 sl_7_8 dX6_place_125 (fun b258 eb258 hs_b258 => ?_)
              refine X_iload hK (i := 7) 0 dX6_place_128 rfl ?_
              refine X_lald hK hs_b258 (by decide) sl_12802 (by omega) (by omega) dX6_place_130 (fun y259 => ?_)
              refine X_lor hK dX6_place_131 (fun y260 => ?_)
              refine X_callV hK [.int (iI (x1 + 1)), .int (iI z254), .int (iI z257), .long y260] [] lk_X6_80 (c_X6_place_3 _ _ _ _ _ S g252 a0 (x1 + 1) z254 z257 y260 n0 hs_a0 (by omega) (by omega) (by omega) (by omega) ((xs_a hg252 (xne hs_a0 hs_b251 (by decide))).trans ((hg192 a0 7 0 0 hs_a0 (by decide)).trans en0))) hs_a0 ⟨by decide, rfl⟩ dX6_place_132 rfl rfl (by simp [Value.category]) (by decide) (by decide) (by decide) (by decide) (fun r261 S263 g262 pr261 qr261 hg262 => ?_)
              obtain ⟨rfl, rfl⟩ := pr261
              refine X_st [] rfl ?_
              exact J249 g262 (xM.tr (xM_ua xM.rf hg252 hs_b251 (by decide) (by decide)) xLe.rf hg262 (by decide))
      exact P228 ((24 - 0 : Int).toNat + 1) g xM.rf 0 (by omega) (by omega) (by omega)
    · refine X_aloadn hK (i := 0) 0 dX6_place_24 rfl rfl ?_
      refine X_iloadn hK (i := 3) 3 dX6_place_25 rfl rfl ?_
      refine X_puti hK fl_X6_42_7 hs_a0 (by decide) sl_7_9 (by omega) (by omega) dX6_place_26 (fun g264 hg264 => ?_)
      refine X_iconst hK dX6_place_29 ?_
      refine X_istore hK (i := 6) [(6, .int (iI 0)), (0, .ref a0), (1, .int (iI x1)), (2, .int (iI x2)), (3, .int (iI x3)), (4, .long y4)] dX6_place_30 (by decide) rfl ?_
      have P306 : ∀ (nP306 : Nat) (g300 : xG) (_ : xM [(12300, 0)] S g264 g300) (z299 : Int) (_ : 0 ≤ z299) (_ : z299 ≤ 2) (_ : 18 - z299 < (nP306 : Int)), X K E 32 [(6, .int (iI z299)), (0, .ref a0), (1, .int (iI x1)), (2, .int (iI x2)), (3, .int (iI x3)), (4, .long y4)] [] S g300 0 0 := by
        intro nP306
        induction nP306 with
        | zero => intro g300 hg300 z299 lz299 uz299 mP306; exact False.elim (by omega)
        | succ nP306 ihP306 =>
          intro g300 hg300 z299 lz299 uz299 mP306
          refine X_iload hK (i := 6) 0 dX6_place_32 rfl ?_
          refine X_aloadn hK (i := 0) 1 dX6_place_34 rfl rfl ?_
          refine X_getK hK fl_X6_9_7 hs_a0 ((hg300 a0 7 0 0 hs_a0 (by decide)).trans ((xs_k hg264 (by decide)).trans en0)) dX6_place_35 ?_
          refine X_icmp_ge hK 61 (by omega) (by omega) dX6_place_38 (by decide) (fun c307 => ?_) (fun c307 => ?_)
          · exact hret _ _ _ _ _ _ dX6_place_61 ⟨rfl, rfl⟩ (Nat.le_refl _) (Nat.le_refl _)
          · refine X_aloadn hK (i := 0) 1 dX6_place_41 rfl rfl ?_
            refine X_getr hK 12300 8 fl_X6_22_7 hs_a0 sl_7_3 dX6_place_42 (fun b308 eb308 hs_b308 => ?_)
            refine X_iload hK (i := 6) 0 dX6_place_45 rfl ?_
            refine X_aloadn hK (i := 0) 1 dX6_place_47 rfl rfl ?_
            refine X_getr hK 12500 8 fl_X6_28_7 hs_a0 sl_7_5 dX6_place_48 (fun b309 eb309 hs_b309 => ?_)
            refine X_iload hK (i := 6) 0 dX6_place_51 rfl ?_
            refine X_iald hK hs_b309 (by decide) sl_12500 (by omega) (by omega) dX6_place_53 (fun z310 ez310 lz310 uz310 => ?_)
            refine X_iast hK hs_b308 (by decide) (by decide) sl_12300 (by omega) (by omega) (by omega) (by omega) dX6_place_54 (fun g311 hg311 => ?_)
            refine X_iinc hK (i := 6) (z := z299) (n := 1) 0 [(6, .int (iI (z299 + 1))), (0, .ref a0), (1, .int (iI x1)), (2, .int (iI x2)), (3, .int (iI x3)), (4, .long y4)] dX6_place_55 rfl (by decide) rfl ?_
            refine X_goto hK 32 dX6_place_58 (by decide) ?_
            exact ihP306  g311 (xM_ua (xM.tr xM.rf xLe.rf hg300 (by decide)) hg311 hs_b308 (by decide) (by decide)) (z299 + 1) (by omega) (by omega) (by omega)
      exact P306 ((18 - 0 : Int).toNat + 1) g264 xM.rf 0 (by omega) (by omega) (by omega)
  · exact hret _ _ _ _ _ _ dX6_place_15 ⟨rfl, rfl⟩ (Nat.le_refl _) (Nat.le_refl _)

set_option maxHeartbeats 4000000 in
set_option maxRecDepth 100000 in
theorem c_X6_place_1 (l : Launch) (D : va_G) (kA : Nat → ClassId) (b0 : Nat) (t0 : Nat → Nat) (S : xT) (g : xG) (a0 : Nat) (x1 : Int) (x2 : Int) (x3 : Int) (y4 : Int64) (n0 : Int) (hs_a0 : S a0 = some (7, 0)) (hx1 : 1 ≤ x1 ∧ x1 ≤ 1) (hx2 : 0 ≤ x2 ∧ x2 ≤ 255) (hx3 : (-2147483648) ≤ x3 ∧ x3 ≤ 2147483647) (hn0 : 1 ≤ n0 ∧ n0 ≤ 8) (en0 : g a0 0 = .int (iI n0)) : xMt l yX6_place cX6_place 8 none 7 0 0 189 D kA b0 t0 [(12500, 0), (7, 9), (12300, 0)] [.ref a0, .int (iI x1), .int (iI x2), .int (iI x3), .long y4] S g (fun (r : Option Value) (S1 : xT) (g1 : xG) => S = S1 ∧ r = none) := by
  refine xEnterV (by decide) (by simp [lg_sl, Value.category]) [(0, .ref a0), (1, .int (iI x1)), (2, .int (iI x2)), (3, .int (iI x3)), (4, .long y4)] rfl ?_
  intro K E hK hret _ _ _
  refine X_iloadn hK (i := 3) 3 dX6_place_0 rfl rfl ?_
  refine X_aloadn hK (i := 0) 0 dX6_place_1 rfl rfl ?_
  refine X_getr hK 12600 256 fl_X6_31_7 hs_a0 sl_7_6 dX6_place_2 (fun b1 eb1 hs_b1 => ?_)
  refine X_iloadn hK (i := 2) 2 dX6_place_5 rfl rfl ?_
  refine X_iald hK hs_b1 (by decide) sl_12600 (by omega) (by omega) dX6_place_6 (fun z2 ez2 lz2 uz2 => ?_)
  refine X_iadd hK dX6_place_7 ?_
  refine X_norm (fun z3 ez3 lz3 uz3 => ?_)
  refine X_aloadn hK (i := 0) 0 dX6_place_8 rfl rfl ?_
  refine X_geti hK fl_X6_42_7 hs_a0 sl_7_9 dX6_place_9 (fun z4 ez4 lz4 uz4 => ?_)
  refine X_icmp_gt hK 16 (by omega) (by omega) dX6_place_12 (by decide) (fun c5 => ?_) (fun c5 => ?_)
  · refine X_iloadn hK (i := 1) 1 dX6_place_16 rfl rfl ?_
    refine X_aloadn hK (i := 0) 0 dX6_place_17 rfl rfl ?_
    refine X_getK hK fl_X6_9_7 hs_a0 en0 dX6_place_18 ?_
    refine X_icmp_ne hK 62 (by omega) (by omega) dX6_place_21 (by decide) (fun c6 => ?_) (fun c6 => ?_)
    · refine X_iconst hK dX6_place_62 ?_
      refine X_istore hK (i := 6) [(6, .int (iI 0)), (0, .ref a0), (1, .int (iI x1)), (2, .int (iI x2)), (3, .int (iI x3)), (4, .long y4)] dX6_place_63 (by decide) rfl ?_
      have P228 : ∀ (nP228 : Nat) (g192 : xG) (_ : xM [(12500, 0), (7, 9), (12300, 0)] S g g192) (z191 : Int) (_ : 0 ≤ z191) (_ : z191 ≤ 8) (_ : 24 - z191 < (nP228 : Int)), X K E 65 [(6, .int (iI z191)), (0, .ref a0), (1, .int (iI x1)), (2, .int (iI x2)), (3, .int (iI x3)), (4, .long y4)] [] S g192 0 0 := by
        intro nP228
        induction nP228 with
        | zero => intro g192 hg192 z191 lz191 uz191 mP228; exact False.elim (by omega)
        | succ nP228 ihP228 =>
          intro g192 hg192 z191 lz191 uz191 mP228
          refine X_iload hK (i := 6) 0 dX6_place_65 rfl ?_
          refine X_aloadn hK (i := 0) 1 dX6_place_67 rfl rfl ?_
          refine X_getK hK fl_X6_9_7 hs_a0 ((hg192 a0 7 0 0 hs_a0 (by decide)).trans en0) dX6_place_68 ?_
          refine X_icmp_ge hK 141 (by omega) (by omega) dX6_place_71 (by decide) (fun c229 => ?_) (fun c229 => ?_)
          · exact hret _ _ _ _ _ _ dX6_place_141 ⟨rfl, rfl⟩ (Nat.le_refl _) (Nat.le_refl _)
          · refine X_iloadn hK (i := 1) 2 dX6_place_74 rfl rfl ?_
            refine X_bipush hK dX6_place_75 (by decide) ?_
            refine X_imul hK dX6_place_77 ?_
            refine X_iload hK (i := 6) 0 dX6_place_78 rfl ?_
            refine X_iadd hK dX6_place_80 ?_
            refine X_istore hK (i := 7) [(7, .int (iI ((x1 * 8) + z191))), (6, .int (iI z191)), (0, .ref a0), (1, .int (iI x1)), (2, .int (iI x2)), (3, .int (iI x3)), (4, .long y4)] dX6_place_81 (by decide) rfl ?_
            refine X_lload hK (i := 4) 6 dX6_place_83 rfl ?_
            refine X_iload hK (i := 7) 0 dX6_place_85 rfl ?_
            refine X_lushr hK dX6_place_87 (fun y230 => ?_)
            refine X_lconst hK dX6_place_88 (fun y231 => ?_)
            refine X_land hK dX6_place_89 (fun y232 => ?_)
            refine X_lconst hK dX6_place_90 (fun y233 => ?_)
            refine X_lcmp hK dX6_place_91 (fun z234 lz234 uz234 => ?_)
            have J249 : ∀ (g250 : xG) (hg250 : xM [(12500, 0), (7, 9), (12300, 0)] S g192 g250), X K E 135 [(7, .int (iI ((x1 * 8) + z191))), (6, .int (iI z191)), (0, .ref a0), (1, .int (iI x1)), (2, .int (iI x2)), (3, .int (iI x3)), (4, .long y4)] [] S g250 0 0 := by
              intro g250 hg250
              refine X_iinc hK (i := 6) (z := z191) (n := 1) 1 [(6, .int (iI (z191 + 1))), (7, .int (iI ((x1 * 8) + z191))), (0, .ref a0), (1, .int (iI x1)), (2, .int (iI x2)), (3, .int (iI x3)), (4, .long y4)] dX6_place_135 rfl (by decide) rfl ?_
              refine X_goto hK 65 dX6_place_138 (by decide) ?_
              refine X_lv [(6, .int (iI (z191 + 1))), (0, .ref a0), (1, .int (iI x1)), (2, .int (iI x2)), (3, .int (iI x3)), (4, .long y4)] [0, 2, 3, 4, 5, 6] rfl ?_
              exact ihP228  g250 (xM.tr (xM.tr xM.rf xLe.rf hg192 (by decide)) xLe.rf hg250 (by decide)) (z191 + 1) (by omega) (by omega) (by omega)
            refine X_if_ne hK 135 (by omega) dX6_place_92 (by decide) (fun c235 => ?_) (fun c235 => ?_)
            · exact J249 g192 xM.rf
            · refine X_aloadn hK (i := 0) 2 dX6_place_95 rfl rfl ?_
              refine X_getr hK 12500 8 fl_X6_28_7 hs_a0 sl_7_5 dX6_place_96 (fun b251 eb251 hs_b251 => ?_)
              refine X_iloadn hK (i := 1) 3 dX6_place_99 rfl rfl ?_
              refine X_iload hK (i := 6) 1 dX6_place_100 rfl ?_
              refine X_iast hK hs_b251 (by decide) (by decide) sl_12500 (by omega) (by omega) (by omega) (by omega) dX6_place_102 (fun g252 hg252 => ?_)
              refine X_aloadn hK (i := 0) 2 dX6_place_103 rfl rfl ?_
              refine X_iloadn hK (i := 1) 3 dX6_place_104 rfl rfl ?_
              refine X_iconst hK dX6_place_105 ?_
              refine X_iadd hK dX6_place_106 ?_
              refine X_iloadn hK (i := 2) 4 dX6_place_107 rfl rfl ?_
              refine X_iconst hK dX6_place_108 ?_
              refine X_iload hK (i := 6) 1 dX6_place_109 rfl ?_
              refine X_ishl hK dX6_place_111 (fun z253 ez253 lz253 uz253 => ?_)
              have bz253 := xshlB 7 ez253 ⟨lz253, uz253⟩ (by omega) (by decide)
              refine X_ior hK dX6_place_112 (fun z254 ez254 lz254 uz254 => ?_)
              have bz254 := xiorB 8 ez254 ⟨lz254, uz254⟩ (by omega) (by omega) (by decide)
              refine X_iloadn hK (i := 3) 5 dX6_place_113 rfl rfl ?_
              refine X_aloadn hK (i := 0) 2 dX6_place_114 rfl rfl ?_
              refine X_getr hK 12100 64 fl_X6_15_7 hs_a0 sl_7_1 dX6_place_115 (fun b255 eb255 hs_b255 => ?_)
              refine X_iload hK (i := 7) 0 dX6_place_118 rfl ?_
              refine X_iald hK hs_b255 (by decide) sl_12100 (by omega) (by omega) dX6_place_120 (fun z256 ez256 lz256 uz256 => ?_)
              refine X_iadd hK dX6_place_121 ?_
              refine X_norm (fun z257 ez257 lz257 uz257 => ?_)
              refine X_lload hK (i := 4) 6 dX6_place_122 rfl ?_
              refine X_aloadn hK (i := 0) 2 dX6_place_124 rfl rfl ?_
              refine X_getr hK 12802 64 fl_X6_38_7 hs_a0 sl_7_8 dX6_place_125 (fun b258 eb258 hs_b258 => ?_)
              refine X_iload hK (i := 7) 0 dX6_place_128 rfl ?_
              refine X_lald hK hs_b258 (by decide) sl_12802 (by omega) (by omega) dX6_place_130 (fun y259 => ?_)
              refine X_lor hK dX6_place_131 (fun y260 => ?_)
              refine X_callV hK [.int (iI (x1 + 1)), .int (iI z254), .int (iI z257), .long y260] [] lk_X6_80 (c_X6_place_2 _ _ _ _ _ S g252 a0 (x1 + 1) z254 z257 y260 n0 hs_a0 (by omega) (by omega) (by omega) (by omega) ((xs_a hg252 (xne hs_a0 hs_b251 (by decide))).trans ((hg192 a0 7 0 0 hs_a0 (by decide)).trans en0))) hs_a0 ⟨by decide, rfl⟩ dX6_place_132 rfl rfl (by simp [Value.category]) (by decide) (by decide) (by decide) (by decide) (fun r261 S263 g262 pr261 qr261 hg262 => ?_)
              obtain ⟨rfl, rfl⟩ := pr261
              refine X_st [] rfl ?_
              exact J249 g262 (xM.tr (xM_ua xM.rf hg252 hs_b251 (by decide) (by decide)) xLe.rf hg262 (by decide))
      exact P228 ((24 - 0 : Int).toNat + 1) g xM.rf 0 (by omega) (by omega) (by omega)
    · refine X_aloadn hK (i := 0) 0 dX6_place_24 rfl rfl ?_
      refine X_iloadn hK (i := 3) 3 dX6_place_25 rfl rfl ?_
      refine X_puti hK fl_X6_42_7 hs_a0 (by decide) sl_7_9 (by omega) (by omega) dX6_place_26 (fun g264 hg264 => ?_)
      refine X_iconst hK dX6_place_29 ?_
      refine X_istore hK (i := 6) [(6, .int (iI 0)), (0, .ref a0), (1, .int (iI x1)), (2, .int (iI x2)), (3, .int (iI x3)), (4, .long y4)] dX6_place_30 (by decide) rfl ?_
      have P306 : ∀ (nP306 : Nat) (g300 : xG) (_ : xM [(12300, 0)] S g264 g300) (z299 : Int) (_ : 0 ≤ z299) (_ : z299 ≤ 1) (_ : 17 - z299 < (nP306 : Int)), X K E 32 [(6, .int (iI z299)), (0, .ref a0), (1, .int (iI x1)), (2, .int (iI x2)), (3, .int (iI x3)), (4, .long y4)] [] S g300 0 0 := by
        intro nP306
        induction nP306 with
        | zero => intro g300 hg300 z299 lz299 uz299 mP306; exact False.elim (by omega)
        | succ nP306 ihP306 =>
          intro g300 hg300 z299 lz299 uz299 mP306
          refine X_iload hK (i := 6) 0 dX6_place_32 rfl ?_
          refine X_aloadn hK (i := 0) 1 dX6_place_34 rfl rfl ?_
          refine X_getK hK fl_X6_9_7 hs_a0 ((hg300 a0 7 0 0 hs_a0 (by decide)).trans ((xs_k hg264 (by decide)).trans en0)) dX6_place_35 ?_
          refine X_icmp_ge hK 61 (by omega) (by omega) dX6_place_38 (by decide) (fun c307 => ?_) (fun c307 => ?_)
          · exact hret _ _ _ _ _ _ dX6_place_61 ⟨rfl, rfl⟩ (Nat.le_refl _) (Nat.le_refl _)
          · refine X_aloadn hK (i := 0) 1 dX6_place_41 rfl rfl ?_
            refine X_getr hK 12300 8 fl_X6_22_7 hs_a0 sl_7_3 dX6_place_42 (fun b308 eb308 hs_b308 => ?_)
            refine X_iload hK (i := 6) 0 dX6_place_45 rfl ?_
            refine X_aloadn hK (i := 0) 1 dX6_place_47 rfl rfl ?_
            refine X_getr hK 12500 8 fl_X6_28_7 hs_a0 sl_7_5 dX6_place_48 (fun b309 eb309 hs_b309 => ?_)
            refine X_iload hK (i := 6) 0 dX6_place_51 rfl ?_
            refine X_iald hK hs_b309 (by decide) sl_12500 (by omega) (by omega) dX6_place_53 (fun z310 ez310 lz310 uz310 => ?_)
            refine X_iast hK hs_b308 (by decide) (by decide) sl_12300 (by omega) (by omega) (by omega) (by omega) dX6_place_54 (fun g311 hg311 => ?_)
            refine X_iinc hK (i := 6) (z := z299) (n := 1) 0 [(6, .int (iI (z299 + 1))), (0, .ref a0), (1, .int (iI x1)), (2, .int (iI x2)), (3, .int (iI x3)), (4, .long y4)] dX6_place_55 rfl (by decide) rfl ?_
            refine X_goto hK 32 dX6_place_58 (by decide) ?_
            exact ihP306  g311 (xM_ua (xM.tr xM.rf xLe.rf hg300 (by decide)) hg311 hs_b308 (by decide) (by decide)) (z299 + 1) (by omega) (by omega) (by omega)
      exact P306 ((17 - 0 : Int).toNat + 1) g264 xM.rf 0 (by omega) (by omega) (by omega)
  · exact hret _ _ _ _ _ _ dX6_place_15 ⟨rfl, rfl⟩ (Nat.le_refl _) (Nat.le_refl _)

set_option maxHeartbeats 4000000 in
set_option maxRecDepth 100000 in
theorem c_X6_place_0 (l : Launch) (D : va_G) (kA : Nat → ClassId) (b0 : Nat) (t0 : Nat → Nat) (S : xT) (g : xG) (a0 : Nat) (x1 : Int) (x2 : Int) (x3 : Int) (y4 : Int64) (n0 : Int) (hs_a0 : S a0 = some (7, 0)) (hx1 : 0 ≤ x1 ∧ x1 ≤ 0) (hx2 : 0 ≤ x2 ∧ x2 ≤ 255) (hx3 : (-2147483648) ≤ x3 ∧ x3 ≤ 2147483647) (hn0 : 0 ≤ n0 ∧ n0 ≤ 8) (en0 : g a0 0 = .int (iI n0)) : xMt l yX6_place cX6_place 8 none 8 0 0 216 D kA b0 t0 [(12500, 0), (7, 9), (12300, 0)] [.ref a0, .int (iI x1), .int (iI x2), .int (iI x3), .long y4] S g (fun (r : Option Value) (S1 : xT) (g1 : xG) => S = S1 ∧ r = none) := by
  refine xEnterV (by decide) (by simp [lg_sl, Value.category]) [(0, .ref a0), (1, .int (iI x1)), (2, .int (iI x2)), (3, .int (iI x3)), (4, .long y4)] rfl ?_
  intro K E hK hret _ _ _
  refine X_iloadn hK (i := 3) 3 dX6_place_0 rfl rfl ?_
  refine X_aloadn hK (i := 0) 0 dX6_place_1 rfl rfl ?_
  refine X_getr hK 12600 256 fl_X6_31_7 hs_a0 sl_7_6 dX6_place_2 (fun b1 eb1 hs_b1 => ?_)
  refine X_iloadn hK (i := 2) 2 dX6_place_5 rfl rfl ?_
  refine X_iald hK hs_b1 (by decide) sl_12600 (by omega) (by omega) dX6_place_6 (fun z2 ez2 lz2 uz2 => ?_)
  refine X_iadd hK dX6_place_7 ?_
  refine X_norm (fun z3 ez3 lz3 uz3 => ?_)
  refine X_aloadn hK (i := 0) 0 dX6_place_8 rfl rfl ?_
  refine X_geti hK fl_X6_42_7 hs_a0 sl_7_9 dX6_place_9 (fun z4 ez4 lz4 uz4 => ?_)
  refine X_icmp_gt hK 16 (by omega) (by omega) dX6_place_12 (by decide) (fun c5 => ?_) (fun c5 => ?_)
  · refine X_iloadn hK (i := 1) 1 dX6_place_16 rfl rfl ?_
    refine X_aloadn hK (i := 0) 0 dX6_place_17 rfl rfl ?_
    refine X_getK hK fl_X6_9_7 hs_a0 en0 dX6_place_18 ?_
    refine X_icmp_ne hK 62 (by omega) (by omega) dX6_place_21 (by decide) (fun c6 => ?_) (fun c6 => ?_)
    · refine X_iconst hK dX6_place_62 ?_
      refine X_istore hK (i := 6) [(6, .int (iI 0)), (0, .ref a0), (1, .int (iI x1)), (2, .int (iI x2)), (3, .int (iI x3)), (4, .long y4)] dX6_place_63 (by decide) rfl ?_
      have P228 : ∀ (nP228 : Nat) (g192 : xG) (_ : xM [(12500, 0), (7, 9), (12300, 0)] S g g192) (z191 : Int) (_ : 0 ≤ z191) (_ : z191 ≤ 8) (_ : 24 - z191 < (nP228 : Int)), X K E 65 [(6, .int (iI z191)), (0, .ref a0), (1, .int (iI x1)), (2, .int (iI x2)), (3, .int (iI x3)), (4, .long y4)] [] S g192 0 0 := by
        intro nP228
        induction nP228 with
        | zero => intro g192 hg192 z191 lz191 uz191 mP228; exact False.elim (by omega)
        | succ nP228 ihP228 =>
          intro g192 hg192 z191 lz191 uz191 mP228
          refine X_iload hK (i := 6) 0 dX6_place_65 rfl ?_
          refine X_aloadn hK (i := 0) 1 dX6_place_67 rfl rfl ?_
          refine X_getK hK fl_X6_9_7 hs_a0 ((hg192 a0 7 0 0 hs_a0 (by decide)).trans en0) dX6_place_68 ?_
          refine X_icmp_ge hK 141 (by omega) (by omega) dX6_place_71 (by decide) (fun c229 => ?_) (fun c229 => ?_)
          · exact hret _ _ _ _ _ _ dX6_place_141 ⟨rfl, rfl⟩ (Nat.le_refl _) (Nat.le_refl _)
          · refine X_iloadn hK (i := 1) 2 dX6_place_74 rfl rfl ?_
            refine X_bipush hK dX6_place_75 (by decide) ?_
            refine X_imul hK dX6_place_77 ?_
            refine X_iload hK (i := 6) 0 dX6_place_78 rfl ?_
            refine X_iadd hK dX6_place_80 ?_
            refine X_istore hK (i := 7) [(7, .int (iI ((x1 * 8) + z191))), (6, .int (iI z191)), (0, .ref a0), (1, .int (iI x1)), (2, .int (iI x2)), (3, .int (iI x3)), (4, .long y4)] dX6_place_81 (by decide) rfl ?_
            refine X_lload hK (i := 4) 6 dX6_place_83 rfl ?_
            refine X_iload hK (i := 7) 0 dX6_place_85 rfl ?_
            refine X_lushr hK dX6_place_87 (fun y230 => ?_)
            refine X_lconst hK dX6_place_88 (fun y231 => ?_)
            refine X_land hK dX6_place_89 (fun y232 => ?_)
            refine X_lconst hK dX6_place_90 (fun y233 => ?_)
            refine X_lcmp hK dX6_place_91 (fun z234 lz234 uz234 => ?_)
            have J249 : ∀ (g250 : xG) (hg250 : xM [(12500, 0), (7, 9), (12300, 0)] S g192 g250), X K E 135 [(7, .int (iI ((x1 * 8) + z191))), (6, .int (iI z191)), (0, .ref a0), (1, .int (iI x1)), (2, .int (iI x2)), (3, .int (iI x3)), (4, .long y4)] [] S g250 0 0 := by
              intro g250 hg250
              refine X_iinc hK (i := 6) (z := z191) (n := 1) 1 [(6, .int (iI (z191 + 1))), (7, .int (iI ((x1 * 8) + z191))), (0, .ref a0), (1, .int (iI x1)), (2, .int (iI x2)), (3, .int (iI x3)), (4, .long y4)] dX6_place_135 rfl (by decide) rfl ?_
              refine X_goto hK 65 dX6_place_138 (by decide) ?_
              refine X_lv [(6, .int (iI (z191 + 1))), (0, .ref a0), (1, .int (iI x1)), (2, .int (iI x2)), (3, .int (iI x3)), (4, .long y4)] [0, 2, 3, 4, 5, 6] rfl ?_
              exact ihP228  g250 (xM.tr (xM.tr xM.rf xLe.rf hg192 (by decide)) xLe.rf hg250 (by decide)) (z191 + 1) (by omega) (by omega) (by omega)
            refine X_if_ne hK 135 (by omega) dX6_place_92 (by decide) (fun c235 => ?_) (fun c235 => ?_)
            · exact J249 g192 xM.rf
            · refine X_aloadn hK (i := 0) 2 dX6_place_95 rfl rfl ?_
              refine X_getr hK 12500 8 fl_X6_28_7 hs_a0 sl_7_5 dX6_place_96 (fun b251 eb251 hs_b251 => ?_)
              refine X_iloadn hK (i := 1) 3 dX6_place_99 rfl rfl ?_
              refine X_iload hK (i := 6) 1 dX6_place_100 rfl ?_
              refine X_iast hK hs_b251 (by decide) (by decide) sl_12500 (by omega) (by omega) (by omega) (by omega) dX6_place_102 (fun g252 hg252 => ?_)
              refine X_aloadn hK (i := 0) 2 dX6_place_103 rfl rfl ?_
              refine X_iloadn hK (i := 1) 3 dX6_place_104 rfl rfl ?_
              refine X_iconst hK dX6_place_105 ?_
              refine X_iadd hK dX6_place_106 ?_
              refine X_iloadn hK (i := 2) 4 dX6_place_107 rfl rfl ?_
              refine X_iconst hK dX6_place_108 ?_
              refine X_iload hK (i := 6) 1 dX6_place_109 rfl ?_
              refine X_ishl hK dX6_place_111 (fun z253 ez253 lz253 uz253 => ?_)
              have bz253 := xshlB 7 ez253 ⟨lz253, uz253⟩ (by omega) (by decide)
              refine X_ior hK dX6_place_112 (fun z254 ez254 lz254 uz254 => ?_)
              have bz254 := xiorB 8 ez254 ⟨lz254, uz254⟩ (by omega) (by omega) (by decide)
              refine X_iloadn hK (i := 3) 5 dX6_place_113 rfl rfl ?_
              refine X_aloadn hK (i := 0) 2 dX6_place_114 rfl rfl ?_
              refine X_getr hK 12100 64 fl_X6_15_7 hs_a0 sl_7_1 dX6_place_115 (fun b255 eb255 hs_b255 => ?_)
              refine X_iload hK (i := 7) 0 dX6_place_118 rfl ?_
              refine X_iald hK hs_b255 (by decide) sl_12100 (by omega) (by omega) dX6_place_120 (fun z256 ez256 lz256 uz256 => ?_)
              refine X_iadd hK dX6_place_121 ?_
              refine X_norm (fun z257 ez257 lz257 uz257 => ?_)
              refine X_lload hK (i := 4) 6 dX6_place_122 rfl ?_
              refine X_aloadn hK (i := 0) 2 dX6_place_124 rfl rfl ?_
              refine X_getr hK 12802 64 fl_X6_38_7 hs_a0 sl_7_8 dX6_place_125 (fun b258 eb258 hs_b258 => ?_)
              refine X_iload hK (i := 7) 0 dX6_place_128 rfl ?_
              refine X_lald hK hs_b258 (by decide) sl_12802 (by omega) (by omega) dX6_place_130 (fun y259 => ?_)
              refine X_lor hK dX6_place_131 (fun y260 => ?_)
              refine X_callV hK [.int (iI (x1 + 1)), .int (iI z254), .int (iI z257), .long y260] [] lk_X6_80 (c_X6_place_1 _ _ _ _ _ S g252 a0 (x1 + 1) z254 z257 y260 n0 hs_a0 (by omega) (by omega) (by omega) (by omega) ((xs_a hg252 (xne hs_a0 hs_b251 (by decide))).trans ((hg192 a0 7 0 0 hs_a0 (by decide)).trans en0))) hs_a0 ⟨by decide, rfl⟩ dX6_place_132 rfl rfl (by simp [Value.category]) (by decide) (by decide) (by decide) (by decide) (fun r261 S263 g262 pr261 qr261 hg262 => ?_)
              obtain ⟨rfl, rfl⟩ := pr261
              refine X_st [] rfl ?_
              exact J249 g262 (xM.tr (xM_ua xM.rf hg252 hs_b251 (by decide) (by decide)) xLe.rf hg262 (by decide))
      exact P228 ((24 - 0 : Int).toNat + 1) g xM.rf 0 (by omega) (by omega) (by omega)
    · refine X_aloadn hK (i := 0) 0 dX6_place_24 rfl rfl ?_
      refine X_iloadn hK (i := 3) 3 dX6_place_25 rfl rfl ?_
      refine X_puti hK fl_X6_42_7 hs_a0 (by decide) sl_7_9 (by omega) (by omega) dX6_place_26 (fun g264 hg264 => ?_)
      refine X_iconst hK dX6_place_29 ?_
      refine X_istore hK (i := 6) [(6, .int (iI 0)), (0, .ref a0), (1, .int (iI x1)), (2, .int (iI x2)), (3, .int (iI x3)), (4, .long y4)] dX6_place_30 (by decide) rfl ?_
      have P273 : ∀ (nP273 : Nat) (z271 : Int) (_ : 0 ≤ z271) (_ : z271 ≤ 0) (_ : (0 : Int) < (nP273 : Int)), X K E 32 [(6, .int (iI z271)), (0, .ref a0), (1, .int (iI x1)), (2, .int (iI x2)), (3, .int (iI x3)), (4, .long y4)] [] S g264 0 0 := by
        intro nP273
        induction nP273 with
        | zero => intro z271 lz271 uz271 mP273; exact False.elim (by omega)
        | succ nP273 ihP273 =>
          intro z271 lz271 uz271 mP273
          refine X_iload hK (i := 6) 0 dX6_place_32 rfl ?_
          refine X_aloadn hK (i := 0) 1 dX6_place_34 rfl rfl ?_
          refine X_getK hK fl_X6_9_7 hs_a0 ((xs_k hg264 (by decide)).trans en0) dX6_place_35 ?_
          refine X_icmp_ge hK 61 (by omega) (by omega) dX6_place_38 (by decide) (fun c274 => ?_) (fun c274 => False.elim (by omega))
          exact hret _ _ _ _ _ _ dX6_place_61 ⟨rfl, rfl⟩ (Nat.le_refl _) (Nat.le_refl _)
      exact P273 (((0 : Int) : Int).toNat + 1) 0 (by omega) (by omega) (by omega)
  · exact hret _ _ _ _ _ _ dX6_place_15 ⟨rfl, rfl⟩ (Nat.le_refl _) (Nat.le_refl _)
