set_option maxHeartbeats 4000000 in
set_option maxRecDepth 100000 in
theorem c_X10_addStep (l : Launch) (D : va_G) (kA : Nat → ClassId) (b0 : Nat) (t0 : Nat → Nat) (S : xT) (g : xG) (a0 : Nat) (x1 : Int) (x2 : Int) (x3 : Int) (hs_a0 : S a0 = some (11, 0)) (hx1 : 0 ≤ x1 ∧ x1 ≤ 14) (hx2 : 0 ≤ x2 ∧ x2 ≤ 2) (hx3 : 0 ≤ x3 ∧ x3 ≤ 9999) : xMt l yX10_addStep cX10_addStep 4 none 0 0 0 0 D kA b0 t0 [(14000, 0), (11, 2)] [.ref a0, .int (iI x1), .int (iI x2), .int (iI x3)] S g (fun (r : Option Value) (S1 : xT) (g1 : xG) => S = S1 ∧ r = none) := by
  refine xEnterV (by decide) (by simp [lg_sl, Value.category]) [(0, .ref a0), (1, .int (iI x1)), (2, .int (iI x2)), (3, .int (iI x3))] rfl ?_
  intro K E hK hret _ _ _
  refine X_aloadn hK (i := 0) 0 dX10_addStep_0 rfl rfl ?_
  refine X_geti hK fl_X10_18_11 hs_a0 sl_11_2 dX10_addStep_1 (fun z1 ez1 lz1 uz1 => ?_)
  refine X_bipush hK dX10_addStep_4 (by decide) ?_
  refine X_icmp_ge hK 39 (by omega) (by omega) dX10_addStep_6 (by decide) (fun c2 => ?_) (fun c2 => ?_)
  · exact hret _ _ _ _ _ _ dX10_addStep_39 ⟨rfl, rfl⟩ (Nat.le_refl _) (Nat.le_refl _)
  · refine X_aloadn hK (i := 0) 0 dX10_addStep_9 rfl rfl ?_
    refine X_getr hK 14000 100 fl_X10_34_11 hs_a0 sl_11_7 dX10_addStep_10 (fun b3 eb3 hs_b3 => ?_)
    refine X_aloadn hK (i := 0) 0 dX10_addStep_13 rfl rfl ?_
    refine X_getK hK fl_X10_18_11 hs_a0 ez1 dX10_addStep_14 ?_
    refine X_iloadn hK (i := 1) 1 dX10_addStep_17 rfl rfl ?_
    refine X_bipush hK dX10_addStep_18 (by decide) ?_
    refine X_iloadn hK (i := 2) 2 dX10_addStep_20 rfl rfl ?_
    refine X_imul hK dX10_addStep_21 ?_
    refine X_iadd hK dX10_addStep_22 ?_
    refine X_bipush hK dX10_addStep_23 (by decide) ?_
    refine X_iloadn hK (i := 3) 3 dX10_addStep_25 rfl rfl ?_
    refine X_imul hK dX10_addStep_26 ?_
    refine X_iadd hK dX10_addStep_27 ?_
    refine X_iast4 hK hs_b3 (by decide) (by decide) sl_14000 (by omega) (by omega) (by omega) (by omega) (by omega) dX10_addStep_28 (fun g4 hg4 => ?_)
    refine X_aloadn hK (i := 0) 0 dX10_addStep_29 rfl rfl ?_
    refine X_dup hK dX10_addStep_30 rfl ?_
    refine X_getK hK fl_X10_18_11 hs_a0 ((xs_a hg4 (xne hs_a0 hs_b3 (by decide))).trans ez1) dX10_addStep_31 ?_
    refine X_iconst hK dX10_addStep_34 ?_
    refine X_iadd hK dX10_addStep_35 ?_
    refine X_puti hK fl_X10_18_11 hs_a0 (by decide) sl_11_2 (by omega) (by omega) dX10_addStep_36 (fun g5 hg5 => ?_)
    exact hret _ _ _ _ _ _ dX10_addStep_39 ⟨rfl, rfl⟩ (Nat.le_refl _) (Nat.le_refl _)

set_option maxHeartbeats 4000000 in
set_option maxRecDepth 100000 in
theorem c_X10_addLine (l : Launch) (D : va_G) (kA : Nat → ClassId) (b0 : Nat) (t0 : Nat → Nat) (S : xT) (g : xG) (a0 : Nat) (x1 : Int) (x2 : Int) (x3 : Int) (hs_a0 : S a0 = some (11, 0)) (hx1 : 0 ≤ x1 ∧ x1 ≤ 5) (hx2 : (-2147483648) ≤ x2 ∧ x2 ≤ 2147483647) (hx3 : 0 ≤ x3 ∧ x3 ≤ 100) : xMt l yX10_addLine cX10_addLine 4 none 0 0 0 0 D kA b0 t0 [(13600, 0), (13700, 0), (13800, 0), (13900, 0), (11, 1)] [.ref a0, .int (iI x1), .int (iI x2), .int (iI x3)] S g (fun (r : Option Value) (S1 : xT) (g1 : xG) => S = S1 ∧ r = none) := by
  refine xEnterV (by decide) (by simp [lg_sl, Value.category]) [(0, .ref a0), (1, .int (iI x1)), (2, .int (iI x2)), (3, .int (iI x3))] rfl ?_
  intro K E hK hret _ _ _
  refine X_aloadn hK (i := 0) 0 dX10_addLine_0 rfl rfl ?_
  refine X_geti hK fl_X10_15_11 hs_a0 sl_11_1 dX10_addLine_1 (fun z1 ez1 lz1 uz1 => ?_)
  refine X_bipush hK dX10_addLine_4 (by decide) ?_
  refine X_icmp_ge hK 62 (by omega) (by omega) dX10_addLine_6 (by decide) (fun c2 => ?_) (fun c2 => ?_)
  · exact hret _ _ _ _ _ _ dX10_addLine_62 ⟨rfl, rfl⟩ (Nat.le_refl _) (Nat.le_refl _)
  · refine X_aloadn hK (i := 0) 0 dX10_addLine_9 rfl rfl ?_
    refine X_getr hK 13600 16 fl_X10_21_11 hs_a0 sl_11_3 dX10_addLine_10 (fun b3 eb3 hs_b3 => ?_)
    refine X_aloadn hK (i := 0) 0 dX10_addLine_13 rfl rfl ?_
    refine X_getK hK fl_X10_15_11 hs_a0 ez1 dX10_addLine_14 ?_
    refine X_iloadn hK (i := 1) 1 dX10_addLine_17 rfl rfl ?_
    refine X_iast hK hs_b3 (by decide) (by decide) sl_13600 (by omega) (by omega) (by omega) (by omega) dX10_addLine_18 (fun g4 hg4 => ?_)
    refine X_aloadn hK (i := 0) 0 dX10_addLine_19 rfl rfl ?_
    refine X_getr hK 13700 16 fl_X10_25_11 hs_a0 sl_11_4 dX10_addLine_20 (fun b5 eb5 hs_b5 => ?_)
    refine X_aloadn hK (i := 0) 0 dX10_addLine_23 rfl rfl ?_
    refine X_getK hK fl_X10_15_11 hs_a0 ((xs_a hg4 (xne hs_a0 hs_b3 (by decide))).trans ez1) dX10_addLine_24 ?_
    refine X_iloadn hK (i := 2) 2 dX10_addLine_27 rfl rfl ?_
    refine X_iast hK hs_b5 (by decide) (by decide) sl_13700 (by omega) (by omega) (by omega) (by omega) dX10_addLine_28 (fun g6 hg6 => ?_)
    refine X_aloadn hK (i := 0) 0 dX10_addLine_29 rfl rfl ?_
    refine X_getr hK 13800 16 fl_X10_28_11 hs_a0 sl_11_5 dX10_addLine_30 (fun b7 eb7 hs_b7 => ?_)
    refine X_aloadn hK (i := 0) 0 dX10_addLine_33 rfl rfl ?_
    refine X_getK hK fl_X10_15_11 hs_a0 ((xs_a hg6 (xne hs_a0 hs_b5 (by decide))).trans ((xs_a hg4 (xne hs_a0 hs_b3 (by decide))).trans ez1)) dX10_addLine_34 ?_
    refine X_iloadn hK (i := 3) 3 dX10_addLine_37 rfl rfl ?_
    refine X_iast hK hs_b7 (by decide) (by decide) sl_13800 (by omega) (by omega) (by omega) (by omega) dX10_addLine_38 (fun g8 hg8 => ?_)
    refine X_aloadn hK (i := 0) 0 dX10_addLine_39 rfl rfl ?_
    refine X_getr hK 13900 16 fl_X10_31_11 hs_a0 sl_11_6 dX10_addLine_40 (fun b9 eb9 hs_b9 => ?_)
    refine X_aloadn hK (i := 0) 0 dX10_addLine_43 rfl rfl ?_
    refine X_getK hK fl_X10_15_11 hs_a0 ((xs_a hg8 (xne hs_a0 hs_b7 (by decide))).trans ((xs_a hg6 (xne hs_a0 hs_b5 (by decide))).trans ((xs_a hg4 (xne hs_a0 hs_b3 (by decide))).trans ez1))) dX10_addLine_44 ?_
    refine X_aloadn hK (i := 0) 0 dX10_addLine_47 rfl rfl ?_
    refine X_geti hK fl_X10_18_11 hs_a0 sl_11_2 dX10_addLine_48 (fun z10 ez10 lz10 uz10 => ?_)
    refine X_iast hK hs_b9 (by decide) (by decide) sl_13900 (by omega) (by omega) (by omega) (by omega) dX10_addLine_51 (fun g11 hg11 => ?_)
    refine X_aloadn hK (i := 0) 0 dX10_addLine_52 rfl rfl ?_
    refine X_dup hK dX10_addLine_53 rfl ?_
    refine X_getK hK fl_X10_15_11 hs_a0 ((xs_a hg11 (xne hs_a0 hs_b9 (by decide))).trans ((xs_a hg8 (xne hs_a0 hs_b7 (by decide))).trans ((xs_a hg6 (xne hs_a0 hs_b5 (by decide))).trans ((xs_a hg4 (xne hs_a0 hs_b3 (by decide))).trans ez1)))) dX10_addLine_54 ?_
    refine X_iconst hK dX10_addLine_57 ?_
    refine X_iadd hK dX10_addLine_58 ?_
    refine X_puti hK fl_X10_15_11 hs_a0 (by decide) sl_11_1 (by omega) (by omega) dX10_addLine_59 (fun g12 hg12 => ?_)
    exact hret _ _ _ _ _ _ dX10_addLine_62 ⟨rfl, rfl⟩ (Nat.le_refl _) (Nat.le_refl _)

set_option maxHeartbeats 4000000 in
set_option maxRecDepth 100000 in
theorem c_X10_holds (l : Launch) (D : va_G) (kA : Nat → ClassId) (b0 : Nat) (t0 : Nat → Nat) (S : xT) (g : xG) (a0 : Nat) (x1 : Int) (a2 : Nat) (hs_a0 : S a0 = some (11, 0)) (hx1 : 0 ≤ x1 ∧ x1 ≤ 15) (hs_a2 : S a2 = some (12000, 12)) : xMt l yX10_holds cX10_holds 7 (some .boolean) 1 0 0 23 D kA b0 t0 [] [.ref a0, .int (iI x1), .ref a2] S g (fun (r : Option Value) (S1 : xT) (g1 : xG) => S = S1 ∧ g = g1 ∧ ∃ z : Int, r = some (.int (iI z)) ∧ 0 ≤ z ∧ z ≤ 1) := by
  refine xEnterZ (by decide) (by simp [lg_sl, Value.category]) [(0, .ref a0), (1, .int (iI x1)), (2, .ref a2)] rfl ?_
  intro K E hK hret _ _ _
  refine X_iconst hK dX10_holds_0 ?_
  refine X_istoren hK (i := 3) [(3, .int (iI 1)), (0, .ref a0), (1, .int (iI x1)), (2, .ref a2)] dX10_holds_1 rfl (by decide) rfl ?_
  refine X_aloadn hK (i := 0) 1 dX10_holds_2 rfl rfl ?_
  refine X_getr hK 13800 16 fl_X10_28_11 hs_a0 sl_11_5 dX10_holds_3 (fun b1 eb1 hs_b1 => ?_)
  refine X_iloadn hK (i := 1) 2 dX10_holds_6 rfl rfl ?_
  refine X_iald hK hs_b1 (by decide) sl_13800 (by omega) (by omega) dX10_holds_7 (fun z2 ez2 lz2 uz2 => ?_)
  refine X_istore hK (i := 4) [(4, .int (iI z2)), (3, .int (iI 1)), (0, .ref a0), (1, .int (iI x1)), (2, .ref a2)] dX10_holds_8 (by decide) rfl ?_
  have P303 : ∀ (nP303 : Nat) (z253 : Int) (_ : 0 ≤ z253) (_ : z253 ≤ 100) (z254 : Int) (_ : (-2147483648) ≤ z254) (_ : z254 ≤ 2147483647) (_ : 116 - z253 < (nP303 : Int)), X K E 10 [(4, .int (iI z253)), (3, .int (iI z254)), (0, .ref a0), (1, .int (iI x1)), (2, .ref a2)] [] S g 0 0 := by
    intro nP303
    induction nP303 with
    | zero => intro z253 lz253 uz253 z254 lz254 uz254 mP303; exact False.elim (by omega)
    | succ nP303 ihP303 =>
      intro z253 lz253 uz253 z254 lz254 uz254 mP303
      refine X_iload hK (i := 4) 0 dX10_holds_10 rfl ?_
      refine X_aloadn hK (i := 0) 2 dX10_holds_12 rfl rfl ?_
      refine X_getr hK 13900 16 fl_X10_31_11 hs_a0 sl_11_6 dX10_holds_13 (fun b304 eb304 hs_b304 => ?_)
      refine X_iloadn hK (i := 1) 3 dX10_holds_16 rfl rfl ?_
      refine X_iald hK hs_b304 (by decide) sl_13900 (by omega) (by omega) dX10_holds_17 (fun z305 ez305 lz305 uz305 => ?_)
      refine X_icmp_ge hK 122 (by omega) (by omega) dX10_holds_18 (by decide) (fun c306 => ?_) (fun c306 => ?_)
      · refine X_iloadn hK (i := 3) 1 dX10_holds_122 rfl rfl ?_
        refine X_iconst hK dX10_holds_123 ?_
        refine X_iand hK dX10_holds_124 (fun z307 ez307 lz307 uz307 => ?_)
        have bz307 := xandB ez307 ⟨lz307, uz307⟩ (by omega)
        refine X_iconst hK dX10_holds_125 ?_
        refine X_icmp_ne hK 133 (by omega) (by omega) dX10_holds_126 (by decide) (fun c308 => ?_) (fun c308 => ?_)
        · refine X_iconst hK dX10_holds_133 ?_
          exact hret _ _ _ _ _ _ _ dX10_holds_134 (by omega) (by omega) ⟨rfl, rfl, 0, rfl, (by omega), (by omega)⟩ (Nat.le_refl _) (Nat.le_refl _)
        · refine X_iconst hK dX10_holds_129 ?_
          refine X_goto hK 134 dX10_holds_130 (by decide) ?_
          exact hret _ _ _ _ _ _ _ dX10_holds_134 (by omega) (by omega) ⟨rfl, rfl, 1, rfl, (by omega), (by omega)⟩ (Nat.le_refl _) (Nat.le_refl _)
      · refine X_aloadn hK (i := 0) 2 dX10_holds_21 rfl rfl ?_
        refine X_getr hK 14000 100 fl_X10_34_11 hs_a0 sl_11_7 dX10_holds_22 (fun b309 eb309 hs_b309 => ?_)
        refine X_iload hK (i := 4) 0 dX10_holds_25 rfl ?_
        refine X_iald4 hK hs_b309 (by decide) sl_14000 (by omega) (by omega) dX10_holds_27 (fun z310 ez310 lz310 uz310 mz310 => ?_)
        refine X_bipush hK dX10_holds_28 (by decide) ?_
        refine X_irem hK (by omega) (by omega) dX10_holds_30 (fun z311 wz311 ez311 fz311 hz311 => ?_)
        have bz311 : 0 ≤ z311 ∧ z311 ≤ 15 := by omega
        refine X_istore hK (i := 5) [(5, .int (iI z311)), (4, .int (iI z253)), (3, .int (iI z254)), (0, .ref a0), (1, .int (iI x1)), (2, .ref a2)] dX10_holds_31 (by decide) rfl ?_
        refine X_iloadn hK (i := 3) 2 dX10_holds_33 rfl rfl ?_
        refine X_iconst hK dX10_holds_34 ?_
        refine X_iand hK dX10_holds_35 (fun z312 ez312 lz312 uz312 => ?_)
        have bz312 := xandB ez312 ⟨lz312, uz312⟩ (by omega)
        refine X_istore hK (i := 6) [(6, .int (iI z312)), (5, .int (iI z311)), (4, .int (iI z253)), (3, .int (iI z254)), (0, .ref a0), (1, .int (iI x1)), (2, .ref a2)] dX10_holds_36 (by decide) rfl ?_
        refine X_iload hK (i := 5) 1 dX10_holds_38 rfl ?_
        refine X_bipush hK dX10_holds_40 (by decide) ?_
        have J333 : ∀ (z332 : Int) (lz332 : (-2147483648) ≤ z332) (uz332 : z332 ≤ 2147483647), X K E 116 [(3, .int (iI z332)), (6, .int (iI z312)), (5, .int (iI z311)), (4, .int (iI z253)), (0, .ref a0), (1, .int (iI x1)), (2, .ref a2)] [] S g 0 0 := by
          intro z332 lz332 uz332
          refine X_iinc hK (i := 4) (z := z253) (n := 1) 3 [(4, .int (iI (z253 + 1))), (3, .int (iI z332)), (6, .int (iI z312)), (5, .int (iI z311)), (0, .ref a0), (1, .int (iI x1)), (2, .ref a2)] dX10_holds_116 rfl (by decide) rfl ?_
          refine X_goto hK 10 dX10_holds_119 (by decide) ?_
          refine X_lv [(4, .int (iI (z253 + 1))), (3, .int (iI z332)), (0, .ref a0), (1, .int (iI x1)), (2, .ref a2)] [0, 1, 4, 5, 6] rfl ?_
          exact ihP303  (z253 + 1) (by omega) (by omega) z332 (by omega) (by omega) (by omega)
        refine X_icmp_ne hK 52 (by omega) (by omega) dX10_holds_42 (by decide) (fun c313 => ?_) (fun c313 => ?_)
        · refine X_iload hK (i := 5) 1 dX10_holds_52 rfl ?_
          refine X_bipush hK dX10_holds_54 (by decide) ?_
          refine X_icmp_ne hK 72 (by omega) (by omega) dX10_holds_56 (by decide) (fun c334 => ?_) (fun c334 => ?_)
          · refine X_iload hK (i := 5) 1 dX10_holds_72 rfl ?_
            refine X_bipush hK dX10_holds_74 (by decide) ?_
            refine X_icmp_ne hK 89 (by omega) (by omega) dX10_holds_76 (by decide) (fun c335 => ?_) (fun c335 => ?_)
            · refine X_iloadn hK (i := 3) 3 dX10_holds_89 rfl rfl ?_
              refine X_iconst hK dX10_holds_90 ?_
              refine X_ishl hK dX10_holds_91 (fun z336 ez336 lz336 uz336 => ?_)
              refine X_aloadn hK (i := 0) 4 dX10_holds_92 rfl rfl ?_
              refine X_getK hK fl_X10_34_11 hs_a0 eb309 dX10_holds_93 ?_
              refine X_iload hK (i := 4) 2 dX10_holds_96 rfl ?_
              refine X_ialdK hK hs_b309 (by decide) (by omega) (by omega) ez310 dX10_holds_98 ?_
              refine X_aloadn hK (i := 2) 6 dX10_holds_99 rfl rfl ?_
              refine X_iload hK (i := 5) 1 dX10_holds_100 rfl ?_
              refine X_iald hK hs_a2 (by decide) sl_12000 (by omega) (by omega) dX10_holds_102 (fun z337 ez337 lz337 uz337 => ?_)
              refine X_callS hK [.int (iI z310), .int (iI z337)] [.int (iI z336)] lk_X10_57 (c_X10_isSo _ _ _ _ _ S g z310 z337 (by omega) (by omega)) dX10_holds_103 rfl rfl (by simp [Value.category]) (by decide) (by decide) (by decide) (by decide) (fun r338 S340 g339 pr338 qr338 hg339 => ?_)
              obtain ⟨rfl, rfl, z341, rfl, lz341, uz341⟩ := pr338
              refine X_st [.int (iI z341), .int (iI z336)] rfl ?_
              have J344 : ∀ (z343 : Int) (lz343 : 0 ≤ z343) (uz343 : z343 ≤ 1), X K E 114 [(6, .int (iI z312)), (5, .int (iI z311)), (4, .int (iI z253)), (3, .int (iI z254)), (0, .ref a0), (1, .int (iI x1)), (2, .ref a2)] [.int (iI z343), .int (iI z336)] S g 0 0 := by
                intro z343 lz343 uz343
                refine X_ior hK dX10_holds_114 (fun z345 ez345 lz345 uz345 => ?_)
                refine X_istoren hK (i := 3) [(3, .int (iI z345)), (6, .int (iI z312)), (5, .int (iI z311)), (4, .int (iI z253)), (0, .ref a0), (1, .int (iI x1)), (2, .ref a2)] dX10_holds_115 rfl (by decide) rfl ?_
                exact J333 z345 (by omega) (by omega)
              refine X_if_eq hK 113 (by omega) dX10_holds_106 (by decide) (fun c342 => ?_) (fun c342 => ?_)
              · refine X_iconst hK dX10_holds_113 ?_
                exact J344 0 (by omega) (by omega)
              · refine X_iconst hK dX10_holds_109 ?_
                refine X_goto hK 114 dX10_holds_110 (by decide) ?_
                exact J344 1 (by omega) (by omega)
            · refine X_iloadn hK (i := 3) 3 dX10_holds_79 rfl rfl ?_
              refine X_iconst hK dX10_holds_80 ?_
              refine X_iushr hK dX10_holds_81 (fun z346 ez346 lz346 uz346 => ?_)
              refine X_iload hK (i := 6) 0 dX10_holds_82 rfl ?_
              refine X_ior hK dX10_holds_84 (fun z347 ez347 lz347 uz347 => ?_)
              refine X_istoren hK (i := 3) [(3, .int (iI z347)), (6, .int (iI z312)), (5, .int (iI z311)), (4, .int (iI z253)), (0, .ref a0), (1, .int (iI x1)), (2, .ref a2)] dX10_holds_85 rfl (by decide) rfl ?_
              refine X_goto hK 116 dX10_holds_86 (by decide) ?_
              exact J333 z347 (by omega) (by omega)
          · refine X_iloadn hK (i := 3) 3 dX10_holds_59 rfl rfl ?_
            refine X_iconst hK dX10_holds_60 ?_
            refine X_iushr hK dX10_holds_61 (fun z348 ez348 lz348 uz348 => ?_)
            refine X_iload hK (i := 6) 0 dX10_holds_62 rfl ?_
            refine X_bipush hK dX10_holds_64 (by decide) ?_
            refine X_ior hK dX10_holds_66 (fun z349 ez349 lz349 uz349 => ?_)
            refine X_iand hK dX10_holds_67 (fun z350 ez350 lz350 uz350 => ?_)
            refine X_istoren hK (i := 3) [(3, .int (iI z350)), (6, .int (iI z312)), (5, .int (iI z311)), (4, .int (iI z253)), (0, .ref a0), (1, .int (iI x1)), (2, .ref a2)] dX10_holds_68 rfl (by decide) rfl ?_
            refine X_goto hK 116 dX10_holds_69 (by decide) ?_
            exact J333 z350 (by omega) (by omega)
        · refine X_iloadn hK (i := 3) 3 dX10_holds_45 rfl rfl ?_
          refine X_iconst hK dX10_holds_46 ?_
          refine X_ixor hK dX10_holds_47 (fun z351 ez351 lz351 uz351 => ?_)
          refine X_istoren hK (i := 3) [(3, .int (iI z351)), (6, .int (iI z312)), (5, .int (iI z311)), (4, .int (iI z253)), (0, .ref a0), (1, .int (iI x1)), (2, .ref a2)] dX10_holds_48 rfl (by decide) rfl ?_
          refine X_goto hK 116 dX10_holds_49 (by decide) ?_
          exact J333 z351 (by omega) (by omega)
  exact P303 ((116 - z2 : Int).toNat + 1) z2 (by omega) (by omega) 1 (by omega) (by omega) (by omega)

set_option maxHeartbeats 4000000 in
set_option maxRecDepth 100000 in
theorem c_X10_lineFor (l : Launch) (D : va_G) (kA : Nat → ClassId) (b0 : Nat) (t0 : Nat → Nat) (S : xT) (g : xG) (a0 : Nat) (x1 : Int) (a2 : Nat) (hs_a0 : S a0 = some (11, 0)) (hx1 : (-2147483648) ≤ x1 ∧ x1 ≤ 2147483647) (hs_a2 : S a2 = some (12000, 12)) : xMt l yX10_lineFor cX10_lineFor 4 (some .int) 2 0 0 49 D kA b0 t0 [] [.ref a0, .int (iI x1), .ref a2] S g (fun (r : Option Value) (S1 : xT) (g1 : xG) => S = S1 ∧ g = g1 ∧ ∃ z : Int, r = some (.int (iI z)) ∧ (-1) ≤ z ∧ z ≤ 15) := by
  refine xEnterI (by decide) (by simp [lg_sl, Value.category]) [(0, .ref a0), (1, .int (iI x1)), (2, .ref a2)] rfl ?_
  intro K E hK hret _ _ _
  refine X_iconst hK dX10_lineFor_0 ?_
  refine X_istoren hK (i := 3) [(3, .int (iI 0)), (0, .ref a0), (1, .int (iI x1)), (2, .ref a2)] dX10_lineFor_1 rfl (by decide) rfl ?_
  have P67 : ∀ (nP67 : Nat) (z56 : Int) (_ : 0 ≤ z56) (_ : z56 ≤ 16) (_ : 32 - z56 < (nP67 : Int)), X K E 2 [(3, .int (iI z56)), (0, .ref a0), (1, .int (iI x1)), (2, .ref a2)] [] S g 0 0 := by
    intro nP67
    induction nP67 with
    | zero => intro z56 lz56 uz56 mP67; exact False.elim (by omega)
    | succ nP67 ihP67 =>
      intro z56 lz56 uz56 mP67
      refine X_iloadn hK (i := 3) 0 dX10_lineFor_2 rfl rfl ?_
      refine X_aloadn hK (i := 0) 1 dX10_lineFor_3 rfl rfl ?_
      refine X_geti hK fl_X10_15_11 hs_a0 sl_11_1 dX10_lineFor_4 (fun z68 ez68 lz68 uz68 => ?_)
      refine X_icmp_ge hK 37 (by omega) (by omega) dX10_lineFor_7 (by decide) (fun c69 => ?_) (fun c69 => ?_)
      · refine X_iconst hK dX10_lineFor_37 ?_
        exact hret _ _ _ _ _ _ _ dX10_lineFor_38 ⟨rfl, rfl, (-1), rfl, (by omega), (by omega)⟩ (Nat.le_refl _) (Nat.le_refl _)
      · refine X_aloadn hK (i := 0) 1 dX10_lineFor_10 rfl rfl ?_
        refine X_getr hK 13600 16 fl_X10_21_11 hs_a0 sl_11_3 dX10_lineFor_11 (fun b70 eb70 hs_b70 => ?_)
        refine X_iloadn hK (i := 3) 0 dX10_lineFor_14 rfl rfl ?_
        refine X_iald hK hs_b70 (by decide) sl_13600 (by omega) (by omega) dX10_lineFor_15 (fun z71 ez71 lz71 uz71 => ?_)
        refine X_iloadn hK (i := 1) 2 dX10_lineFor_16 rfl rfl ?_
        refine X_icmp_ne hK 31 (by omega) (by omega) dX10_lineFor_17 (by decide) (fun c72 => ?_) (fun c72 => ?_)
        · refine X_iinc hK (i := 3) (z := z56) (n := 1) 0 [(3, .int (iI (z56 + 1))), (0, .ref a0), (1, .int (iI x1)), (2, .ref a2)] dX10_lineFor_31 rfl (by decide) rfl ?_
          refine X_goto hK 2 dX10_lineFor_34 (by decide) ?_
          exact ihP67  (z56 + 1) (by omega) (by omega) (by omega)
        · refine X_aloadn hK (i := 0) 1 dX10_lineFor_20 rfl rfl ?_
          refine X_iloadn hK (i := 3) 0 dX10_lineFor_21 rfl rfl ?_
          refine X_aloadn hK (i := 2) 3 dX10_lineFor_22 rfl rfl ?_
          refine X_callV hK [.int (iI z56), .ref a2] [] lk_X10_37 (c_X10_holds _ _ _ _ _ S g a0 z56 a2 hs_a0 (by omega) hs_a2) hs_a0 ⟨by decide, rfl⟩ dX10_lineFor_23 rfl rfl (by simp [Value.category]) (by decide) (by decide) (by decide) (by decide) (fun r73 S75 g74 pr73 qr73 hg74 => ?_)
          obtain ⟨rfl, rfl, z76, rfl, lz76, uz76⟩ := pr73
          refine X_st [.int (iI z76)] rfl ?_
          refine X_if_eq hK 31 (by omega) dX10_lineFor_26 (by decide) (fun c77 => ?_) (fun c77 => ?_)
          · refine X_iinc hK (i := 3) (z := z56) (n := 1) 0 [(3, .int (iI (z56 + 1))), (0, .ref a0), (1, .int (iI x1)), (2, .ref a2)] dX10_lineFor_31 rfl (by decide) rfl ?_
            refine X_goto hK 2 dX10_lineFor_34 (by decide) ?_
            exact ihP67  (z56 + 1) (by omega) (by omega) (by omega)
          · refine X_iloadn hK (i := 3) 0 dX10_lineFor_29 rfl rfl ?_
            exact hret _ _ _ _ _ _ _ dX10_lineFor_30 ⟨rfl, rfl, z56, rfl, (by omega), (by omega)⟩ (Nat.le_refl _) (Nat.le_refl _)
  exact P67 ((32 - 0 : Int).toNat + 1) 0 (by omega) (by omega) (by omega)
