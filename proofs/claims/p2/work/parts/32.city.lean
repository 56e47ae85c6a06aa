set_option maxHeartbeats 4000000 in
set_option maxRecDepth 100000 in
theorem c_X3_setSky (l : Launch) (D : va_G) (kA : Nat → ClassId) (b0 : Nat) (t0 : Nat → Nat) (S : xT) (g : xG) (a0 : Nat) (a1 : Nat) (hs_a0 : S a0 = some (4, 0)) (hs_a1 : S a1 = some (10, 0)) : xMt l yX3_setSky cX3_setSky 5 none 0 0 0 0 D kA b0 t0 [(10700, 0)] [.ref a0, .ref a1] S g (fun (r : Option Value) (S1 : xT) (g1 : xG) => S = S1 ∧ r = none) := by
  refine xEnterV (by decide) (by simp [lg_sl, Value.category]) [(0, .ref a0), (1, .ref a1)] rfl ?_
  intro K E hK hret _ _ _
  refine X_iconst hK dX3_setSky_0 ?_
  refine X_istoren hK (i := 2) [(2, .int (iI 0)), (0, .ref a0), (1, .ref a1)] dX3_setSky_1 rfl (by decide) rfl ?_
  refine X_iconst hK dX3_setSky_2 ?_
  refine X_istoren hK (i := 3) [(3, .int (iI 0)), (2, .int (iI 0)), (0, .ref a0), (1, .ref a1)] dX3_setSky_3 rfl (by decide) rfl ?_
  have P102 : ∀ (nP102 : Nat) (g87 : xG) (_ : xM [(10700, 0)] S g g87) (z85 : Int) (_ : 0 ≤ z85) (_ : z85 ≤ 400) (z86 : Int) (_ : 0 ≤ z86) (_ : z86 ≤ 254) (_ : 416 - z85 < (nP102 : Int)), X K E 4 [(3, .int (iI z85)), (2, .int (iI z86)), (0, .ref a0), (1, .ref a1)] [] S g87 0 0 := by
    intro nP102
    induction nP102 with
    | zero => intro g87 hg87 z85 lz85 uz85 z86 lz86 uz86 mP102; exact False.elim (by omega)
    | succ nP102 ihP102 =>
      intro g87 hg87 z85 lz85 uz85 z86 lz86 uz86 mP102
      refine X_iloadn hK (i := 3) 0 dX3_setSky_4 rfl rfl ?_
      refine X_sipush hK dX3_setSky_5 (by decide) ?_
      refine X_icmp_ge hK 64 (by omega) (by omega) dX3_setSky_8 (by decide) (fun c103 => ?_) (fun c103 => ?_)
      · exact hret _ _ _ _ _ _ dX3_setSky_64 ⟨rfl, rfl⟩ (Nat.le_refl _) (Nat.le_refl _)
      · refine X_iloadn hK (i := 3) 0 dX3_setSky_11 rfl rfl ?_
        refine X_aloadn hK (i := 1) 3 dX3_setSky_12 rfl rfl ?_
        refine X_geti hK fl_X3_35_10 hs_a1 sl_10_1 dX3_setSky_13 (fun z104 ez104 lz104 uz104 => ?_)
        have J109 : ∀ (z108 : Int) (lz108 : 0 ≤ z108) (uz108 : z108 ≤ 255), X K E 29 [(3, .int (iI z85)), (2, .int (iI z86)), (0, .ref a0), (1, .ref a1)] [.int (iI z108)] S g87 0 0 := by
          intro z108 lz108 uz108
          refine X_istore hK (i := 4) [(4, .int (iI z108)), (3, .int (iI z85)), (2, .int (iI z86)), (0, .ref a0), (1, .ref a1)] dX3_setSky_29 (by decide) rfl ?_
          refine X_aloadn hK (i := 0) 3 dX3_setSky_31 rfl rfl ?_
          refine X_getr hK 10700 400 fl_X3_9_4 hs_a0 sl_4_0 dX3_setSky_32 (fun b110 eb110 hs_b110 => ?_)
          refine X_iloadn hK (i := 3) 1 dX3_setSky_35 rfl rfl ?_
          refine X_iload hK (i := 4) 0 dX3_setSky_36 rfl ?_
          refine X_sipush hK dX3_setSky_38 (by decide) ?_
          have J113 : ∀ (z112 : Int) (lz112 : 0 ≤ z112) (uz112 : z112 ≤ 254), X K E 50 [(4, .int (iI z108)), (3, .int (iI z85)), (2, .int (iI z86)), (0, .ref a0), (1, .ref a1)] [.int (iI z112), .int (iI z85), .ref b110] S g87 0 0 := by
            intro z112 lz112 uz112
            refine X_iast hK hs_b110 (by decide) (by decide) sl_10700 (by omega) (by omega) (by omega) (by omega) dX3_setSky_50 (fun g114 hg114 => ?_)
            refine X_aloadn hK (i := 0) 3 dX3_setSky_51 rfl rfl ?_
            refine X_getK hK fl_X3_9_4 hs_a0 ((xs_a hg114 (xne hs_a0 hs_b110 (by decide))).trans eb110) dX3_setSky_52 ?_
            refine X_iloadn hK (i := 3) 1 dX3_setSky_55 rfl rfl ?_
            refine X_ialdK hK hs_b110 (by decide) (by omega) (by omega) (xs_s hg114) dX3_setSky_56 ?_
            refine X_istoren hK (i := 2) [(2, .int (iI z112)), (4, .int (iI z108)), (3, .int (iI z85)), (0, .ref a0), (1, .ref a1)] dX3_setSky_57 rfl (by decide) rfl ?_
            refine X_iinc hK (i := 3) (z := z85) (n := 1) 2 [(3, .int (iI (z85 + 1))), (2, .int (iI z112)), (4, .int (iI z108)), (0, .ref a0), (1, .ref a1)] dX3_setSky_58 rfl (by decide) rfl ?_
            refine X_goto hK 4 dX3_setSky_61 (by decide) ?_
            refine X_lv [(3, .int (iI (z85 + 1))), (2, .int (iI z112)), (0, .ref a0), (1, .ref a1)] [0, 1, 3, 4] rfl ?_
            exact ihP102  g114 (xM_ua (xM.tr xM.rf xLe.rf hg87 (by decide)) hg114 hs_b110 (by decide) (by decide)) (z85 + 1) (by omega) (by omega) z112 (by omega) (by omega) (by omega)
          refine X_icmp_ne hK 48 (by omega) (by omega) dX3_setSky_41 (by decide) (fun c111 => ?_) (fun c111 => ?_)
          · refine X_iload hK (i := 4) 0 dX3_setSky_48 rfl ?_
            exact J113 z108 (by omega) (by omega)
          · refine X_iloadn hK (i := 2) 2 dX3_setSky_44 rfl rfl ?_
            refine X_goto hK 50 dX3_setSky_45 (by decide) ?_
            exact J113 z86 (by omega) (by omega)
        refine X_icmp_ge hK 28 (by omega) (by omega) dX3_setSky_16 (by decide) (fun c105 => ?_) (fun c105 => ?_)
        · refine X_iconst hK dX3_setSky_28 ?_
          exact J109 3 (by omega) (by omega)
        · refine X_aloadn hK (i := 1) 3 dX3_setSky_19 rfl rfl ?_
          refine X_getr hK 13500 420 fl_X3_41_10 hs_a1 sl_10_0 dX3_setSky_20 (fun b115 eb115 hs_b115 => ?_)
          refine X_iloadn hK (i := 3) 0 dX3_setSky_23 rfl rfl ?_
          refine X_iald hK hs_b115 (by decide) sl_13500 (by omega) (by omega) dX3_setSky_24 (fun z116 ez116 lz116 uz116 => ?_)
          refine X_goto hK 29 dX3_setSky_25 (by decide) ?_
          exact J109 z116 (by omega) (by omega)
  exact P102 ((416 - 0 : Int).toNat + 1) g xM.rf 0 (by omega) (by omega) 0 (by omega) (by omega) (by omega)

set_option maxHeartbeats 4000000 in
set_option maxRecDepth 100000 in
theorem c_X3_askedFor (l : Launch) (D : va_G) (kA : Nat → ClassId) (b0 : Nat) (t0 : Nat → Nat) (S : xT) (g : xG) (a0 : Nat) (x1 : Int) (x2 : Int) (x3 : Int) (x4 : Int) (hs_a0 : S a0 = some (4, 0)) (hx1 : 0 ≤ x1 ∧ x1 ≤ 9) (hx2 : 0 ≤ x2 ∧ x2 ≤ 3) (hx3 : 0 ≤ x3 ∧ x3 ≤ 3) (hx4 : 0 ≤ x4 ∧ x4 ≤ 5) : xMt l yX3_askedFor cX3_askedFor 6 (some .int) 0 0 0 0 D kA b0 t0 [] [.ref a0, .int (iI x1), .int (iI x2), .int (iI x3), .int (iI x4)] S g (fun (r : Option Value) (S1 : xT) (g1 : xG) => S = S1 ∧ g = g1 ∧ ∃ z : Int, r = some (.int (iI z)) ∧ 0 ≤ z ∧ z ≤ 3600) := by
  refine xEnterI (by decide) (by simp [lg_sl, Value.category]) [(0, .ref a0), (1, .int (iI x1)), (2, .int (iI x2)), (3, .int (iI x3)), (4, .int (iI x4))] rfl ?_
  intro K E hK hret _ _ _
  refine X_aloadn hK (i := 0) 0 dX3_askedFor_0 rfl rfl ?_
  refine X_getr hK 11304 10 fl_X3_26_4 hs_a0 sl_4_4 dX3_askedFor_1 (fun b1 eb1 hs_b1 => ?_)
  refine X_iloadn hK (i := 1) 1 dX3_askedFor_4 rfl rfl ?_
  refine X_aald hK 11200 4 hs_b1 (by decide) sl_11304 (by omega) (by omega) dX3_askedFor_5 (fun b2 eb2 hs_b2 => ?_)
  refine X_iloadn hK (i := 2) 2 dX3_askedFor_6 rfl rfl ?_
  refine X_iald hK hs_b2 (by decide) sl_11200 (by omega) (by omega) dX3_askedFor_7 (fun z3 ez3 lz3 uz3 => ?_)
  refine X_aloadn hK (i := 0) 0 dX3_askedFor_8 rfl rfl ?_
  refine X_getr hK 11000 4 fl_X3_20_4 hs_a0 sl_4_2 dX3_askedFor_9 (fun b4 eb4 hs_b4 => ?_)
  refine X_iloadn hK (i := 3) 3 dX3_askedFor_12 rfl rfl ?_
  refine X_iald hK hs_b4 (by decide) sl_11000 (by omega) (by omega) dX3_askedFor_13 (fun z5 ez5 lz5 uz5 => ?_)
  refine X_imul hK dX3_askedFor_14 ?_
  have hm6 := xmulB (a := z3) (b := z5) (A := 400) (B := 300) (by omega) (by omega) (by omega) (by omega)
  refine X_bipush hK dX3_askedFor_15 (by decide) ?_
  refine X_idiv hK (by omega) (by omega) dX3_askedFor_17 (fun z7 ez7 fz7 => ?_)
  have bz7 : 0 ≤ z7 ∧ z7 ≤ 1200 := by omega
  refine X_istore hK (i := 5) [(5, .int (iI z7)), (0, .ref a0), (1, .int (iI x1)), (2, .int (iI x2)), (3, .int (iI x3)), (4, .int (iI x4))] dX3_askedFor_18 (by decide) rfl ?_
  refine X_iload hK (i := 5) 0 dX3_askedFor_20 rfl ?_
  refine X_aloadn hK (i := 0) 1 dX3_askedFor_22 rfl rfl ?_
  refine X_getr hK 11100 6 fl_X3_23_4 hs_a0 sl_4_3 dX3_askedFor_23 (fun b8 eb8 hs_b8 => ?_)
  refine X_iload hK (i := 4) 5 dX3_askedFor_26 rfl ?_
  refine X_iald hK hs_b8 (by decide) sl_11100 (by omega) (by omega) dX3_askedFor_28 (fun z9 ez9 lz9 uz9 => ?_)
  refine X_imul hK dX3_askedFor_29 ?_
  have hm10 := xmulB (a := z7) (b := z9) (A := 1200) (B := 300) (by omega) (by omega) (by omega) (by omega)
  refine X_bipush hK dX3_askedFor_30 (by decide) ?_
  refine X_idiv hK (by omega) (by omega) dX3_askedFor_32 (fun z11 ez11 fz11 => ?_)
  have bz11 : 0 ≤ z11 ∧ z11 ≤ 3600 := by omega
  exact hret _ _ _ _ _ _ _ dX3_askedFor_33 ⟨rfl, rfl, z11, rfl, (by omega), (by omega)⟩ (Nat.le_refl _) (Nat.le_refl _)

set_option maxHeartbeats 4000000 in
set_option maxRecDepth 100000 in
theorem c_X3_askedOn (l : Launch) (D : va_G) (kA : Nat → ClassId) (b0 : Nat) (t0 : Nat → Nat) (S : xT) (g : xG) (a0 : Nat) (x1 : Int) (x2 : Int) (x3 : Int) (hs_a0 : S a0 = some (4, 0)) (hx1 : 0 ≤ x1 ∧ x1 ≤ 399) (hx2 : 0 ≤ x2 ∧ x2 ≤ 9) (hx3 : 0 ≤ x3 ∧ x3 ≤ 3) : xMt l yX3_askedOn cX3_askedOn 4 (some .int) 1 0 0 25 D kA b0 t0 [] [.ref a0, .int (iI x1), .int (iI x2), .int (iI x3)] S g (fun (r : Option Value) (S1 : xT) (g1 : xG) => S = S1 ∧ g = g1 ∧ ∃ z : Int, r = some (.int (iI z)) ∧ 0 ≤ z ∧ z ≤ 3600) := by
  refine xEnterI (by decide) (by simp [lg_sl, Value.category]) [(0, .ref a0), (1, .int (iI x1)), (2, .int (iI x2)), (3, .int (iI x3))] rfl ?_
  intro K E hK hret _ _ _
  refine X_aloadn hK (i := 0) 0 dX3_askedOn_0 rfl rfl ?_
  refine X_iloadn hK (i := 2) 2 dX3_askedOn_1 rfl rfl ?_
  refine X_iloadn hK (i := 3) 3 dX3_askedOn_2 rfl rfl ?_
  refine X_aloadn hK (i := 0) 0 dX3_askedOn_3 rfl rfl ?_
  refine X_getr hK 10700 400 fl_X3_9_4 hs_a0 sl_4_0 dX3_askedOn_4 (fun b1 eb1 hs_b1 => ?_)
  refine X_iloadn hK (i := 1) 1 dX3_askedOn_7 rfl rfl ?_
  refine X_iald hK hs_b1 (by decide) sl_10700 (by omega) (by omega) dX3_askedOn_8 (fun z2 ez2 lz2 uz2 => ?_)
  refine X_aloadn hK (i := 0) 0 dX3_askedOn_9 rfl rfl ?_
  refine X_getr hK 10904 4 fl_X3_17_4 hs_a0 sl_4_1 dX3_askedOn_10 (fun b3 eb3 hs_b3 => ?_)
  refine X_iloadn hK (i := 3) 3 dX3_askedOn_13 rfl rfl ?_
  refine X_aald hK 10800 400 hs_b3 (by decide) sl_10904 (by omega) (by omega) dX3_askedOn_14 (fun b4 eb4 hs_b4 => ?_)
  refine X_iloadn hK (i := 1) 1 dX3_askedOn_15 rfl rfl ?_
  refine X_iald hK hs_b4 (by decide) sl_10800 (by omega) (by omega) dX3_askedOn_16 (fun z5 ez5 lz5 uz5 => ?_)
  refine X_callV hK [.int (iI x2), .int (iI x3), .int (iI z2), .int (iI z5)] [] lk_X3_44 (c_X3_askedFor _ _ _ _ _ S g a0 x2 x3 z2 z5 hs_a0 (by omega) (by omega) (by omega) (by omega)) hs_a0 ⟨by decide, rfl⟩ dX3_askedOn_17 rfl rfl (by simp [Value.category]) (by decide) (by decide) (by decide) (by decide) (fun r6 S8 g7 pr6 qr6 hg7 => ?_)
  obtain ⟨rfl, rfl, z9, rfl, lz9, uz9⟩ := pr6
  refine X_st [.int (iI z9)] rfl ?_
  exact hret _ _ _ _ _ _ _ dX3_askedOn_20 ⟨rfl, rfl, z9, rfl, (by omega), (by omega)⟩ (Nat.le_refl _) (Nat.le_refl _)
