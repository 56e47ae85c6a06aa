
set_option maxHeartbeats 4000000 in
set_option maxRecDepth 100000 in
theorem c3_weather (l : Launch) (D : va_G) (kA : Nat → ClassId) (b0 : Nat) (t0 : Nat → Nat) (S : xT) (g : xG) (a0 : Nat) (n0 : Int) (y0 : Nat) (hs_a0 : S a0 = some (13, 0)) (hn0 : 0 ≤ n0 ∧ n0 ≤ 420) (en0 : g a0 2 = .int (iI n0)) (ey0 : g a0 1 = .ref y0) (hs_y0 : S y0 = some (14100, 420)) : xMt l yX12_weather cX12_weather 3 (some .boolean) 1 0 0 22 D kA b0 t0 [(13, 0), (13, 2), (14700, 0), (13, 17)] [.ref a0] S g (fun (r : Option Value) (S1 : xT) (g1 : xG) => S = S1 ∧ ∃ z : Int, r = some (.int (iI z)) ∧ 0 ≤ z ∧ z ≤ 1 ∧ (g1 a0 2 = .int (iI (0))) ∧ ((z = 1 ↔ 1 ≤ n0 ∧ n0 ≤ 400 ∧ xWk (xv g y0) n0))) := by
  refine xEnterZ (by decide) (by simp [lg_sl, Value.category]) [(0, .ref a0)] rfl ?_
  intro K E hK hret _ _ _
  refine X_aloadn hK (i := 0) 0 dX12_weather_0 rfl rfl ?_
  refine X_iconst hK dX12_weather_1 ?_
  refine X_puti hK fl_X12_198_13 hs_a0 (by decide) sl_13_0 (by omega) (by omega) dX12_weather_2 (fun g1 hg1 => ?_)
  refine X_aloadn hK (i := 0) 0 dX12_weather_5 rfl rfl ?_
  refine X_callV hK [] [] lk_X12_222 (c_X12_take _ _ _ _ _ S g1 a0 n0 hs_a0 (by omega) ((xs_k hg1 (by decide)).trans en0)) hs_a0 ⟨by decide, rfl⟩ dX12_weather_6 rfl rfl (by simp [Value.category]) (by decide) (by decide) (by decide) (by decide) (fun r2 S4 g3 pr2 qr2 hg3 => ?_)
  obtain ⟨rfl, z5, rfl, lz5, uz5, k6, k7⟩ := pr2
  refine X_st [.int (iI z5)] rfl ?_
  refine X_istoren hK (i := 1) [(1, .int (iI z5)), (0, .ref a0)] dX12_weather_9 rfl (by decide) rfl ?_
  refine X_iloadn hK (i := 1) 0 dX12_weather_10 rfl rfl ?_
  refine X_iconst hK dX12_weather_11 ?_
  refine X_sipush hK dX12_weather_12 (by decide) ?_
  refine X_callS hK [.int (iI z5), .int (iI 1), .int (iI 400)] [] lk_X12_211 (c_X12_isIn _ _ _ _ _ S g3 z5 1 400 (by omega) (by omega) (by omega)) dX12_weather_15 rfl rfl (by simp [Value.category]) (by decide) (by decide) (by decide) (by decide) (fun r8 S10 g9 pr8 qr8 hg9 => ?_)
  obtain ⟨rfl, rfl, z11, rfl, lz11, uz11, k12⟩ := pr8
  refine X_st [.int (iI z11)] rfl ?_
  refine X_if_ne hK 23 (by omega) dX12_weather_18 (by decide) (fun c13 => ?_) (fun c13 => ?_)
  · refine X_iconst hK dX12_weather_23 ?_
    refine X_istoren hK (i := 2) [(2, .int (iI 0)), (1, .int (iI z5)), (0, .ref a0)] dX12_weather_24 rfl (by decide) rfl ?_
    have P236 : ∀ (nP236 : Nat) (z205 : Int) (_ : 0 ≤ z205) (_ : z205 ≤ 400) (_ : xWk (xv g3 y0) z205) (_ : 416 - z205 < (nP236 : Int)), X K E 25 [(2, .int (iI z205)), (1, .int (iI z5)), (0, .ref a0)] [] S g3 0 0 := by
      intro nP236
      induction nP236 with
      | zero => intro z205 lz205 uz205 v237 mP236; exact False.elim (by omega)
      | succ nP236 ihP236 =>
        intro z205 lz205 uz205 v237 mP236
        refine X_iloadn hK (i := 2) 0 dX12_weather_25 rfl rfl ?_
        refine X_iloadn hK (i := 1) 1 dX12_weather_26 rfl rfl ?_
        refine X_icmp_ge hK 60 (by omega) (by omega) dX12_weather_27 (by decide) (fun c238 => ?_) (fun c238 => ?_)
        · refine X_iconst hK dX12_weather_60 ?_
          refine X_istoren hK (i := 2) [(2, .int (iI 0)), (1, .int (iI z5)), (0, .ref a0)] dX12_weather_61 rfl (by decide) rfl ?_
          have P313 : ∀ (nP313 : Nat) (g301 : xG) (_ : xM [(14700, 0)] S g3 g301) (z300 : Int) (_ : 0 ≤ z300) (_ : z300 ≤ 400) (_ : 416 - z300 < (nP313 : Int)), X K E 62 [(2, .int (iI z300)), (1, .int (iI z5)), (0, .ref a0)] [] S g301 0 0 := by
            intro nP313
            induction nP313 with
            | zero => intro g301 hg301 z300 lz300 uz300 mP313; exact False.elim (by omega)
            | succ nP313 ihP313 =>
              intro g301 hg301 z300 lz300 uz300 mP313
              refine X_iloadn hK (i := 2) 0 dX12_weather_62 rfl rfl ?_
              refine X_iloadn hK (i := 1) 1 dX12_weather_63 rfl rfl ?_
              refine X_icmp_ge hK 114 (by omega) (by omega) dX12_weather_64 (by decide) (fun c314 => ?_) (fun c314 => ?_)
              · refine X_aloadn hK (i := 0) 2 dX12_weather_114 rfl rfl ?_
                refine X_iloadn hK (i := 1) 1 dX12_weather_115 rfl rfl ?_
                refine X_puti hK fl_X12_226_13 hs_a0 (by decide) sl_13_17 (by omega) (by omega) dX12_weather_116 (fun g315 hg315 => ?_)
                refine X_iconst hK dX12_weather_119 ?_
                exact hret _ _ _ _ _ _ _ dX12_weather_120 (by omega) (by omega) ⟨rfl, 1, rfl, (by omega), (by omega), (((xs_k hg315 (by decide)).trans ((hg301 a0 13 0 2 hs_a0 (by decide)).trans k7)).trans (by congr 2 <;> omega)), ⟨fun _ => ⟨by omega, by omega, (by rw [← (Eq.trans (xv_m hg3 hs_y0 (by decide) (by decide)) (xv_a hg1 (xne hs_y0 hs_a0 (by decide))))]; exact xWk.to v237 (by omega))⟩, fun _ => rfl⟩⟩ (Nat.le_refl _) (Nat.le_refl _)
              · refine X_aloadn hK (i := 0) 2 dX12_weather_67 rfl rfl ?_
                refine X_getr hK 14700 400 fl_X12_32_13 hs_a0 sl_13_10 dX12_weather_68 (fun b316 eb316 hs_b316 => ?_)
                refine X_iloadn hK (i := 2) 0 dX12_weather_71 rfl rfl ?_
                refine X_aloadn hK (i := 0) 2 dX12_weather_72 rfl rfl ?_
                refine X_getK hK fl_X12_7_13 hs_a0 ((hg301 a0 13 0 1 hs_a0 (by decide)).trans ((hg3 a0 13 0 1 hs_a0 (by decide)).trans ((xs_k hg1 (by decide)).trans ey0))) dX12_weather_73 ?_
                refine X_iloadn hK (i := 2) 0 dX12_weather_76 rfl rfl ?_
                refine X_iald hK hs_y0 (by decide) sl_14100 (by omega) (by omega) dX12_weather_77 (fun z317 ez317 lz317 uz317 => ?_)
                have hvz317 := xv_e (j := z300) ez317 (by omega)
                refine X_iconst hK dX12_weather_78 ?_
                refine X_icmp_ge hK 91 (by omega) (by omega) dX12_weather_79 (by decide) (fun c318 => ?_) (fun c318 => ?_)
                · refine X_iloadn hK (i := 2) 0 dX12_weather_91 rfl rfl ?_
                  refine X_if_ne hK 99 (by omega) dX12_weather_92 (by decide) (fun c319 => ?_) (fun c319 => ?_)
                  · refine X_aloadn hK (i := 0) 2 dX12_weather_99 rfl rfl ?_
                    refine X_getK hK fl_X12_32_13 hs_a0 eb316 dX12_weather_100 ?_
                    refine X_iloadn hK (i := 2) 0 dX12_weather_103 rfl rfl ?_
                    refine X_iconst hK dX12_weather_104 ?_
                    refine X_isub hK dX12_weather_105 ?_
                    refine X_iald hK hs_b316 (by decide) sl_14700 (by omega) (by omega) dX12_weather_106 (fun z320 ez320 lz320 uz320 => ?_)
                    refine X_iast hK hs_b316 (by decide) (by decide) sl_14700 (by omega) (by omega) (by omega) (by omega) dX12_weather_107 (fun g321 hg321 => ?_)
                    refine X_iinc hK (i := 2) (z := z300) (n := 1) 0 [(2, .int (iI (z300 + 1))), (1, .int (iI z5)), (0, .ref a0)] dX12_weather_108 rfl (by decide) rfl ?_
                    refine X_goto hK 62 dX12_weather_111 (by decide) ?_
                    exact ihP313  g321 (xM_ua (xM.tr xM.rf xLe.rf hg301 (by decide)) hg321 hs_b316 (by decide) (by decide)) (z300 + 1) (by omega) (by omega) (by omega)
                  · refine X_iconst hK dX12_weather_95 ?_
                    refine X_goto hK 107 dX12_weather_96 (by decide) ?_
                    refine X_iast hK hs_b316 (by decide) (by decide) sl_14700 (by omega) (by omega) (by omega) (by omega) dX12_weather_107 (fun g322 hg322 => ?_)
                    refine X_iinc hK (i := 2) (z := z300) (n := 1) 0 [(2, .int (iI (z300 + 1))), (1, .int (iI z5)), (0, .ref a0)] dX12_weather_108 rfl (by decide) rfl ?_
                    refine X_goto hK 62 dX12_weather_111 (by decide) ?_
                    exact ihP313  g322 (xM_ua (xM.tr xM.rf xLe.rf hg301 (by decide)) hg322 hs_b316 (by decide) (by decide)) (z300 + 1) (by omega) (by omega) (by omega)
                · refine X_aloadn hK (i := 0) 2 dX12_weather_82 rfl rfl ?_
                  refine X_getK hK fl_X12_7_13 hs_a0 ((hg301 a0 13 0 1 hs_a0 (by decide)).trans ((hg3 a0 13 0 1 hs_a0 (by decide)).trans ((xs_k hg1 (by decide)).trans ey0))) dX12_weather_83 ?_
                  refine X_iloadn hK (i := 2) 0 dX12_weather_86 rfl rfl ?_
                  refine X_ialdK hK hs_y0 (by decide) (by omega) (by omega) ez317 dX12_weather_87 ?_
                  have hvx323 := xv_e (j := z300) ez317 (by omega)
                  refine X_goto hK 107 dX12_weather_88 (by decide) ?_
                  refine X_iast hK hs_b316 (by decide) (by decide) sl_14700 (by omega) (by omega) (by omega) (by omega) dX12_weather_107 (fun g324 hg324 => ?_)
                  refine X_iinc hK (i := 2) (z := z300) (n := 1) 0 [(2, .int (iI (z300 + 1))), (1, .int (iI z5)), (0, .ref a0)] dX12_weather_108 rfl (by decide) rfl ?_
                  refine X_goto hK 62 dX12_weather_111 (by decide) ?_
                  exact ihP313  g324 (xM_ua (xM.tr xM.rf xLe.rf hg301 (by decide)) hg324 hs_b316 (by decide) (by decide)) (z300 + 1) (by omega) (by omega) (by omega)
          exact P313 ((416 - 0 : Int).toNat + 1) g3 xM.rf 0 (by omega) (by omega) (by omega)
        · refine X_aloadn hK (i := 0) 2 dX12_weather_30 rfl rfl ?_
          refine X_getK hK fl_X12_7_13 hs_a0 ((hg3 a0 13 0 1 hs_a0 (by decide)).trans ((xs_k hg1 (by decide)).trans ey0)) dX12_weather_31 ?_
          refine X_iloadn hK (i := 2) 0 dX12_weather_34 rfl rfl ?_
          refine X_iald hK hs_y0 (by decide) sl_14100 (by omega) (by omega) dX12_weather_35 (fun z325 ez325 lz325 uz325 => ?_)
          have hvz325 := xv_e (j := z205) ez325 (by omega)
          refine X_iconst hK dX12_weather_36 ?_
          refine X_icmp_lt hK 54 (by omega) (by omega) dX12_weather_37 (by decide) (fun c326 => ?_) (fun c326 => ?_)
          · refine X_iinc hK (i := 2) (z := z205) (n := 1) 0 [(2, .int (iI (z205 + 1))), (1, .int (iI z5)), (0, .ref a0)] dX12_weather_54 rfl (by decide) rfl ?_
            refine X_goto hK 25 dX12_weather_57 (by decide) ?_
            exact ihP236  (z205 + 1) (by omega) (by omega) (xWk.s v237 (xv_e ez325 (by omega)) (by omega)) (by omega)
          · refine X_aloadn hK (i := 0) 2 dX12_weather_40 rfl rfl ?_
            refine X_getK hK fl_X12_7_13 hs_a0 ((hg3 a0 13 0 1 hs_a0 (by decide)).trans ((xs_k hg1 (by decide)).trans ey0)) dX12_weather_41 ?_
            refine X_iloadn hK (i := 2) 0 dX12_weather_44 rfl rfl ?_
            refine X_ialdK hK hs_y0 (by decide) (by omega) (by omega) ez325 dX12_weather_45 ?_
            have hvx327 := xv_e (j := z205) ez325 (by omega)
            refine X_sipush hK dX12_weather_46 (by decide) ?_
            refine X_icmp_eq hK 54 (by omega) (by omega) dX12_weather_49 (by decide) (fun c328 => ?_) (fun c328 => ?_)
            · refine X_iinc hK (i := 2) (z := z205) (n := 1) 0 [(2, .int (iI (z205 + 1))), (1, .int (iI z5)), (0, .ref a0)] dX12_weather_54 rfl (by decide) rfl ?_
              refine X_goto hK 25 dX12_weather_57 (by decide) ?_
              exact ihP236  (z205 + 1) (by omega) (by omega) (xWk.s v237 (xv_e ez325 (by omega)) (by omega)) (by omega)
            · refine X_iconst hK dX12_weather_52 ?_
              exact hret _ _ _ _ _ _ _ dX12_weather_53 (by omega) (by omega) ⟨rfl, 0, rfl, (by omega), (by omega), (k7.trans (by congr 2 <;> omega)), ⟨fun h9 => by omega, fun h9 => by have h8 := h9.2.2 z205 (by omega) (by omega); rw [← (Eq.trans (xv_m hg3 hs_y0 (by decide) (by decide)) (xv_a hg1 (xne hs_y0 hs_a0 (by decide))))] at h8; omega⟩⟩ (Nat.le_refl _) (Nat.le_refl _)
    exact P236 ((416 - 0 : Int).toNat + 1) 0 (by omega) (by omega) xWk.z (by omega)
  · refine X_iconst hK dX12_weather_21 ?_
    exact hret _ _ _ _ _ _ _ dX12_weather_22 (by omega) (by omega) ⟨rfl, 0, rfl, (by omega), (by omega), (k7.trans (by congr 2 <;> omega)), ⟨fun h9 => by omega, fun h9 => by omega⟩⟩ (Nat.le_refl _) (Nat.le_refl _)

set_option maxHeartbeats 4000000 in
set_option maxRecDepth 100000 in
theorem c3_best (l : Launch) (D : va_G) (kA : Nat → ClassId) (b0 : Nat) (t0 : Nat → Nat) (S : xT) (g : xG) (a0 : Nat) (x1 : Int) (x2 : Int) (x3 : Int) (x4 : Int) (x5 : Int) (n0 : Int) (hs_a0 : S a0 = some (13, 0)) (hx1 : (-2147483648) ≤ x1 ∧ x1 ≤ 2147483647) (hx2 : (-2147483648) ≤ x2 ∧ x2 ≤ 2147483647) (hx3 : (-2147483648) ≤ x3 ∧ x3 ≤ 2147483647) (hx4 : (-2147483648) ≤ x4 ∧ x4 ≤ 2147483647) (hx5 : (-2147483648) ≤ x5 ∧ x5 ≤ 2147483647) (hn0 : 0 ≤ n0 ∧ n0 ≤ 420) (en0 : g a0 2 = .int (iI n0)) : xMt l yX12_best cX12_best 19 (some .int) 1 0 0 24 D kA b0 t0 [(13, 0), (13, 2), (13, 70)] [.ref a0, .int (iI x1), .int (iI x2), .int (iI x3), .int (iI x4), .int (iI x5)] S g (fun (r : Option Value) (S1 : xT) (g1 : xG) => S = S1 ∧ ∃ z : Int, r = some (.int (iI z)) ∧ (-1) ≤ z ∧ z ≤ 400 ∧ (g1 a0 2 = .int (iI (0)))) := by
  refine xEnterI (by decide) (by simp [lg_sl, Value.category]) [(0, .ref a0), (1, .int (iI x1)), (2, .int (iI x2)), (3, .int (iI x3)), (4, .int (iI x4)), (5, .int (iI x5))] rfl ?_
  intro K E hK hret _ _ _
  refine X_aloadn hK (i := 0) 0 dX12_best_0 rfl rfl ?_
  refine X_iconst hK dX12_best_1 ?_
  refine X_puti hK fl_X12_198_13 hs_a0 (by decide) sl_13_0 (by omega) (by omega) dX12_best_2 (fun g1 hg1 => ?_)
  refine X_aloadn hK (i := 0) 0 dX12_best_5 rfl rfl ?_
  refine X_callV hK [] [] lk_X12_222 (c_X12_take _ _ _ _ _ S g1 a0 n0 hs_a0 (by omega) ((xs_k hg1 (by decide)).trans en0)) hs_a0 ⟨by decide, rfl⟩ dX12_best_6 rfl rfl (by simp [Value.category]) (by decide) (by decide) (by decide) (by decide) (fun r2 S4 g3 pr2 qr2 hg3 => ?_)
  obtain ⟨rfl, z5, rfl, lz5, uz5, k6, k7⟩ := pr2
  refine X_st [.int (iI z5)] rfl ?_
  refine X_istore hK (i := 6) [(6, .int (iI z5)), (0, .ref a0), (1, .int (iI x1)), (2, .int (iI x2)), (3, .int (iI x3)), (4, .int (iI x4)), (5, .int (iI x5))] dX12_best_9 (by decide) rfl ?_
  refine X_iload hK (i := 6) 0 dX12_best_11 rfl ?_
  refine X_bipush hK dX12_best_13 (by decide) ?_
  refine X_icmp_ne hK 66 (by omega) (by omega) dX12_best_15 (by decide) (fun c8 => ?_) (fun c8 => ?_)
  · refine X_iconst hK dX12_best_66 ?_
    exact hret _ _ _ _ _ _ _ dX12_best_67 ⟨rfl, (-1), rfl, (by omega), (by omega), (k7.trans (by congr 2 <;> omega))⟩ (Nat.le_refl _) (Nat.le_refl _)
  · refine X_iloadn hK (i := 1) 2 dX12_best_18 rfl rfl ?_
    refine X_callS hK [.int (iI x1)] [] lk_X12_219 (c_X12_isCorner _ _ _ _ _ S g3 x1 (by omega)) dX12_best_19 rfl rfl (by simp [Value.category]) (by decide) (by decide) (by decide) (by decide) (fun r9 S11 g10 pr9 qr9 hg10 => ?_)
    obtain ⟨rfl, rfl, z12, rfl, lz12, uz12, k13⟩ := pr9
    refine X_st [.int (iI z12)] rfl ?_
    refine X_if_eq hK 66 (by omega) dX12_best_22 (by decide) (fun c14 => ?_) (fun c14 => ?_)
    · refine X_iconst hK dX12_best_66 ?_
      exact hret _ _ _ _ _ _ _ dX12_best_67 ⟨rfl, (-1), rfl, (by omega), (by omega), (k7.trans (by congr 2 <;> omega))⟩ (Nat.le_refl _) (Nat.le_refl _)
    · refine X_iloadn hK (i := 2) 3 dX12_best_25 rfl rfl ?_
      refine X_callS hK [.int (iI x2)] [] lk_X12_236 (c_X12_isPaper _ _ _ _ _ S g3 x2 (by omega)) dX12_best_26 rfl rfl (by simp [Value.category]) (by decide) (by decide) (by decide) (by decide) (fun r15 S17 g16 pr15 qr15 hg16 => ?_)
      obtain ⟨rfl, rfl, z18, rfl, lz18, uz18, k19⟩ := pr15
      refine X_st [.int (iI z18)] rfl ?_
      refine X_if_eq hK 66 (by omega) dX12_best_29 (by decide) (fun c20 => ?_) (fun c20 => ?_)
      · refine X_iconst hK dX12_best_66 ?_
        exact hret _ _ _ _ _ _ _ dX12_best_67 ⟨rfl, (-1), rfl, (by omega), (by omega), (k7.trans (by congr 2 <;> omega))⟩ (Nat.le_refl _) (Nat.le_refl _)
      · refine X_iloadn hK (i := 3) 4 dX12_best_32 rfl rfl ?_
        refine X_iconst hK dX12_best_33 ?_
        refine X_sipush hK dX12_best_34 (by decide) ?_
        refine X_callS hK [.int (iI x3), .int (iI 0), .int (iI 1000)] [] lk_X12_211 (c_X12_isIn _ _ _ _ _ S g3 x3 0 1000 (by omega) (by omega) (by omega)) dX12_best_37 rfl rfl (by simp [Value.category]) (by decide) (by decide) (by decide) (by decide) (fun r21 S23 g22 pr21 qr21 hg22 => ?_)
        obtain ⟨rfl, rfl, z24, rfl, lz24, uz24, k25⟩ := pr21
        refine X_st [.int (iI z24)] rfl ?_
        refine X_if_eq hK 66 (by omega) dX12_best_40 (by decide) (fun c26 => ?_) (fun c26 => ?_)
        · refine X_iconst hK dX12_best_66 ?_
          exact hret _ _ _ _ _ _ _ dX12_best_67 ⟨rfl, (-1), rfl, (by omega), (by omega), (k7.trans (by congr 2 <;> omega))⟩ (Nat.le_refl _) (Nat.le_refl _)
        · refine X_iload hK (i := 4) 5 dX12_best_43 rfl ?_
          refine X_iconst hK dX12_best_45 ?_
          refine X_sipush hK dX12_best_46 (by decide) ?_
          refine X_callS hK [.int (iI x4), .int (iI 0), .int (iI 1000)] [] lk_X12_211 (c_X12_isIn _ _ _ _ _ S g3 x4 0 1000 (by omega) (by omega) (by omega)) dX12_best_49 rfl rfl (by simp [Value.category]) (by decide) (by decide) (by decide) (by decide) (fun r27 S29 g28 pr27 qr27 hg28 => ?_)
          obtain ⟨rfl, rfl, z30, rfl, lz30, uz30, k31⟩ := pr27
          refine X_st [.int (iI z30)] rfl ?_
          refine X_if_eq hK 66 (by omega) dX12_best_52 (by decide) (fun c32 => ?_) (fun c32 => ?_)
          · refine X_iconst hK dX12_best_66 ?_
            exact hret _ _ _ _ _ _ _ dX12_best_67 ⟨rfl, (-1), rfl, (by omega), (by omega), (k7.trans (by congr 2 <;> omega))⟩ (Nat.le_refl _) (Nat.le_refl _)
          · refine X_iload hK (i := 5) 6 dX12_best_55 rfl ?_
            refine X_iconst hK dX12_best_57 ?_
            refine X_bipush hK dX12_best_58 (by decide) ?_
            refine X_callS hK [.int (iI x5), .int (iI 0), .int (iI 100)] [] lk_X12_211 (c_X12_isIn _ _ _ _ _ S g3 x5 0 100 (by omega) (by omega) (by omega)) dX12_best_60 rfl rfl (by simp [Value.category]) (by decide) (by decide) (by decide) (by decide) (fun r33 S35 g34 pr33 qr33 hg34 => ?_)
            obtain ⟨rfl, rfl, z36, rfl, lz36, uz36, k37⟩ := pr33
            refine X_st [.int (iI z36)] rfl ?_
            refine X_if_ne hK 68 (by omega) dX12_best_63 (by decide) (fun c38 => ?_) (fun c38 => ?_)
            · refine X_iconst hK dX12_best_68 ?_
              refine X_istore hK (i := 7) [(7, .int (iI 0)), (6, .int (iI z5)), (0, .ref a0), (1, .int (iI x1)), (2, .int (iI x2)), (3, .int (iI x3)), (4, .int (iI x4)), (5, .int (iI x5))] dX12_best_69 (by decide) rfl ?_
              have P95639 : ∀ (nP95639 : Nat) (z76520 : Int) (_ : 0 ≤ z76520) (_ : z76520 ≤ 10) (_ : 26 - z76520 < (nP95639 : Int)), X K E 71 [(7, .int (iI z76520)), (6, .int (iI z5)), (0, .ref a0), (1, .int (iI x1)), (2, .int (iI x2)), (3, .int (iI x3)), (4, .int (iI x4)), (5, .int (iI x5))] [] S g3 0 0 := by
                intro nP95639
                induction nP95639 with
                | zero => intro z76520 lz76520 uz76520 mP95639; exact False.elim (by omega)
                | succ nP95639 ihP95639 =>
                  intro z76520 lz76520 uz76520 mP95639
                  refine X_iload hK (i := 7) 0 dX12_best_71 rfl ?_
                  refine X_iload hK (i := 6) 1 dX12_best_73 rfl ?_
                  refine X_icmp_ge hK 98 (by omega) (by omega) dX12_best_75 (by decide) (fun c95640 => ?_) (fun c95640 => ?_)
                  · refine X_iconst hK dX12_best_98 ?_
                    refine X_istore hK (i := 7) [(7, .int (iI 0)), (6, .int (iI z5)), (0, .ref a0), (1, .int (iI x1)), (2, .int (iI x2)), (3, .int (iI x3)), (4, .int (iI x4)), (5, .int (iI x5))] dX12_best_99 (by decide) rfl ?_
                    refine X_lconst hK dX12_best_101 (fun y95641 => ?_)
                    refine X_lstore hK (i := 8) [(8, .long y95641), (7, .int (iI 0)), (6, .int (iI z5)), (0, .ref a0), (1, .int (iI x1)), (2, .int (iI x2)), (3, .int (iI x3)), (4, .int (iI x4)), (5, .int (iI x5))] dX12_best_102 (by decide) rfl ?_
                    refine X_iconst hK dX12_best_104 ?_
                    refine X_istore hK (i := 10) [(10, .int (iI 0)), (8, .long y95641), (7, .int (iI 0)), (6, .int (iI z5)), (0, .ref a0), (1, .int (iI x1)), (2, .int (iI x2)), (3, .int (iI x3)), (4, .int (iI x4)), (5, .int (iI x5))] dX12_best_105 (by decide) rfl ?_
                    have P112344 : ∀ (nP112344 : Nat) (z109931 : Int) (_ : 0 ≤ z109931) (_ : z109931 ≤ 401) (y109932 : Int64) (z109933 : Int) (_ : 0 ≤ z109933) (_ : z109933 ≤ 400) (_ : 417 - z109931 < (nP112344 : Int)), X K E 107 [(10, .int (iI z109931)), (8, .long y109932), (7, .int (iI z109933)), (6, .int (iI z5)), (0, .ref a0), (1, .int (iI x1)), (2, .int (iI x2)), (3, .int (iI x3)), (4, .int (iI x4)), (5, .int (iI x5))] [] S g3 0 0 := by
                      intro nP112344
                      induction nP112344 with
                      | zero => intro z109931 lz109931 uz109931 y109932 z109933 lz109933 uz109933 mP112344; exact False.elim (by omega)
                      | succ nP112344 ihP112344 =>
                        intro z109931 lz109931 uz109931 y109932 z109933 lz109933 uz109933 mP112344
                        refine X_iload hK (i := 10) 0 dX12_best_107 rfl ?_
                        refine X_sipush hK dX12_best_109 (by decide) ?_
                        refine X_icmp_gt hK 269 (by omega) (by omega) dX12_best_112 (by decide) (fun c112345 => ?_) (fun c112345 => ?_)
                        · refine X_aloadn hK (i := 0) 4 dX12_best_269 rfl rfl ?_
                          refine X_lload hK (i := 8) 1 dX12_best_270 rfl ?_
                          refine X_putl hK fl_X12_434_13 hs_a0 (by decide) sl_13_70 dX12_best_272 (fun g112346 hg112346 => ?_)
                          refine X_iload hK (i := 7) 2 dX12_best_275 rfl ?_
                          exact hret _ _ _ _ _ _ _ dX12_best_277 ⟨rfl, z109933, rfl, (by omega), (by omega), (((xs_k hg112346 (by decide)).trans k7).trans (by congr 2 <;> omega))⟩ (Nat.le_refl _) (Nat.le_refl _)
                        · refine X_lconst hK dX12_best_115 (fun y112347 => ?_)
                          refine X_lstore hK (i := 11) [(11, .long y112347), (10, .int (iI z109931)), (8, .long y109932), (7, .int (iI z109933)), (6, .int (iI z5)), (0, .ref a0), (1, .int (iI x1)), (2, .int (iI x2)), (3, .int (iI x3)), (4, .int (iI x4)), (5, .int (iI x5))] dX12_best_116 (by decide) rfl ?_
                          refine X_iconst hK dX12_best_118 ?_
                          refine X_istore hK (i := 13) [(13, .int (iI 0)), (11, .long y112347), (10, .int (iI z109931)), (8, .long y109932), (7, .int (iI z109933)), (6, .int (iI z5)), (0, .ref a0), (1, .int (iI x1)), (2, .int (iI x2)), (3, .int (iI x3)), (4, .int (iI x4)), (5, .int (iI x5))] dX12_best_119 (by decide) rfl ?_
                          have P114643 : ∀ (nP114643 : Nat) (z114260 : Int) (_ : 0 ≤ z114260) (_ : z114260 ≤ 4) (y114261 : Int64) (_ : 20 - z114260 < (nP114643 : Int)), X K E 121 [(13, .int (iI z114260)), (11, .long y114261), (10, .int (iI z109931)), (8, .long y109932), (7, .int (iI z109933)), (6, .int (iI z5)), (0, .ref a0), (1, .int (iI x1)), (2, .int (iI x2)), (3, .int (iI x3)), (4, .int (iI x4)), (5, .int (iI x5))] [] S g3 0 0 := by
                            intro nP114643
                            induction nP114643 with
                            | zero => intro z114260 lz114260 uz114260 y114261 mP114643; exact False.elim (by omega)
                            | succ nP114643 ihP114643 =>
                              intro z114260 lz114260 uz114260 y114261 mP114643
                              refine X_iload hK (i := 13) 0 dX12_best_121 rfl ?_
                              refine X_iconst hK dX12_best_123 ?_
                              refine X_icmp_ge hK 239 (by omega) (by omega) dX12_best_124 (by decide) (fun c114644 => ?_) (fun c114644 => ?_)
                              · refine X_iload hK (i := 10) 2 dX12_best_239 rfl ?_
                                refine X_if_le hK 255 (by omega) dX12_best_241 (by decide) (fun c114645 => ?_) (fun c114645 => ?_)
                                · refine X_lload hK (i := 11) 1 dX12_best_255 rfl ?_
                                  refine X_lstore hK (i := 8) [(8, .long y114261), (13, .int (iI z114260)), (11, .long y114261), (10, .int (iI z109931)), (7, .int (iI z109933)), (6, .int (iI z5)), (0, .ref a0), (1, .int (iI x1)), (2, .int (iI x2)), (3, .int (iI x3)), (4, .int (iI x4)), (5, .int (iI x5))] dX12_best_257 (by decide) rfl ?_
                                  refine X_iload hK (i := 10) 3 dX12_best_259 rfl ?_
                                  refine X_istore hK (i := 7) [(7, .int (iI z109931)), (8, .long y114261), (13, .int (iI z114260)), (11, .long y114261), (10, .int (iI z109931)), (6, .int (iI z5)), (0, .ref a0), (1, .int (iI x1)), (2, .int (iI x2)), (3, .int (iI x3)), (4, .int (iI x4)), (5, .int (iI x5))] dX12_best_261 (by decide) rfl ?_
                                  refine X_iinc hK (i := 10) (z := z109931) (n := 1) 4 [(10, .int (iI (z109931 + 1))), (7, .int (iI z109931)), (8, .long y114261), (13, .int (iI z114260)), (11, .long y114261), (6, .int (iI z5)), (0, .ref a0), (1, .int (iI x1)), (2, .int (iI x2)), (3, .int (iI x3)), (4, .int (iI x4)), (5, .int (iI x5))] dX12_best_263 rfl (by decide) rfl ?_
                                  refine X_goto hK 107 dX12_best_266 (by decide) ?_
                                  refine X_lv [(10, .int (iI (z109931 + 1))), (8, .long y114261), (7, .int (iI z109931)), (6, .int (iI z5)), (0, .ref a0), (1, .int (iI x1)), (2, .int (iI x2)), (3, .int (iI x3)), (4, .int (iI x4)), (5, .int (iI x5))] [0, 2, 1, 5, 6, 7, 8, 9, 10, 11] rfl ?_
                                  exact ihP112344  (z109931 + 1) (by omega) (by omega) y114261 z109931 (by omega) (by omega) (by omega)
                                · refine X_lload hK (i := 11) 1 dX12_best_244 rfl ?_
                                  refine X_lload hK (i := 8) 3 dX12_best_246 rfl ?_
                                  refine X_lcmp hK dX12_best_248 (fun z114646 lz114646 uz114646 => ?_)
                                  refine X_if_gt hK 255 (by omega) dX12_best_249 (by decide) (fun c114647 => ?_) (fun c114647 => ?_)
                                  · refine X_lload hK (i := 11) 1 dX12_best_255 rfl ?_
                                    refine X_lstore hK (i := 8) [(8, .long y114261), (13, .int (iI z114260)), (11, .long y114261), (10, .int (iI z109931)), (7, .int (iI z109933)), (6, .int (iI z5)), (0, .ref a0), (1, .int (iI x1)), (2, .int (iI x2)), (3, .int (iI x3)), (4, .int (iI x4)), (5, .int (iI x5))] dX12_best_257 (by decide) rfl ?_
                                    refine X_iload hK (i := 10) 3 dX12_best_259 rfl ?_
                                    refine X_istore hK (i := 7) [(7, .int (iI z109931)), (8, .long y114261), (13, .int (iI z114260)), (11, .long y114261), (10, .int (iI z109931)), (6, .int (iI z5)), (0, .ref a0), (1, .int (iI x1)), (2, .int (iI x2)), (3, .int (iI x3)), (4, .int (iI x4)), (5, .int (iI x5))] dX12_best_261 (by decide) rfl ?_
                                    refine X_iinc hK (i := 10) (z := z109931) (n := 1) 4 [(10, .int (iI (z109931 + 1))), (7, .int (iI z109931)), (8, .long y114261), (13, .int (iI z114260)), (11, .long y114261), (6, .int (iI z5)), (0, .ref a0), (1, .int (iI x1)), (2, .int (iI x2)), (3, .int (iI x3)), (4, .int (iI x4)), (5, .int (iI x5))] dX12_best_263 rfl (by decide) rfl ?_
                                    refine X_goto hK 107 dX12_best_266 (by decide) ?_
                                    refine X_lv [(10, .int (iI (z109931 + 1))), (8, .long y114261), (7, .int (iI z109931)), (6, .int (iI z5)), (0, .ref a0), (1, .int (iI x1)), (2, .int (iI x2)), (3, .int (iI x3)), (4, .int (iI x4)), (5, .int (iI x5))] [0, 2, 1, 5, 6, 7, 8, 9, 10, 11] rfl ?_
                                    exact ihP112344  (z109931 + 1) (by omega) (by omega) y114261 z109931 (by omega) (by omega) (by omega)
                                  · refine X_goto hK 263 dX12_best_252 (by decide) ?_
                                    refine X_iinc hK (i := 10) (z := z109931) (n := 1) 2 [(10, .int (iI (z109931 + 1))), (13, .int (iI z114260)), (11, .long y114261), (8, .long y109932), (7, .int (iI z109933)), (6, .int (iI z5)), (0, .ref a0), (1, .int (iI x1)), (2, .int (iI x2)), (3, .int (iI x3)), (4, .int (iI x4)), (5, .int (iI x5))] dX12_best_263 rfl (by decide) rfl ?_
                                    refine X_goto hK 107 dX12_best_266 (by decide) ?_
                                    refine X_lv [(10, .int (iI (z109931 + 1))), (8, .long y109932), (7, .int (iI z109933)), (6, .int (iI z5)), (0, .ref a0), (1, .int (iI x1)), (2, .int (iI x2)), (3, .int (iI x3)), (4, .int (iI x4)), (5, .int (iI x5))] [0, 3, 4, 5, 6, 7, 8, 9, 10, 11] rfl ?_
                                    exact ihP112344  (z109931 + 1) (by omega) (by omega) y109932 z109933 (by omega) (by omega) (by omega)
                              · refine X_iconst hK dX12_best_127 ?_
                                refine X_istore hK (i := 14) [(14, .int (iI 0)), (13, .int (iI z114260)), (11, .long y114261), (10, .int (iI z109931)), (8, .long y109932), (7, .int (iI z109933)), (6, .int (iI z5)), (0, .ref a0), (1, .int (iI x1)), (2, .int (iI x2)), (3, .int (iI x3)), (4, .int (iI x4)), (5, .int (iI x5))] dX12_best_128 (by decide) rfl ?_
                                have P114972 : ∀ (nP114972 : Nat) (z114918 : Int) (_ : 0 ≤ z114918) (_ : z114918 ≤ 6) (y114919 : Int64) (_ : 22 - z114918 < (nP114972 : Int)), X K E 130 [(14, .int (iI z114918)), (13, .int (iI z114260)), (11, .long y114919), (10, .int (iI z109931)), (8, .long y109932), (7, .int (iI z109933)), (6, .int (iI z5)), (0, .ref a0), (1, .int (iI x1)), (2, .int (iI x2)), (3, .int (iI x3)), (4, .int (iI x4)), (5, .int (iI x5))] [] S g3 0 0 := by
                                  intro nP114972
                                  induction nP114972 with
                                  | zero => intro z114918 lz114918 uz114918 y114919 mP114972; exact False.elim (by omega)
                                  | succ nP114972 ihP114972 =>
                                    intro z114918 lz114918 uz114918 y114919 mP114972
                                    refine X_iload hK (i := 14) 0 dX12_best_130 rfl ?_
                                    refine X_bipush hK dX12_best_132 (by decide) ?_
                                    refine X_icmp_ge hK 233 (by omega) (by omega) dX12_best_134 (by decide) (fun c114973 => ?_) (fun c114973 => ?_)
                                    · refine X_iinc hK (i := 13) (z := z114260) (n := 1) 1 [(13, .int (iI (z114260 + 1))), (14, .int (iI z114918)), (11, .long y114919), (10, .int (iI z109931)), (8, .long y109932), (7, .int (iI z109933)), (6, .int (iI z5)), (0, .ref a0), (1, .int (iI x1)), (2, .int (iI x2)), (3, .int (iI x3)), (4, .int (iI x4)), (5, .int (iI x5))] dX12_best_233 rfl (by decide) rfl ?_
                                      refine X_goto hK 121 dX12_best_236 (by decide) ?_
                                      refine X_lv [(13, .int (iI (z114260 + 1))), (11, .long y114919), (10, .int (iI z109931)), (8, .long y109932), (7, .int (iI z109933)), (6, .int (iI z5)), (0, .ref a0), (1, .int (iI x1)), (2, .int (iI x2)), (3, .int (iI x3)), (4, .int (iI x4)), (5, .int (iI x5))] [0, 2, 3, 4, 5, 6, 7, 8, 9, 10, 11, 12] rfl ?_
                                      exact ihP114643  (z114260 + 1) (by omega) (by omega) y114919 (by omega)
                                    · refine X_aloadn hK (i := 0) 7 dX12_best_137 rfl rfl ?_
                                      refine X_iloadn hK (i := 1) 8 dX12_best_138 rfl rfl ?_
                                      refine X_iloadn hK (i := 2) 9 dX12_best_139 rfl rfl ?_
                                      refine X_iload hK (i := 13) 1 dX12_best_140 rfl ?_
                                      refine X_iload hK (i := 14) 0 dX12_best_142 rfl ?_
                                      refine X_callV hK [.int (iI x1), .int (iI x2), .int (iI z114260), .int (iI z114918)] [] lk_X12_242 (c_X12_askedOf _ _ _ _ _ S g3 a0 x1 x2 z114260 z114918 hs_a0 (by omega) (by omega) (by omega) (by omega)) hs_a0 ⟨by decide, rfl⟩ dX12_best_144 rfl rfl (by simp [Value.category]) (by decide) (by decide) (by decide) (by decide) (fun r114974 S114976 g114975 pr114974 qr114974 hg114975 => ?_)
                                      obtain ⟨rfl, rfl, z114977, rfl, lz114977, uz114977⟩ := pr114974
                                      refine X_st [.int (iI z114977)] rfl ?_
                                      refine X_istore hK (i := 15) [(15, .int (iI z114977)), (14, .int (iI z114918)), (13, .int (iI z114260)), (11, .long y114919), (10, .int (iI z109931)), (8, .long y109932), (7, .int (iI z109933)), (6, .int (iI z5)), (0, .ref a0), (1, .int (iI x1)), (2, .int (iI x2)), (3, .int (iI x3)), (4, .int (iI x4)), (5, .int (iI x5))] dX12_best_147 (by decide) rfl ?_
                                      refine X_iload hK (i := 10) 4 dX12_best_149 rfl ?_
                                      refine X_iload hK (i := 15) 0 dX12_best_151 rfl ?_
                                      refine X_icmp_ge hK 161 (by omega) (by omega) dX12_best_153 (by decide) (fun c114978 => ?_) (fun c114978 => ?_)
                                      · refine X_iload hK (i := 15) 0 dX12_best_161 rfl ?_
                                        refine X_istore hK (i := 16) [(16, .int (iI z114977)), (15, .int (iI z114977)), (14, .int (iI z114918)), (13, .int (iI z114260)), (11, .long y114919), (10, .int (iI z109931)), (8, .long y109932), (7, .int (iI z109933)), (6, .int (iI z5)), (0, .ref a0), (1, .int (iI x1)), (2, .int (iI x2)), (3, .int (iI x3)), (4, .int (iI x4)), (5, .int (iI x5))] dX12_best_163 (by decide) rfl ?_
                                        refine X_iload hK (i := 4) 13 dX12_best_165 rfl ?_
                                        refine X_i2l hK dX12_best_167 (fun y114979 => ?_)
                                        refine X_iload hK (i := 16) 0 dX12_best_168 rfl ?_
                                        refine X_i2l hK dX12_best_170 (fun y114980 => ?_)
                                        refine X_lmul hK dX12_best_171 (fun y114981 => ?_)
                                        refine X_iload hK (i := 10) 5 dX12_best_172 rfl ?_
                                        refine X_iloadn hK (i := 3) 12 dX12_best_174 rfl rfl ?_
                                        refine X_callS hK [.int (iI z109931), .int (iI x3)] [.long y114981] lk_X12_399 (c_X12_cost _ _ _ _ _ S g3 z109931 x3 (by omega) (by omega)) dX12_best_175 rfl rfl (by simp [Value.category]) (by decide) (by decide) (by decide) (by decide) (fun r114982 S114984 g114983 pr114982 qr114982 hg114983 => ?_)
                                        obtain ⟨rfl, rfl, z114985, rfl, lz114985, uz114985⟩ := pr114982
                                        refine X_st [.int (iI z114985), .long y114981] rfl ?_
                                        refine X_i2l hK dX12_best_178 (fun y114986 => ?_)
                                        refine X_lsub hK dX12_best_179 (fun y114987 => ?_)
                                        refine X_iload hK (i := 10) 5 dX12_best_180 rfl ?_
                                        refine X_iload hK (i := 16) 0 dX12_best_182 rfl ?_
                                        refine X_isub hK dX12_best_184 ?_
                                        refine X_iload hK (i := 5) 14 dX12_best_185 rfl ?_
                                        refine X_imul hK dX12_best_187 ?_
                                        refine X_norm (fun z114988 ez114988 lz114988 uz114988 => ?_)
                                        refine X_bipush hK dX12_best_188 (by decide) ?_
                                        refine X_idiv hK (by omega) (by omega) dX12_best_190 (fun z114989 ez114989 fz114989 => ?_)
                                        have bz114989 : -21474836 ≤ z114989 ∧ z114989 ≤ 21474836 := by omega
                                        refine X_iloadn hK (i := 3) 12 dX12_best_191 rfl rfl ?_
                                        refine X_imul hK dX12_best_192 ?_
                                        refine X_norm (fun z114990 ez114990 lz114990 uz114990 => ?_)
                                        refine X_bipush hK dX12_best_193 (by decide) ?_
                                        refine X_idiv hK (by omega) (by omega) dX12_best_195 (fun z114991 ez114991 fz114991 => ?_)
                                        have bz114991 : -21474836 ≤ z114991 ∧ z114991 ≤ 21474836 := by omega
                                        refine X_i2l hK dX12_best_196 (fun y114992 => ?_)
                                        refine X_ladd hK dX12_best_197 (fun y114993 => ?_)
                                        refine X_lstore hK (i := 17) [(17, .long y114993), (16, .int (iI z114977)), (15, .int (iI z114977)), (14, .int (iI z114918)), (13, .int (iI z114260)), (11, .long y114919), (10, .int (iI z109931)), (8, .long y109932), (7, .int (iI z109933)), (6, .int (iI z5)), (0, .ref a0), (1, .int (iI x1)), (2, .int (iI x2)), (3, .int (iI x3)), (4, .int (iI x4)), (5, .int (iI x5))] dX12_best_198 (by decide) rfl ?_
                                        refine X_lload hK (i := 11) 5 dX12_best_200 rfl ?_
                                        refine X_lload hK (i := 17) 0 dX12_best_202 rfl ?_
                                        refine X_aloadn hK (i := 0) 10 dX12_best_204 rfl rfl ?_
                                        refine X_getr hK 14100 420 fl_X12_7_13 hs_a0 sl_13_1 dX12_best_205 (fun b114994 eb114994 hs_b114994 => ?_)
                                        refine X_iload hK (i := 13) 4 dX12_best_208 rfl ?_
                                        refine X_iald hK hs_b114994 (by decide) sl_14100 (by omega) (by omega) dX12_best_210 (fun z114995 ez114995 lz114995 uz114995 => ?_)
                                        refine X_i2l hK dX12_best_211 (fun y114996 => ?_)
                                        refine X_lmul hK dX12_best_212 (fun y114997 => ?_)
                                        refine X_aloadn hK (i := 0) 10 dX12_best_213 rfl rfl ?_
                                        refine X_getK hK fl_X12_7_13 hs_a0 eb114994 dX12_best_214 ?_
                                        refine X_iconst hK dX12_best_217 ?_
                                        refine X_iload hK (i := 14) 3 dX12_best_218 rfl ?_
                                        refine X_iadd hK dX12_best_220 ?_
                                        refine X_iald hK hs_b114994 (by decide) sl_14100 (by omega) (by omega) dX12_best_221 (fun z114998 ez114998 lz114998 uz114998 => ?_)
                                        refine X_i2l hK dX12_best_222 (fun y114999 => ?_)
                                        refine X_lmul hK dX12_best_223 (fun y115000 => ?_)
                                        refine X_ladd hK dX12_best_224 (fun y115001 => ?_)
                                        refine X_lstore hK (i := 11) [(11, .long y115001), (17, .long y114993), (16, .int (iI z114977)), (15, .int (iI z114977)), (14, .int (iI z114918)), (13, .int (iI z114260)), (10, .int (iI z109931)), (8, .long y109932), (7, .int (iI z109933)), (6, .int (iI z5)), (0, .ref a0), (1, .int (iI x1)), (2, .int (iI x2)), (3, .int (iI x3)), (4, .int (iI x4)), (5, .int (iI x5))] dX12_best_225 (by decide) rfl ?_
                                        refine X_iinc hK (i := 14) (z := z114918) (n := 1) 4 [(14, .int (iI (z114918 + 1))), (11, .long y115001), (17, .long y114993), (16, .int (iI z114977)), (15, .int (iI z114977)), (13, .int (iI z114260)), (10, .int (iI z109931)), (8, .long y109932), (7, .int (iI z109933)), (6, .int (iI z5)), (0, .ref a0), (1, .int (iI x1)), (2, .int (iI x2)), (3, .int (iI x3)), (4, .int (iI x4)), (5, .int (iI x5))] dX12_best_227 rfl (by decide) rfl ?_
                                        refine X_goto hK 130 dX12_best_230 (by decide) ?_
                                        refine X_lv [(14, .int (iI (z114918 + 1))), (13, .int (iI z114260)), (11, .long y115001), (10, .int (iI z109931)), (8, .long y109932), (7, .int (iI z109933)), (6, .int (iI z5)), (0, .ref a0), (1, .int (iI x1)), (2, .int (iI x2)), (3, .int (iI x3)), (4, .int (iI x4)), (5, .int (iI x5))] [0, 5, 1, 6, 7, 8, 9, 10, 11, 12, 13, 14, 15] rfl ?_
                                        exact ihP114972  (z114918 + 1) (by omega) (by omega) y115001 (by omega)
                                      · refine X_iload hK (i := 10) 4 dX12_best_156 rfl ?_
                                        refine X_goto hK 163 dX12_best_158 (by decide) ?_
                                        refine X_istore hK (i := 16) [(16, .int (iI z109931)), (15, .int (iI z114977)), (14, .int (iI z114918)), (13, .int (iI z114260)), (11, .long y114919), (10, .int (iI z109931)), (8, .long y109932), (7, .int (iI z109933)), (6, .int (iI z5)), (0, .ref a0), (1, .int (iI x1)), (2, .int (iI x2)), (3, .int (iI x3)), (4, .int (iI x4)), (5, .int (iI x5))] dX12_best_163 (by decide) rfl ?_
                                        refine X_iload hK (i := 4) 13 dX12_best_165 rfl ?_
                                        refine X_i2l hK dX12_best_167 (fun y115002 => ?_)
                                        refine X_iload hK (i := 16) 0 dX12_best_168 rfl ?_
                                        refine X_i2l hK dX12_best_170 (fun y115003 => ?_)
                                        refine X_lmul hK dX12_best_171 (fun y115004 => ?_)
                                        refine X_iload hK (i := 10) 5 dX12_best_172 rfl ?_
                                        refine X_iloadn hK (i := 3) 12 dX12_best_174 rfl rfl ?_
                                        refine X_callS hK [.int (iI z109931), .int (iI x3)] [.long y115004] lk_X12_399 (c_X12_cost _ _ _ _ _ S g3 z109931 x3 (by omega) (by omega)) dX12_best_175 rfl rfl (by simp [Value.category]) (by decide) (by decide) (by decide) (by decide) (fun r115005 S115007 g115006 pr115005 qr115005 hg115006 => ?_)
                                        obtain ⟨rfl, rfl, z115008, rfl, lz115008, uz115008⟩ := pr115005
                                        refine X_st [.int (iI z115008), .long y115004] rfl ?_
                                        refine X_i2l hK dX12_best_178 (fun y115009 => ?_)
                                        refine X_lsub hK dX12_best_179 (fun y115010 => ?_)
                                        refine X_iload hK (i := 10) 5 dX12_best_180 rfl ?_
                                        refine X_iload hK (i := 16) 0 dX12_best_182 rfl ?_
                                        refine X_isub hK dX12_best_184 ?_
                                        refine X_iload hK (i := 5) 14 dX12_best_185 rfl ?_
                                        refine X_imul hK dX12_best_187 ?_
                                        refine X_norm (fun z115011 ez115011 lz115011 uz115011 => ?_)
                                        refine X_bipush hK dX12_best_188 (by decide) ?_
                                        refine X_idiv hK (by omega) (by omega) dX12_best_190 (fun z115012 ez115012 fz115012 => ?_)
                                        have bz115012 : -21474836 ≤ z115012 ∧ z115012 ≤ 21474836 := by omega
                                        refine X_iloadn hK (i := 3) 12 dX12_best_191 rfl rfl ?_
                                        refine X_imul hK dX12_best_192 ?_
                                        refine X_norm (fun z115013 ez115013 lz115013 uz115013 => ?_)
                                        refine X_bipush hK dX12_best_193 (by decide) ?_
                                        refine X_idiv hK (by omega) (by omega) dX12_best_195 (fun z115014 ez115014 fz115014 => ?_)
                                        have bz115014 : -21474836 ≤ z115014 ∧ z115014 ≤ 21474836 := by omega
                                        refine X_i2l hK dX12_best_196 (fun y115015 => ?_)
                                        refine X_ladd hK dX12_best_197 (fun y115016 => ?_)
                                        refine X_lstore hK (i := 17) [(17, .long y115016), (16, .int (iI z109931)), (15, .int (iI z114977)), (14, .int (iI z114918)), (13, .int (iI z114260)), (11, .long y114919), (10, .int (iI z109931)), (8, .long y109932), (7, .int (iI z109933)), (6, .int (iI z5)), (0, .ref a0), (1, .int (iI x1)), (2, .int (iI x2)), (3, .int (iI x3)), (4, .int (iI x4)), (5, .int (iI x5))] dX12_best_198 (by decide) rfl ?_
                                        refine X_lload hK (i := 11) 5 dX12_best_200 rfl ?_
                                        refine X_lload hK (i := 17) 0 dX12_best_202 rfl ?_
                                        refine X_aloadn hK (i := 0) 10 dX12_best_204 rfl rfl ?_
                                        refine X_getr hK 14100 420 fl_X12_7_13 hs_a0 sl_13_1 dX12_best_205 (fun b115017 eb115017 hs_b115017 => ?_)
                                        refine X_iload hK (i := 13) 4 dX12_best_208 rfl ?_
                                        refine X_iald hK hs_b115017 (by decide) sl_14100 (by omega) (by omega) dX12_best_210 (fun z115018 ez115018 lz115018 uz115018 => ?_)
                                        refine X_i2l hK dX12_best_211 (fun y115019 => ?_)
                                        refine X_lmul hK dX12_best_212 (fun y115020 => ?_)
                                        refine X_aloadn hK (i := 0) 10 dX12_best_213 rfl rfl ?_
                                        refine X_getK hK fl_X12_7_13 hs_a0 eb115017 dX12_best_214 ?_
                                        refine X_iconst hK dX12_best_217 ?_
                                        refine X_iload hK (i := 14) 3 dX12_best_218 rfl ?_
                                        refine X_iadd hK dX12_best_220 ?_
                                        refine X_iald hK hs_b115017 (by decide) sl_14100 (by omega) (by omega) dX12_best_221 (fun z115021 ez115021 lz115021 uz115021 => ?_)
                                        refine X_i2l hK dX12_best_222 (fun y115022 => ?_)
                                        refine X_lmul hK dX12_best_223 (fun y115023 => ?_)
                                        refine X_ladd hK dX12_best_224 (fun y115024 => ?_)
                                        refine X_lstore hK (i := 11) [(11, .long y115024), (17, .long y115016), (16, .int (iI z109931)), (15, .int (iI z114977)), (14, .int (iI z114918)), (13, .int (iI z114260)), (10, .int (iI z109931)), (8, .long y109932), (7, .int (iI z109933)), (6, .int (iI z5)), (0, .ref a0), (1, .int (iI x1)), (2, .int (iI x2)), (3, .int (iI x3)), (4, .int (iI x4)), (5, .int (iI x5))] dX12_best_225 (by decide) rfl ?_
                                        refine X_iinc hK (i := 14) (z := z114918) (n := 1) 4 [(14, .int (iI (z114918 + 1))), (11, .long y115024), (17, .long y115016), (16, .int (iI z109931)), (15, .int (iI z114977)), (13, .int (iI z114260)), (10, .int (iI z109931)), (8, .long y109932), (7, .int (iI z109933)), (6, .int (iI z5)), (0, .ref a0), (1, .int (iI x1)), (2, .int (iI x2)), (3, .int (iI x3)), (4, .int (iI x4)), (5, .int (iI x5))] dX12_best_227 rfl (by decide) rfl ?_
                                        refine X_goto hK 130 dX12_best_230 (by decide) ?_
                                        refine X_lv [(14, .int (iI (z114918 + 1))), (13, .int (iI z114260)), (11, .long y115024), (10, .int (iI z109931)), (8, .long y109932), (7, .int (iI z109933)), (6, .int (iI z5)), (0, .ref a0), (1, .int (iI x1)), (2, .int (iI x2)), (3, .int (iI x3)), (4, .int (iI x4)), (5, .int (iI x5))] [0, 5, 1, 6, 7, 8, 9, 10, 11, 12, 13, 14, 15] rfl ?_
                                        exact ihP114972  (z114918 + 1) (by omega) (by omega) y115024 (by omega)
                                exact P114972 ((22 - 0 : Int).toNat + 1) 0 (by omega) (by omega) y114261 (by omega)
                          exact P114643 ((20 - 0 : Int).toNat + 1) 0 (by omega) (by omega) y112347 (by omega)
                    exact P112344 ((417 - 0 : Int).toNat + 1) 0 (by omega) (by omega) y95641 0 (by omega) (by omega) (by omega)
                  · refine X_aloadn hK (i := 0) 2 dX12_best_78 rfl rfl ?_
                    refine X_getr hK 14100 420 fl_X12_7_13 hs_a0 sl_13_1 dX12_best_79 (fun b115025 eb115025 hs_b115025 => ?_)
                    refine X_iload hK (i := 7) 0 dX12_best_82 rfl ?_
                    refine X_iald hK hs_b115025 (by decide) sl_14100 (by omega) (by omega) dX12_best_84 (fun z115026 ez115026 lz115026 uz115026 => ?_)
                    refine X_bipush hK dX12_best_85 (by decide) ?_
                    refine X_icmp_le hK 92 (by omega) (by omega) dX12_best_87 (by decide) (fun c115027 => ?_) (fun c115027 => ?_)
                    · refine X_iinc hK (i := 7) (z := z76520) (n := 1) 0 [(7, .int (iI (z76520 + 1))), (6, .int (iI z5)), (0, .ref a0), (1, .int (iI x1)), (2, .int (iI x2)), (3, .int (iI x3)), (4, .int (iI x4)), (5, .int (iI x5))] dX12_best_92 rfl (by decide) rfl ?_
                      refine X_goto hK 71 dX12_best_95 (by decide) ?_
                      exact ihP95639  (z76520 + 1) (by omega) (by omega) (by omega)
                    · refine X_iconst hK dX12_best_90 ?_
                      exact hret _ _ _ _ _ _ _ dX12_best_91 ⟨rfl, (-1), rfl, (by omega), (by omega), (k7.trans (by congr 2 <;> omega))⟩ (Nat.le_refl _) (Nat.le_refl _)
              exact P95639 ((26 - 0 : Int).toNat + 1) 0 (by omega) (by omega) (by omega)
            · refine X_iconst hK dX12_best_66 ?_
              exact hret _ _ _ _ _ _ _ dX12_best_67 ⟨rfl, (-1), rfl, (by omega), (by omega), (k7.trans (by congr 2 <;> omega))⟩ (Nat.le_refl _) (Nat.le_refl _)

set_option maxHeartbeats 4000000 in
set_option maxRecDepth 100000 in
theorem c3_strike (l : Launch) (D : va_G) (kA : Nat → ClassId) (b0 : Nat) (t0 : Nat → Nat) (S : xT) (g : xG) (a0 : Nat) (x1 : Int) (x2 : Int) (x3 : Int) (x4 : Int) (x5 : Int) (n0 : Int) (hs_a0 : S a0 = some (13, 0)) (hx1 : (-2147483648) ≤ x1 ∧ x1 ≤ 2147483647) (hx2 : (-2147483648) ≤ x2 ∧ x2 ≤ 2147483647) (hx3 : (-2147483648) ≤ x3 ∧ x3 ≤ 2147483647) (hx4 : (-2147483648) ≤ x4 ∧ x4 ≤ 2147483647) (hx5 : (-2147483648) ≤ x5 ∧ x5 ≤ 2147483647) (hn0 : 0 ≤ n0 ∧ n0 ≤ 420) (en0 : g a0 2 = .int (iI n0)) : xMt l yX12_strike cX12_strike 13 (some .int) 1 0 0 22 D kA b0 t0 [(13, 0), (13, 2), (13, 89), (13, 90)] [.ref a0, .int (iI x1), .int (iI x2), .int (iI x3), .int (iI x4), .int (iI x5)] S g (fun (r : Option Value) (S1 : xT) (g1 : xG) => S = S1 ∧ ∃ z : Int, r = some (.int (iI z)) ∧ (-1) ≤ z ∧ z ≤ 209 ∧ (g1 a0 2 = .int (iI (0)))) := by
  refine xEnterI (by decide) (by simp [lg_sl, Value.category]) [(0, .ref a0), (1, .int (iI x1)), (2, .int (iI x2)), (3, .int (iI x3)), (4, .int (iI x4)), (5, .int (iI x5))] rfl ?_
  intro K E hK hret _ _ _
  refine X_aloadn hK (i := 0) 0 dX12_strike_0 rfl rfl ?_
  refine X_iconst hK dX12_strike_1 ?_
  refine X_puti hK fl_X12_198_13 hs_a0 (by decide) sl_13_0 (by omega) (by omega) dX12_strike_2 (fun g1 hg1 => ?_)
  refine X_aloadn hK (i := 0) 0 dX12_strike_5 rfl rfl ?_
  refine X_callV hK [] [] lk_X12_222 (c_X12_take _ _ _ _ _ S g1 a0 n0 hs_a0 (by omega) ((xs_k hg1 (by decide)).trans en0)) hs_a0 ⟨by decide, rfl⟩ dX12_strike_6 rfl rfl (by simp [Value.category]) (by decide) (by decide) (by decide) (by decide) (fun r2 S4 g3 pr2 qr2 hg3 => ?_)
  obtain ⟨rfl, z5, rfl, lz5, uz5, k6, k7⟩ := pr2
  refine X_st [.int (iI z5)] rfl ?_
  refine X_istore hK (i := 6) [(6, .int (iI z5)), (0, .ref a0), (1, .int (iI x1)), (2, .int (iI x2)), (3, .int (iI x3)), (4, .int (iI x4)), (5, .int (iI x5))] dX12_strike_9 (by decide) rfl ?_
  refine X_iload hK (i := 6) 0 dX12_strike_11 rfl ?_
  refine X_iconst hK dX12_strike_13 ?_
  refine X_irem hK (by omega) (by omega) dX12_strike_14 (fun z8 wz8 ez8 fz8 hz8 => ?_)
  have bz8 : 0 ≤ z8 ∧ z8 ≤ 1 := by omega
  refine X_if_ne hK 68 (by omega) dX12_strike_15 (by decide) (fun c9 => ?_) (fun c9 => ?_)
  · refine X_iconst hK dX12_strike_68 ?_
    exact hret _ _ _ _ _ _ _ dX12_strike_69 ⟨rfl, (-1), rfl, (by omega), (by omega), (k7.trans (by congr 2 <;> omega))⟩ (Nat.le_refl _) (Nat.le_refl _)
  · refine X_iload hK (i := 6) 0 dX12_strike_18 rfl ?_
    refine X_iconst hK dX12_strike_20 ?_
    refine X_idiv hK (by omega) (by omega) dX12_strike_21 (fun z10 ez10 fz10 => ?_)
    have bz10 : 0 ≤ z10 ∧ z10 ≤ 210 := by omega
    refine X_iconst hK dX12_strike_22 ?_
    refine X_bipush hK dX12_strike_23 (by decide) ?_
    refine X_callS hK [.int (iI z10), .int (iI 1), .int (iI 50)] [] lk_X12_211 (c_X12_isIn _ _ _ _ _ S g3 z10 1 50 (by omega) (by omega) (by omega)) dX12_strike_25 rfl rfl (by simp [Value.category]) (by decide) (by decide) (by decide) (by decide) (fun r11 S13 g12 pr11 qr11 hg12 => ?_)
    obtain ⟨rfl, rfl, z14, rfl, lz14, uz14, k15⟩ := pr11
    refine X_st [.int (iI z14)] rfl ?_
    refine X_if_eq hK 68 (by omega) dX12_strike_28 (by decide) (fun c16 => ?_) (fun c16 => ?_)
    · refine X_iconst hK dX12_strike_68 ?_
      exact hret _ _ _ _ _ _ _ dX12_strike_69 ⟨rfl, (-1), rfl, (by omega), (by omega), (k7.trans (by congr 2 <;> omega))⟩ (Nat.le_refl _) (Nat.le_refl _)
    · refine X_iloadn hK (i := 1) 2 dX12_strike_31 rfl rfl ?_
      refine X_callS hK [.int (iI x1)] [] lk_X12_480 (c_X12_isSum _ _ _ _ _ S g3 x1 (by omega)) dX12_strike_32 rfl rfl (by simp [Value.category]) (by decide) (by decide) (by decide) (by decide) (fun r17 S19 g18 pr17 qr17 hg18 => ?_)
      obtain ⟨rfl, rfl, z20, rfl, lz20, uz20, k21⟩ := pr17
      refine X_st [.int (iI z20)] rfl ?_
      refine X_if_eq hK 68 (by omega) dX12_strike_35 (by decide) (fun c22 => ?_) (fun c22 => ?_)
      · refine X_iconst hK dX12_strike_68 ?_
        exact hret _ _ _ _ _ _ _ dX12_strike_69 ⟨rfl, (-1), rfl, (by omega), (by omega), (k7.trans (by congr 2 <;> omega))⟩ (Nat.le_refl _) (Nat.le_refl _)
      · refine X_iloadn hK (i := 2) 3 dX12_strike_38 rfl rfl ?_
        refine X_callS hK [.int (iI x2)] [] lk_X12_480 (c_X12_isSum _ _ _ _ _ S g3 x2 (by omega)) dX12_strike_39 rfl rfl (by simp [Value.category]) (by decide) (by decide) (by decide) (by decide) (fun r23 S25 g24 pr23 qr23 hg24 => ?_)
        obtain ⟨rfl, rfl, z26, rfl, lz26, uz26, k27⟩ := pr23
        refine X_st [.int (iI z26)] rfl ?_
        refine X_if_eq hK 68 (by omega) dX12_strike_42 (by decide) (fun c28 => ?_) (fun c28 => ?_)
        · refine X_iconst hK dX12_strike_68 ?_
          exact hret _ _ _ _ _ _ _ dX12_strike_69 ⟨rfl, (-1), rfl, (by omega), (by omega), (k7.trans (by congr 2 <;> omega))⟩ (Nat.le_refl _) (Nat.le_refl _)
        · refine X_iloadn hK (i := 3) 4 dX12_strike_45 rfl rfl ?_
          refine X_callS hK [.int (iI x3)] [] lk_X12_480 (c_X12_isSum _ _ _ _ _ S g3 x3 (by omega)) dX12_strike_46 rfl rfl (by simp [Value.category]) (by decide) (by decide) (by decide) (by decide) (fun r29 S31 g30 pr29 qr29 hg30 => ?_)
          obtain ⟨rfl, rfl, z32, rfl, lz32, uz32, k33⟩ := pr29
          refine X_st [.int (iI z32)] rfl ?_
          refine X_if_eq hK 68 (by omega) dX12_strike_49 (by decide) (fun c34 => ?_) (fun c34 => ?_)
          · refine X_iconst hK dX12_strike_68 ?_
            exact hret _ _ _ _ _ _ _ dX12_strike_69 ⟨rfl, (-1), rfl, (by omega), (by omega), (k7.trans (by congr 2 <;> omega))⟩ (Nat.le_refl _) (Nat.le_refl _)
          · refine X_iload hK (i := 4) 5 dX12_strike_52 rfl ?_
            refine X_callS hK [.int (iI x4)] [] lk_X12_480 (c_X12_isSum _ _ _ _ _ S g3 x4 (by omega)) dX12_strike_54 rfl rfl (by simp [Value.category]) (by decide) (by decide) (by decide) (by decide) (fun r35 S37 g36 pr35 qr35 hg36 => ?_)
            obtain ⟨rfl, rfl, z38, rfl, lz38, uz38, k39⟩ := pr35
            refine X_st [.int (iI z38)] rfl ?_
            refine X_if_eq hK 68 (by omega) dX12_strike_57 (by decide) (fun c40 => ?_) (fun c40 => ?_)
            · refine X_iconst hK dX12_strike_68 ?_
              exact hret _ _ _ _ _ _ _ dX12_strike_69 ⟨rfl, (-1), rfl, (by omega), (by omega), (k7.trans (by congr 2 <;> omega))⟩ (Nat.le_refl _) (Nat.le_refl _)
            · refine X_iload hK (i := 5) 6 dX12_strike_60 rfl ?_
              refine X_callS hK [.int (iI x5)] [] lk_X12_480 (c_X12_isSum _ _ _ _ _ S g3 x5 (by omega)) dX12_strike_62 rfl rfl (by simp [Value.category]) (by decide) (by decide) (by decide) (by decide) (fun r41 S43 g42 pr41 qr41 hg42 => ?_)
              obtain ⟨rfl, rfl, z44, rfl, lz44, uz44, k45⟩ := pr41
              refine X_st [.int (iI z44)] rfl ?_
              refine X_if_ne hK 70 (by omega) dX12_strike_65 (by decide) (fun c46 => ?_) (fun c46 => ?_)
              · refine X_iloadn hK (i := 1) 2 dX12_strike_70 rfl rfl ?_
                refine X_istore hK (i := 7) [(7, .int (iI x1)), (6, .int (iI z5)), (0, .ref a0), (1, .int (iI x1)), (2, .int (iI x2)), (3, .int (iI x3)), (4, .int (iI x4)), (5, .int (iI x5))] dX12_strike_71 (by decide) rfl ?_
                refine X_iload hK (i := 4) 6 dX12_strike_73 rfl ?_
                refine X_istore hK (i := 8) [(8, .int (iI x4)), (7, .int (iI x1)), (6, .int (iI z5)), (0, .ref a0), (1, .int (iI x1)), (2, .int (iI x2)), (3, .int (iI x3)), (4, .int (iI x4)), (5, .int (iI x5))] dX12_strike_75 (by decide) rfl ?_
                refine X_iconst hK dX12_strike_77 ?_
                refine X_istore hK (i := 9) [(9, .int (iI 0)), (8, .int (iI x4)), (7, .int (iI x1)), (6, .int (iI z5)), (0, .ref a0), (1, .int (iI x1)), (2, .int (iI x2)), (3, .int (iI x3)), (4, .int (iI x4)), (5, .int (iI x5))] dX12_strike_78 (by decide) rfl ?_
                have P196 : ∀ (nP196 : Nat) (z171 : Int) (_ : 0 ≤ z171) (_ : z171 ≤ 210) (z172 : Int) (_ : 0 ≤ z172) (_ : z172 ≤ 100000) (z173 : Int) (_ : 0 ≤ z173) (_ : z173 ≤ 100000) (_ : 226 - z171 < (nP196 : Int)), X K E 80 [(9, .int (iI z171)), (8, .int (iI z172)), (7, .int (iI z173)), (6, .int (iI z5)), (0, .ref a0), (1, .int (iI x1)), (2, .int (iI x2)), (3, .int (iI x3)), (4, .int (iI x4)), (5, .int (iI x5))] [] S g3 0 0 := by
                  intro nP196
                  induction nP196 with
                  | zero => intro z171 lz171 uz171 z172 lz172 uz172 z173 lz173 uz173 mP196; exact False.elim (by omega)
                  | succ nP196 ihP196 =>
                    intro z171 lz171 uz171 z172 lz172 uz172 z173 lz173 uz173 mP196
                    refine X_iload hK (i := 9) 0 dX12_strike_80 rfl ?_
                    refine X_iload hK (i := 6) 3 dX12_strike_82 rfl ?_
                    refine X_iconst hK dX12_strike_84 ?_
                    refine X_idiv hK (by omega) (by omega) dX12_strike_85 (fun z197 ez197 fz197 => ?_)
                    have bz197 : 0 ≤ z197 ∧ z197 ≤ 210 := by omega
                    refine X_icmp_ge hK 204 (by omega) (by omega) dX12_strike_86 (by decide) (fun c198 => ?_) (fun c198 => ?_)
                    · refine X_iconst hK dX12_strike_204 ?_
                      exact hret _ _ _ _ _ _ _ dX12_strike_205 ⟨rfl, (-1), rfl, (by omega), (by omega), (k7.trans (by congr 2 <;> omega))⟩ (Nat.le_refl _) (Nat.le_refl _)
                    · refine X_iload hK (i := 7) 2 dX12_strike_89 rfl ?_
                      refine X_iloadn hK (i := 2) 6 dX12_strike_91 rfl rfl ?_
                      refine X_iload hK (i := 9) 0 dX12_strike_92 rfl ?_
                      refine X_iloadn hK (i := 3) 7 dX12_strike_94 rfl rfl ?_
                      refine X_imul hK dX12_strike_95 ?_
                      have hm199 := xmulB (a := z171) (b := x3) (A := 209) (B := 100000) (by omega) (by omega) (by omega) (by omega)
                      refine X_iadd hK dX12_strike_96 ?_
                      refine X_isub hK dX12_strike_97 ?_
                      refine X_istore hK (i := 7) [(7, .int (iI (z173 - (x2 + (z171 * x3))))), (9, .int (iI z171)), (8, .int (iI z172)), (6, .int (iI z5)), (0, .ref a0), (1, .int (iI x1)), (2, .int (iI x2)), (3, .int (iI x3)), (4, .int (iI x4)), (5, .int (iI x5))] dX12_strike_98 (by decide) rfl ?_
                      refine X_iload hK (i := 8) 2 dX12_strike_100 rfl ?_
                      refine X_iload hK (i := 5) 9 dX12_strike_102 rfl ?_
                      refine X_isub hK dX12_strike_104 ?_
                      refine X_istore hK (i := 8) [(8, .int (iI (z172 - x5))), (7, .int (iI (z173 - (x2 + (z171 * x3))))), (9, .int (iI z171)), (6, .int (iI z5)), (0, .ref a0), (1, .int (iI x1)), (2, .int (iI x2)), (3, .int (iI x3)), (4, .int (iI x4)), (5, .int (iI x5))] dX12_strike_105 (by decide) rfl ?_
                      refine X_aloadn hK (i := 0) 4 dX12_strike_107 rfl rfl ?_
                      refine X_getr hK 14100 420 fl_X12_7_13 hs_a0 sl_13_1 dX12_strike_108 (fun b200 eb200 hs_b200 => ?_)
                      refine X_iconst hK dX12_strike_111 ?_
                      refine X_iload hK (i := 9) 2 dX12_strike_112 rfl ?_
                      refine X_imul hK dX12_strike_114 ?_
                      refine X_iald hK hs_b200 (by decide) sl_14100 (by omega) (by omega) dX12_strike_115 (fun z201 ez201 lz201 uz201 => ?_)
                      refine X_istore hK (i := 10) [(10, .int (iI z201)), (8, .int (iI (z172 - x5))), (7, .int (iI (z173 - (x2 + (z171 * x3))))), (9, .int (iI z171)), (6, .int (iI z5)), (0, .ref a0), (1, .int (iI x1)), (2, .int (iI x2)), (3, .int (iI x3)), (4, .int (iI x4)), (5, .int (iI x5))] dX12_strike_116 (by decide) rfl ?_
                      refine X_aloadn hK (i := 0) 5 dX12_strike_118 rfl rfl ?_
                      refine X_getK hK fl_X12_7_13 hs_a0 eb200 dX12_strike_119 ?_
                      refine X_iconst hK dX12_strike_122 ?_
                      refine X_iload hK (i := 9) 3 dX12_strike_123 rfl ?_
                      refine X_imul hK dX12_strike_125 ?_
                      refine X_iconst hK dX12_strike_126 ?_
                      refine X_iadd hK dX12_strike_127 ?_
                      refine X_iald hK hs_b200 (by decide) sl_14100 (by omega) (by omega) dX12_strike_128 (fun z202 ez202 lz202 uz202 => ?_)
                      refine X_istore hK (i := 11) [(11, .int (iI z202)), (10, .int (iI z201)), (8, .int (iI (z172 - x5))), (7, .int (iI (z173 - (x2 + (z171 * x3))))), (9, .int (iI z171)), (6, .int (iI z5)), (0, .ref a0), (1, .int (iI x1)), (2, .int (iI x2)), (3, .int (iI x3)), (4, .int (iI x4)), (5, .int (iI x5))] dX12_strike_129 (by decide) rfl ?_
                      refine X_iload hK (i := 11) 0 dX12_strike_131 rfl ?_
                      refine X_iload hK (i := 10) 1 dX12_strike_133 rfl ?_
                      refine X_icmp_gt hK 142 (by omega) (by omega) dX12_strike_135 (by decide) (fun c203 => ?_) (fun c203 => ?_)
                      · refine X_iload hK (i := 7) 3 dX12_strike_142 rfl ?_
                        refine X_if_ge hK 151 (by omega) dX12_strike_144 (by decide) (fun c204 => ?_) (fun c204 => ?_)
                        · refine X_iload hK (i := 8) 2 dX12_strike_151 rfl ?_
                          refine X_if_ge hK 160 (by omega) dX12_strike_153 (by decide) (fun c205 => ?_) (fun c205 => ?_)
                          · refine X_iconst hK dX12_strike_160 ?_
                            refine X_istore hK (i := 12) [(12, .int (iI (-1))), (11, .int (iI z202)), (10, .int (iI z201)), (8, .int (iI (z172 - x5))), (7, .int (iI (z173 - (x2 + (z171 * x3))))), (9, .int (iI z171)), (6, .int (iI z5)), (0, .ref a0), (1, .int (iI x1)), (2, .int (iI x2)), (3, .int (iI x3)), (4, .int (iI x4)), (5, .int (iI x5))] dX12_strike_161 (by decide) rfl ?_
                            refine X_iload hK (i := 12) 0 dX12_strike_163 rfl ?_
                            refine X_iconst hK dX12_strike_165 ?_
                            refine X_icmp_ne hK 172 (by omega) (by omega) dX12_strike_166 (by decide) (fun c206 => False.elim (by omega)) (fun c206 => ?_)
                            refine X_goto hK 198 dX12_strike_169 (by decide) ?_
                            refine X_iinc hK (i := 9) (z := z171) (n := 1) 5 [(9, .int (iI (z171 + 1))), (12, .int (iI (-1))), (11, .int (iI z202)), (10, .int (iI z201)), (8, .int (iI (z172 - x5))), (7, .int (iI (z173 - (x2 + (z171 * x3))))), (6, .int (iI z5)), (0, .ref a0), (1, .int (iI x1)), (2, .int (iI x2)), (3, .int (iI x3)), (4, .int (iI x4)), (5, .int (iI x5))] dX12_strike_198 rfl (by decide) rfl ?_
                            refine X_goto hK 80 dX12_strike_201 (by decide) ?_
                            refine X_lv [(9, .int (iI (z171 + 1))), (8, .int (iI (z172 - x5))), (7, .int (iI (z173 - (x2 + (z171 * x3))))), (6, .int (iI z5)), (0, .ref a0), (1, .int (iI x1)), (2, .int (iI x2)), (3, .int (iI x3)), (4, .int (iI x4)), (5, .int (iI x5))] [0, 4, 5, 6, 7, 8, 9, 10, 11, 12] rfl ?_
                            exact ihP196  (z171 + 1) (by omega) (by omega) (z172 - x5) (by omega) (by omega) (z173 - (x2 + (z171 * x3))) (by omega) (by omega) (by omega)
                          · refine X_iconst hK dX12_strike_156 ?_
                            refine X_goto hK 161 dX12_strike_157 (by decide) ?_
                            refine X_istore hK (i := 12) [(12, .int (iI 2)), (11, .int (iI z202)), (10, .int (iI z201)), (8, .int (iI (z172 - x5))), (7, .int (iI (z173 - (x2 + (z171 * x3))))), (9, .int (iI z171)), (6, .int (iI z5)), (0, .ref a0), (1, .int (iI x1)), (2, .int (iI x2)), (3, .int (iI x3)), (4, .int (iI x4)), (5, .int (iI x5))] dX12_strike_161 (by decide) rfl ?_
                            refine X_iload hK (i := 12) 0 dX12_strike_163 rfl ?_
                            refine X_iconst hK dX12_strike_165 ?_
                            refine X_icmp_ne hK 172 (by omega) (by omega) dX12_strike_166 (by decide) (fun c207 => ?_) (fun c207 => False.elim (by omega))
                            refine X_aloadn hK (i := 0) 7 dX12_strike_172 rfl rfl ?_
                            refine X_iload hK (i := 12) 0 dX12_strike_173 rfl ?_
                            refine X_puti hK fl_X12_192_13 hs_a0 (by decide) sl_13_89 (by omega) (by omega) dX12_strike_175 (fun g208 hg208 => ?_)
                            refine X_aloadn hK (i := 0) 7 dX12_strike_178 rfl rfl ?_
                            refine X_iload hK (i := 12) 0 dX12_strike_179 rfl ?_
                            refine X_iconst hK dX12_strike_181 ?_
                            refine X_icmp_ne hK 190 (by omega) (by omega) dX12_strike_182 (by decide) (fun c209 => False.elim (by omega)) (fun c209 => ?_)
                            refine X_iload hK (i := 10) 2 dX12_strike_185 rfl ?_
                            refine X_goto hK 192 dX12_strike_187 (by decide) ?_
                            refine X_puti hK fl_X12_195_13 hs_a0 (by decide) sl_13_90 (by omega) (by omega) dX12_strike_192 (fun g210 hg210 => ?_)
                            refine X_iload hK (i := 9) 5 dX12_strike_195 rfl ?_
                            exact hret _ _ _ _ _ _ _ dX12_strike_197 ⟨rfl, z171, rfl, (by omega), (by omega), (((xs_k hg210 (by decide)).trans ((xs_k hg208 (by decide)).trans k7)).trans (by congr 2 <;> omega))⟩ (Nat.le_refl _) (Nat.le_refl _)
                        · refine X_iconst hK dX12_strike_147 ?_
                          refine X_goto hK 161 dX12_strike_148 (by decide) ?_
                          refine X_istore hK (i := 12) [(12, .int (iI 1)), (11, .int (iI z202)), (10, .int (iI z201)), (8, .int (iI (z172 - x5))), (7, .int (iI (z173 - (x2 + (z171 * x3))))), (9, .int (iI z171)), (6, .int (iI z5)), (0, .ref a0), (1, .int (iI x1)), (2, .int (iI x2)), (3, .int (iI x3)), (4, .int (iI x4)), (5, .int (iI x5))] dX12_strike_161 (by decide) rfl ?_
                          refine X_iload hK (i := 12) 0 dX12_strike_163 rfl ?_
                          refine X_iconst hK dX12_strike_165 ?_
                          refine X_icmp_ne hK 172 (by omega) (by omega) dX12_strike_166 (by decide) (fun c211 => ?_) (fun c211 => False.elim (by omega))
                          refine X_aloadn hK (i := 0) 7 dX12_strike_172 rfl rfl ?_
                          refine X_iload hK (i := 12) 0 dX12_strike_173 rfl ?_
                          refine X_puti hK fl_X12_192_13 hs_a0 (by decide) sl_13_89 (by omega) (by omega) dX12_strike_175 (fun g212 hg212 => ?_)
                          refine X_aloadn hK (i := 0) 7 dX12_strike_178 rfl rfl ?_
                          refine X_iload hK (i := 12) 0 dX12_strike_179 rfl ?_
                          refine X_iconst hK dX12_strike_181 ?_
                          refine X_icmp_ne hK 190 (by omega) (by omega) dX12_strike_182 (by decide) (fun c213 => ?_) (fun c213 => False.elim (by omega))
                          refine X_iload hK (i := 11) 1 dX12_strike_190 rfl ?_
                          refine X_puti hK fl_X12_195_13 hs_a0 (by decide) sl_13_90 (by omega) (by omega) dX12_strike_192 (fun g214 hg214 => ?_)
                          refine X_iload hK (i := 9) 5 dX12_strike_195 rfl ?_
                          exact hret _ _ _ _ _ _ _ dX12_strike_197 ⟨rfl, z171, rfl, (by omega), (by omega), (((xs_k hg214 (by decide)).trans ((xs_k hg212 (by decide)).trans k7)).trans (by congr 2 <;> omega))⟩ (Nat.le_refl _) (Nat.le_refl _)
                      · refine X_iconst hK dX12_strike_138 ?_
                        refine X_goto hK 161 dX12_strike_139 (by decide) ?_
                        refine X_istore hK (i := 12) [(12, .int (iI 0)), (11, .int (iI z202)), (10, .int (iI z201)), (8, .int (iI (z172 - x5))), (7, .int (iI (z173 - (x2 + (z171 * x3))))), (9, .int (iI z171)), (6, .int (iI z5)), (0, .ref a0), (1, .int (iI x1)), (2, .int (iI x2)), (3, .int (iI x3)), (4, .int (iI x4)), (5, .int (iI x5))] dX12_strike_161 (by decide) rfl ?_
                        refine X_iload hK (i := 12) 0 dX12_strike_163 rfl ?_
                        refine X_iconst hK dX12_strike_165 ?_
                        refine X_icmp_ne hK 172 (by omega) (by omega) dX12_strike_166 (by decide) (fun c215 => ?_) (fun c215 => False.elim (by omega))
                        refine X_aloadn hK (i := 0) 7 dX12_strike_172 rfl rfl ?_
                        refine X_iload hK (i := 12) 0 dX12_strike_173 rfl ?_
                        refine X_puti hK fl_X12_192_13 hs_a0 (by decide) sl_13_89 (by omega) (by omega) dX12_strike_175 (fun g216 hg216 => ?_)
                        refine X_aloadn hK (i := 0) 7 dX12_strike_178 rfl rfl ?_
                        refine X_iload hK (i := 12) 0 dX12_strike_179 rfl ?_
                        refine X_iconst hK dX12_strike_181 ?_
                        refine X_icmp_ne hK 190 (by omega) (by omega) dX12_strike_182 (by decide) (fun c217 => ?_) (fun c217 => False.elim (by omega))
                        refine X_iload hK (i := 11) 1 dX12_strike_190 rfl ?_
                        refine X_puti hK fl_X12_195_13 hs_a0 (by decide) sl_13_90 (by omega) (by omega) dX12_strike_192 (fun g218 hg218 => ?_)
                        refine X_iload hK (i := 9) 5 dX12_strike_195 rfl ?_
                        exact hret _ _ _ _ _ _ _ dX12_strike_197 ⟨rfl, z171, rfl, (by omega), (by omega), (((xs_k hg218 (by decide)).trans ((xs_k hg216 (by decide)).trans k7)).trans (by congr 2 <;> omega))⟩ (Nat.le_refl _) (Nat.le_refl _)
                exact P196 ((226 - 0 : Int).toNat + 1) 0 (by omega) (by omega) x4 (by omega) (by omega) x1 (by omega) (by omega) (by omega)
              · refine X_iconst hK dX12_strike_68 ?_
                exact hret _ _ _ _ _ _ _ dX12_strike_69 ⟨rfl, (-1), rfl, (by omega), (by omega), (k7.trans (by congr 2 <;> omega))⟩ (Nat.le_refl _) (Nat.le_refl _)
