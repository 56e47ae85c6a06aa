
set_option maxHeartbeats 4000000 in
set_option maxRecDepth 100000 in
theorem c3_weather (l : Launch) (D : va_G) (kA : Nat → ClassId) (b0 : Nat) (t0 : Nat → Nat) (S : xT) (g : xG) (a0 : Nat) (n0 : Int) (y0 : Nat) (sm : Int) (ms : Nat) (hs_a0 : S a0 = some (13, 0)) (hn0 : 0 ≤ n0 ∧ n0 ≤ 420) (en0 : g a0 2 = .int (iI n0)) (ey0 : g a0 1 = .ref y0) (hs_y0 : S y0 = some (14100, 420)) (hsm : 0 ≤ sm ∧ sm ≤ 400) (esm : g a0 17 = .int (iI sm)) (ems : g a0 10 = .ref ms) (hs_ms : S ms = some (14700, 400)) : xMt l yX12_weather cX12_weather 3 (some .boolean) 1 0 0 22 D kA b0 t0 [(13, 0), (13, 2), (14700, 0), (13, 17)] [.ref a0] S g (fun (r : Option Value) (S1 : xT) (g1 : xG) => S = S1 ∧ ∃ z : Int, r = some (.int (iI z)) ∧ 0 ≤ z ∧ z ≤ 1 ∧ (g1 a0 2 = .int (iI (0))) ∧ ((z = 1 ↔ 1 ≤ n0 ∧ n0 ≤ 400 ∧ xWk (xv g y0) n0)) ∧ ((z = 1 → g1 a0 17 = .int (iI n0) ∧ xSky (xv g1 ms) (xv g y0) n0 n0) ∧ (z ≠ 1 → g1 a0 17 = .int (iI sm) ∧ xv g1 ms = xv g ms))) := by
  refine xEnterZ (by decide) (by simp [lg_sl, Value.category]) [(0, .ref a0)] rfl ?_
  intro K E hK hret _ _ _
  refine X_aloadn hK (i := 0) 0 kd28_152.2.1 rfl rfl ?_
  refine X_iconst hK kd28_152.2.2.1 ?_
  refine X_puti hK fl_X12_198_13 hs_a0 (by decide) sl_13_0 (by omega) (by omega) kd28_152.2.2.2.1 (fun g1 hg1 => ?_)
  refine X_aloadn hK (i := 0) 0 kd28_152.2.2.2.2.1 rfl rfl ?_
  refine X_callV hK [] [] lk_X12_222 (c_X12_take _ _ _ _ _ S g1 a0 n0 hs_a0 (by omega) ((xs_k hg1 (by decide)).trans en0)) hs_a0 ⟨by decide, rfl⟩ kd28_152.2.2.2.2.2.1 rfl rfl (by simp [Value.category]) (by decide) (by decide) (by decide) (by decide) (fun r2 S4 g3 pr2 qr2 hg3 => ?_)
  obtain ⟨rfl, z5, rfl, lz5, uz5, k6, k7⟩ := pr2
  refine X_st [.int (iI z5)] rfl ?_
  refine X_istoren hK (i := 1) [(1, .int (iI z5)), (0, .ref a0)] kd28_152.2.2.2.2.2.2.1 rfl (by decide) rfl ?_
  refine X_iloadn hK (i := 1) 0 kd28_152.2.2.2.2.2.2.2.1 rfl rfl ?_
  refine X_iconst hK kd28_152.2.2.2.2.2.2.2.2.1 ?_
  refine X_sipush hK kd28_152.2.2.2.2.2.2.2.2.2.1 (by decide) ?_
  refine X_callS hK [.int (iI z5), .int (iI 1), .int (iI 400)] [] lk_X12_211 (c_X12_isIn _ _ _ _ _ S g3 z5 1 400 (by omega) (by omega) (by omega)) kd28_152.2.2.2.2.2.2.2.2.2.2.1 rfl rfl (by simp [Value.category]) (by decide) (by decide) (by decide) (by decide) (fun r8 S10 g9 pr8 qr8 hg9 => ?_)
  obtain ⟨rfl, rfl, z11, rfl, lz11, uz11, k12⟩ := pr8
  refine X_st [.int (iI z11)] rfl ?_
  refine X_if_ne hK 23 (by omega) kd28_152.2.2.2.2.2.2.2.2.2.2.2 (by decide) (fun c13 => ?_) (fun c13 => ?_)
  · refine X_iconst hK kd28_153.2.2.1 ?_
    refine X_istoren hK (i := 2) [(2, .int (iI 0)), (1, .int (iI z5)), (0, .ref a0)] kd28_153.2.2.2.1 rfl (by decide) rfl ?_
    have P226 : ∀ (nP226 : Nat) (z196 : Int) (_ : 0 ≤ z196) (_ : z196 ≤ 400) (_ : xWk (xv g3 y0) z196) (_ : 416 - z196 < (nP226 : Int)), X K E 25 [(2, .int (iI z196)), (1, .int (iI z5)), (0, .ref a0)] [] S g3 0 0 := by
      intro nP226
      induction nP226 with
      | zero => intro z196 lz196 uz196 v227 mP226; exact False.elim (by omega)
      | succ nP226 ihP226 =>
        intro z196 lz196 uz196 v227 mP226
        refine X_iloadn hK (i := 2) 0 kd28_153.2.2.2.2.1 rfl rfl ?_
        refine X_iloadn hK (i := 1) 1 kd28_153.2.2.2.2.2.1 rfl rfl ?_
        refine X_icmp_ge hK 60 (by omega) (by omega) kd28_153.2.2.2.2.2.2.1 (by decide) (fun c228 => ?_) (fun c228 => ?_)
        · refine X_iconst hK kd28_154.2.2.2.2.2.2.2.2.2.2.2 ?_
          have hWK : xWk (xv g y0) n0 := (by rw [← (Eq.trans (xv_m hg3 hs_y0 (by decide) (by decide)) (xv_a hg1 (xne hs_y0 hs_a0 (by decide))))]; exact xWk.to v227 (by omega))
          refine X_istoren hK (i := 2) [(2, .int (iI 0)), (1, .int (iI z5)), (0, .ref a0)] kd28_155.1 rfl (by decide) rfl ?_
          have P297 : ∀ (nP297 : Nat) (g286 : xG) (_ : xM [(14700, 0)] S g3 g286) (z285 : Int) (_ : 0 ≤ z285) (_ : z285 ≤ 400) (_ : xSky (xv g286 ms) (xv g y0) n0 z285) (_ : 416 - z285 < (nP297 : Int)), X K E 62 [(2, .int (iI z285)), (1, .int (iI z5)), (0, .ref a0)] [] S g286 0 0 := by
            intro nP297
            induction nP297 with
            | zero => intro g286 hg286 z285 lz285 uz285 v298 mP297; exact False.elim (by omega)
            | succ nP297 ihP297 =>
              intro g286 hg286 z285 lz285 uz285 v298 mP297
              refine X_iloadn hK (i := 2) 0 kd28_155.2.1 rfl rfl ?_
              refine X_iloadn hK (i := 1) 1 kd28_155.2.2.1 rfl rfl ?_
              refine X_icmp_ge hK 114 (by omega) (by omega) kd28_155.2.2.2.1 (by decide) (fun c299 => ?_) (fun c299 => ?_)
              · refine X_aloadn hK (i := 0) 2 kd28_157.2.2.2.2.2.2.2.1 rfl rfl ?_
                refine X_iloadn hK (i := 1) 1 kd28_157.2.2.2.2.2.2.2.2.1 rfl rfl ?_
                refine X_puti hK fl_X12_226_13 hs_a0 (by decide) sl_13_17 (by omega) (by omega) kd28_157.2.2.2.2.2.2.2.2.2.1 (fun g300 hg300 => ?_)
                refine X_iconst hK kd28_157.2.2.2.2.2.2.2.2.2.2.1 ?_
                exact hret _ _ _ _ _ _ _ kd28_157.2.2.2.2.2.2.2.2.2.2.2 (by omega) (by omega) ⟨rfl, 1, rfl, (by omega), (by omega), (((xs_k hg300 (by decide)).trans ((hg286 a0 13 0 2 hs_a0 (by decide)).trans k7)).trans (by congr 2 <;> omega)), ⟨fun _ => ⟨by omega, by omega, (by rw [← (Eq.trans (xv_m hg3 hs_y0 (by decide) (by decide)) (xv_a hg1 (xne hs_y0 hs_a0 (by decide))))]; exact xWk.to v227 (by omega))⟩, fun _ => rfl⟩, ⟨fun _ => ⟨(xs_s hg300).trans (by congr 2 <;> omega), (by rw [(xv_a hg300 (xne hs_ms hs_a0 (by decide)))]; exact (xSky.to v298 (by omega)))⟩, fun h9 => absurd (show _ = (1 : Int) by omega) h9⟩⟩ (Nat.le_refl _) (Nat.le_refl _)
              · refine X_aloadn hK (i := 0) 2 kd28_155.2.2.2.2.1 rfl rfl ?_
                refine X_getK hK fl_X12_32_13 hs_a0 ((hg286 a0 13 0 10 hs_a0 (by decide)).trans ((hg3 a0 13 0 10 hs_a0 (by decide)).trans ((xs_k hg1 (by decide)).trans ems))) kd28_155.2.2.2.2.2.1 ?_
                refine X_iloadn hK (i := 2) 0 kd28_155.2.2.2.2.2.2.1 rfl rfl ?_
                refine X_aloadn hK (i := 0) 2 kd28_155.2.2.2.2.2.2.2.1 rfl rfl ?_
                refine X_getK hK fl_X12_7_13 hs_a0 ((hg286 a0 13 0 1 hs_a0 (by decide)).trans ((hg3 a0 13 0 1 hs_a0 (by decide)).trans ((xs_k hg1 (by decide)).trans ey0))) kd28_155.2.2.2.2.2.2.2.2.1 ?_
                refine X_iloadn hK (i := 2) 0 kd28_155.2.2.2.2.2.2.2.2.2.1 rfl rfl ?_
                refine X_iald hK hs_y0 (by decide) sl_14100 (by omega) (by omega) kd28_155.2.2.2.2.2.2.2.2.2.2.1 (fun z301 ez301 lz301 uz301 => ?_)
                have hvz301 := xv_e (j := z285) ez301 (by omega)
                have hl302 : xv g y0 z285 = z301 := xv_e (j := z285) ((((hg286 _ _ _ _ hs_y0 (by rw [xky_a (by decide)]; decide)).trans (hg3 _ _ _ _ hs_y0 (by rw [xky_a (by decide)]; decide))).trans (xs_a hg1 (xne hs_y0 hs_a0 (by decide)))).symm.trans ez301) (by omega)
                have hwhl302 := hWK z285 (by omega) (by omega)
                refine X_iconst hK kd28_155.2.2.2.2.2.2.2.2.2.2.2 ?_
                refine X_icmp_ge hK 91 (by omega) (by omega) kd28_156.1 (by decide) (fun c303 => ?_) (fun c303 => ?_)
                · refine X_iloadn hK (i := 2) 0 kd28_156.2.2.2.2.2.2.1 rfl rfl ?_
                  refine X_if_ne hK 99 (by omega) kd28_156.2.2.2.2.2.2.2.1 (by decide) (fun c304 => ?_) (fun c304 => ?_)
                  · refine X_aloadn hK (i := 0) 2 kd28_156.2.2.2.2.2.2.2.2.2.2.1 rfl rfl ?_
                    refine X_getK hK fl_X12_32_13 hs_a0 ((hg286 a0 13 0 10 hs_a0 (by decide)).trans ((hg3 a0 13 0 10 hs_a0 (by decide)).trans ((xs_k hg1 (by decide)).trans ems))) kd28_156.2.2.2.2.2.2.2.2.2.2.2 ?_
                    refine X_iloadn hK (i := 2) 0 kd28_157.1 rfl rfl ?_
                    refine X_iconst hK kd28_157.2.1 ?_
                    refine X_isub hK kd28_157.2.2.1 ?_
                    refine X_iald hK hs_ms (by decide) sl_14700 (by omega) (by omega) kd28_157.2.2.2.1 (fun z305 ez305 lz305 uz305 => ?_)
                    have hp306 : z305 = xsy (xv g y0) n0 (z285 - 1) := (xv_e (j := (z285 - 1)) ez305 (by omega)).symm.trans (v298 (z285 - 1) (by omega) (by omega))
                    refine X_iast hK hs_ms (by decide) (by decide) sl_14700 (by omega) (by omega) (by omega) (by omega) kd28_157.2.2.2.2.1 (fun g307 hg307 => ?_)
                    refine X_iinc hK (i := 2) (z := z285) (n := 1) 0 [(2, .int (iI (z285 + 1))), (1, .int (iI z5)), (0, .ref a0)] kd28_157.2.2.2.2.2.1 rfl (by decide) rfl ?_
                    refine X_goto hK 62 kd28_157.2.2.2.2.2.2.1 (by decide) ?_
                    exact ihP297  g307 (xM_ua (xM.tr xM.rf xLe.rf hg286 (by decide)) hg307 hs_ms (by decide) (by decide)) (z285 + 1) (by omega) (by omega) (xSky.s v298 (xUp.of hg307 (by omega) (by omega)) (by first | exact xsy_a (by omega) (by omega) hl302 (by omega) | exact xsy_b (by omega) (by omega) hl302 (by omega) (xah_0' (by omega)) | exact xsy_b (by omega) (by omega) hl302 (by omega) (xah_p (by omega) hp306))) (by omega)
                  · refine X_iconst hK kd28_156.2.2.2.2.2.2.2.2.1 ?_
                    refine X_goto hK 107 kd28_156.2.2.2.2.2.2.2.2.2.1 (by decide) ?_
                    refine X_iast hK hs_ms (by decide) (by decide) sl_14700 (by omega) (by omega) (by omega) (by omega) kd28_157.2.2.2.2.1 (fun g308 hg308 => ?_)
                    refine X_iinc hK (i := 2) (z := z285) (n := 1) 0 [(2, .int (iI (z285 + 1))), (1, .int (iI z5)), (0, .ref a0)] kd28_157.2.2.2.2.2.1 rfl (by decide) rfl ?_
                    refine X_goto hK 62 kd28_157.2.2.2.2.2.2.1 (by decide) ?_
                    exact ihP297  g308 (xM_ua (xM.tr xM.rf xLe.rf hg286 (by decide)) hg308 hs_ms (by decide) (by decide)) (z285 + 1) (by omega) (by omega) (xSky.s v298 (xUp.of hg308 (by omega) (by omega)) (by first | exact xsy_a (by omega) (by omega) hl302 (by omega) | exact xsy_b (by omega) (by omega) hl302 (by omega) (xah_0' (by omega)))) (by omega)
                · refine X_aloadn hK (i := 0) 2 kd28_156.2.1 rfl rfl ?_
                  refine X_getK hK fl_X12_7_13 hs_a0 ((hg286 a0 13 0 1 hs_a0 (by decide)).trans ((hg3 a0 13 0 1 hs_a0 (by decide)).trans ((xs_k hg1 (by decide)).trans ey0))) kd28_156.2.2.1 ?_
                  refine X_iloadn hK (i := 2) 0 kd28_156.2.2.2.1 rfl rfl ?_
                  refine X_ialdK hK hs_y0 (by decide) (by omega) (by omega) ez301 kd28_156.2.2.2.2.1 ?_
                  have hvx309 := xv_e (j := z285) ez301 (by omega)
                  refine X_goto hK 107 kd28_156.2.2.2.2.2.1 (by decide) ?_
                  refine X_iast hK hs_ms (by decide) (by decide) sl_14700 (by omega) (by omega) (by omega) (by omega) kd28_157.2.2.2.2.1 (fun g310 hg310 => ?_)
                  refine X_iinc hK (i := 2) (z := z285) (n := 1) 0 [(2, .int (iI (z285 + 1))), (1, .int (iI z5)), (0, .ref a0)] kd28_157.2.2.2.2.2.1 rfl (by decide) rfl ?_
                  refine X_goto hK 62 kd28_157.2.2.2.2.2.2.1 (by decide) ?_
                  exact ihP297  g310 (xM_ua (xM.tr xM.rf xLe.rf hg286 (by decide)) hg310 hs_ms (by decide) (by decide)) (z285 + 1) (by omega) (by omega) (xSky.s v298 (xUp.of hg310 (by omega) (by omega)) (by first | exact xsy_a (by omega) (by omega) hl302 (by omega) | exact xsy_b (by omega) (by omega) hl302 (by omega) (xah_0' (by omega)))) (by omega)
          exact P297 ((416 - 0 : Int).toNat + 1) g3 xM.rf 0 (by omega) (by omega) xSky.z (by omega)
        · refine X_aloadn hK (i := 0) 2 kd28_153.2.2.2.2.2.2.2.1 rfl rfl ?_
          refine X_getK hK fl_X12_7_13 hs_a0 ((hg3 a0 13 0 1 hs_a0 (by decide)).trans ((xs_k hg1 (by decide)).trans ey0)) kd28_153.2.2.2.2.2.2.2.2.1 ?_
          refine X_iloadn hK (i := 2) 0 kd28_153.2.2.2.2.2.2.2.2.2.1 rfl rfl ?_
          refine X_iald hK hs_y0 (by decide) sl_14100 (by omega) (by omega) kd28_153.2.2.2.2.2.2.2.2.2.2.1 (fun z311 ez311 lz311 uz311 => ?_)
          have hvz311 := xv_e (j := z196) ez311 (by omega)
          refine X_iconst hK kd28_153.2.2.2.2.2.2.2.2.2.2.2 ?_
          refine X_icmp_lt hK 54 (by omega) (by omega) kd28_154.1 (by decide) (fun c312 => ?_) (fun c312 => ?_)
          · refine X_iinc hK (i := 2) (z := z196) (n := 1) 0 [(2, .int (iI (z196 + 1))), (1, .int (iI z5)), (0, .ref a0)] kd28_154.2.2.2.2.2.2.2.2.2.1 rfl (by decide) rfl ?_
            refine X_goto hK 25 kd28_154.2.2.2.2.2.2.2.2.2.2.1 (by decide) ?_
            exact ihP226  (z196 + 1) (by omega) (by omega) (xWk.s v227 (xv_e ez311 (by omega)) (by omega)) (by omega)
          · refine X_aloadn hK (i := 0) 2 kd28_154.2.1 rfl rfl ?_
            refine X_getK hK fl_X12_7_13 hs_a0 ((hg3 a0 13 0 1 hs_a0 (by decide)).trans ((xs_k hg1 (by decide)).trans ey0)) kd28_154.2.2.1 ?_
            refine X_iloadn hK (i := 2) 0 kd28_154.2.2.2.1 rfl rfl ?_
            refine X_ialdK hK hs_y0 (by decide) (by omega) (by omega) ez311 kd28_154.2.2.2.2.1 ?_
            have hvx313 := xv_e (j := z196) ez311 (by omega)
            refine X_sipush hK kd28_154.2.2.2.2.2.1 (by decide) ?_
            refine X_icmp_eq hK 54 (by omega) (by omega) kd28_154.2.2.2.2.2.2.1 (by decide) (fun c314 => ?_) (fun c314 => ?_)
            · refine X_iinc hK (i := 2) (z := z196) (n := 1) 0 [(2, .int (iI (z196 + 1))), (1, .int (iI z5)), (0, .ref a0)] kd28_154.2.2.2.2.2.2.2.2.2.1 rfl (by decide) rfl ?_
              refine X_goto hK 25 kd28_154.2.2.2.2.2.2.2.2.2.2.1 (by decide) ?_
              exact ihP226  (z196 + 1) (by omega) (by omega) (xWk.s v227 (xv_e ez311 (by omega)) (by omega)) (by omega)
            · refine X_iconst hK kd28_154.2.2.2.2.2.2.2.1 ?_
              exact hret _ _ _ _ _ _ _ kd28_154.2.2.2.2.2.2.2.2.1 (by omega) (by omega) ⟨rfl, 0, rfl, (by omega), (by omega), (k7.trans (by congr 2 <;> omega)), ⟨fun h9 => by omega, fun h9 => by have h8 := h9.2.2 z196 (by omega) (by omega); rw [← (Eq.trans (xv_m hg3 hs_y0 (by decide) (by decide)) (xv_a hg1 (xne hs_y0 hs_a0 (by decide))))] at h8; omega⟩, ⟨fun h9 => by omega, fun _ => ⟨((hg3 a0 13 0 17 hs_a0 (by decide)).trans ((xs_k hg1 (by decide)).trans esm)), (Eq.trans (xv_m hg3 hs_ms (by decide) (by decide)) (xv_a hg1 (xne hs_ms hs_a0 (by decide))))⟩⟩⟩ (Nat.le_refl _) (Nat.le_refl _)
    exact P226 ((416 - 0 : Int).toNat + 1) 0 (by omega) (by omega) xWk.z (by omega)
  · refine X_iconst hK kd28_153.1 ?_
    exact hret _ _ _ _ _ _ _ kd28_153.2.1 (by omega) (by omega) ⟨rfl, 0, rfl, (by omega), (by omega), (k7.trans (by congr 2 <;> omega)), ⟨fun h9 => by omega, fun h9 => by omega⟩, ⟨fun h9 => by omega, fun _ => ⟨((hg3 a0 13 0 17 hs_a0 (by decide)).trans ((xs_k hg1 (by decide)).trans esm)), (Eq.trans (xv_m hg3 hs_ms (by decide) (by decide)) (xv_a hg1 (xne hs_ms hs_a0 (by decide))))⟩⟩⟩ (Nat.le_refl _) (Nat.le_refl _)

set_option maxHeartbeats 4000000 in
set_option maxRecDepth 100000 in
theorem c3_strike (l : Launch) (D : va_G) (kA : Nat → ClassId) (b0 : Nat) (t0 : Nat → Nat) (S : xT) (g : xG) (a0 : Nat) (x1 : Int) (x2 : Int) (x3 : Int) (x4 : Int) (x5 : Int) (n0 : Int) (y0 : Nat) (kh : Int) (kp : Int) (hs_a0 : S a0 = some (13, 0)) (hx1 : (-2147483648) ≤ x1 ∧ x1 ≤ 2147483647) (hx2 : (-2147483648) ≤ x2 ∧ x2 ≤ 2147483647) (hx3 : (-2147483648) ≤ x3 ∧ x3 ≤ 2147483647) (hx4 : (-2147483648) ≤ x4 ∧ x4 ≤ 2147483647) (hx5 : (-2147483648) ≤ x5 ∧ x5 ≤ 2147483647) (hn0 : 0 ≤ n0 ∧ n0 ≤ 420) (en0 : g a0 2 = .int (iI n0)) (ey0 : g a0 1 = .ref y0) (hs_y0 : S y0 = some (14100, 420)) (hkh : (-2147483648) ≤ kh ∧ kh ≤ 2147483647) (ekh : g a0 89 = .int (iI kh)) (hkp : (-2147483648) ≤ kp ∧ kp ≤ 2147483647) (ekp : g a0 90 = .int (iI kp)) : xMt l yX12_strike cX12_strike 13 (some .int) 1 0 0 22 D kA b0 t0 [(13, 0), (13, 2), (13, 89), (13, 90)] [.ref a0, .int (iI x1), .int (iI x2), .int (iI x3), .int (iI x4), .int (iI x5)] S g (fun (r : Option Value) (S1 : xT) (g1 : xG) => S = S1 ∧ ∃ z : Int, r = some (.int (iI z)) ∧ (-1) ≤ z ∧ z ≤ 209 ∧ (g1 a0 2 = .int (iI (0))) ∧ (∃ e1 p1 : Int, g1 a0 89 = .int (iI e1) ∧ g1 a0 90 = .int (iI p1) ∧ (-2147483648 ≤ e1 ∧ e1 ≤ 2147483647) ∧ (-2147483648 ≤ p1 ∧ p1 ≤ 2147483647) ∧ xSkr (xv g y0) x1 x2 x3 x4 x5 n0 z e1 p1 kh kp)) := by
  refine xEnterI (by decide) (by simp [lg_sl, Value.category]) [(0, .ref a0), (1, .int (iI x1)), (2, .int (iI x2)), (3, .int (iI x3)), (4, .int (iI x4)), (5, .int (iI x5))] rfl ?_
  intro K E hK hret _ _ _
  refine X_aloadn hK (i := 0) 0 kd28_131.2.2.2.1 rfl rfl ?_
  refine X_iconst hK kd28_131.2.2.2.2.1 ?_
  refine X_puti hK fl_X12_198_13 hs_a0 (by decide) sl_13_0 (by omega) (by omega) kd28_131.2.2.2.2.2.1 (fun g1 hg1 => ?_)
  refine X_aloadn hK (i := 0) 0 kd28_131.2.2.2.2.2.2.1 rfl rfl ?_
  refine X_callV hK [] [] lk_X12_222 (c_X12_take _ _ _ _ _ S g1 a0 n0 hs_a0 (by omega) ((xs_k hg1 (by decide)).trans en0)) hs_a0 ⟨by decide, rfl⟩ kd28_131.2.2.2.2.2.2.2.1 rfl rfl (by simp [Value.category]) (by decide) (by decide) (by decide) (by decide) (fun r2 S4 g3 pr2 qr2 hg3 => ?_)
  obtain ⟨rfl, z5, rfl, lz5, uz5, k6, k7⟩ := pr2
  refine X_st [.int (iI z5)] rfl ?_
  refine X_istore hK (i := 6) [(6, .int (iI z5)), (0, .ref a0), (1, .int (iI x1)), (2, .int (iI x2)), (3, .int (iI x3)), (4, .int (iI x4)), (5, .int (iI x5))] kd28_131.2.2.2.2.2.2.2.2.1 (by decide) rfl ?_
  refine X_iload hK (i := 6) 0 kd28_131.2.2.2.2.2.2.2.2.2.1 rfl ?_
  refine X_iconst hK kd28_131.2.2.2.2.2.2.2.2.2.2.1 ?_
  refine X_irem hK (by omega) (by omega) kd28_131.2.2.2.2.2.2.2.2.2.2.2 (fun z8 wz8 ez8 fz8 hz8 => ?_)
  have bz8 : 0 ≤ z8 ∧ z8 ≤ 1 := by omega
  refine X_if_ne hK 68 (by omega) kd28_132.1 (by decide) (fun c9 => ?_) (fun c9 => ?_)
  · refine X_iconst hK kd28_133.2.2.2.2.2.2.2.2.2.2.2 ?_
    exact hret _ _ _ _ _ _ _ kd28_134.1 ⟨rfl, (-1), rfl, (by omega), (by omega), (k7.trans (by congr 2 <;> omega)), ⟨_, _, ((hg3 a0 13 0 89 hs_a0 (by decide)).trans ((xs_k hg1 (by decide)).trans ekh)), ((hg3 a0 13 0 90 hs_a0 (by decide)).trans ((xs_k hg1 (by decide)).trans ekp)), (by omega), (by omega), (Or.inr ⟨(by unfold xVal; omega), (by omega), rfl, rfl⟩)⟩⟩ (Nat.le_refl _) (Nat.le_refl _)
  · refine X_iload hK (i := 6) 0 kd28_132.2.1 rfl ?_
    refine X_iconst hK kd28_132.2.2.1 ?_
    refine X_idiv hK (by omega) (by omega) kd28_132.2.2.2.1 (fun z10 ez10 fz10 => ?_)
    have bz10 : 0 ≤ z10 ∧ z10 ≤ 210 := by omega
    refine X_iconst hK kd28_132.2.2.2.2.1 ?_
    refine X_bipush hK kd28_132.2.2.2.2.2.1 (by decide) ?_
    refine X_callS hK [.int (iI z10), .int (iI 1), .int (iI 50)] [] lk_X12_211 (c_X12_isIn _ _ _ _ _ S g3 z10 1 50 (by omega) (by omega) (by omega)) kd28_132.2.2.2.2.2.2.1 rfl rfl (by simp [Value.category]) (by decide) (by decide) (by decide) (by decide) (fun r11 S13 g12 pr11 qr11 hg12 => ?_)
    obtain ⟨rfl, rfl, z14, rfl, lz14, uz14, k15⟩ := pr11
    refine X_st [.int (iI z14)] rfl ?_
    refine X_if_eq hK 68 (by omega) kd28_132.2.2.2.2.2.2.2.1 (by decide) (fun c16 => ?_) (fun c16 => ?_)
    · refine X_iconst hK kd28_133.2.2.2.2.2.2.2.2.2.2.2 ?_
      exact hret _ _ _ _ _ _ _ kd28_134.1 ⟨rfl, (-1), rfl, (by omega), (by omega), (k7.trans (by congr 2 <;> omega)), ⟨_, _, ((hg3 a0 13 0 89 hs_a0 (by decide)).trans ((xs_k hg1 (by decide)).trans ekh)), ((hg3 a0 13 0 90 hs_a0 (by decide)).trans ((xs_k hg1 (by decide)).trans ekp)), (by omega), (by omega), (Or.inr ⟨(by unfold xVal; omega), (by omega), rfl, rfl⟩)⟩⟩ (Nat.le_refl _) (Nat.le_refl _)
    · refine X_iloadn hK (i := 1) 2 kd28_132.2.2.2.2.2.2.2.2.1 rfl rfl ?_
      refine X_callS hK [.int (iI x1)] [] lk_X12_480 (c_X12_isSum _ _ _ _ _ S g3 x1 (by omega)) kd28_132.2.2.2.2.2.2.2.2.2.1 rfl rfl (by simp [Value.category]) (by decide) (by decide) (by decide) (by decide) (fun r17 S19 g18 pr17 qr17 hg18 => ?_)
      obtain ⟨rfl, rfl, z20, rfl, lz20, uz20, k21⟩ := pr17
      refine X_st [.int (iI z20)] rfl ?_
      refine X_if_eq hK 68 (by omega) kd28_132.2.2.2.2.2.2.2.2.2.2.1 (by decide) (fun c22 => ?_) (fun c22 => ?_)
      · refine X_iconst hK kd28_133.2.2.2.2.2.2.2.2.2.2.2 ?_
        exact hret _ _ _ _ _ _ _ kd28_134.1 ⟨rfl, (-1), rfl, (by omega), (by omega), (k7.trans (by congr 2 <;> omega)), ⟨_, _, ((hg3 a0 13 0 89 hs_a0 (by decide)).trans ((xs_k hg1 (by decide)).trans ekh)), ((hg3 a0 13 0 90 hs_a0 (by decide)).trans ((xs_k hg1 (by decide)).trans ekp)), (by omega), (by omega), (Or.inr ⟨(by unfold xVal; omega), (by omega), rfl, rfl⟩)⟩⟩ (Nat.le_refl _) (Nat.le_refl _)
      · refine X_iloadn hK (i := 2) 3 kd28_132.2.2.2.2.2.2.2.2.2.2.2 rfl rfl ?_
        refine X_callS hK [.int (iI x2)] [] lk_X12_480 (c_X12_isSum _ _ _ _ _ S g3 x2 (by omega)) kd28_133.1 rfl rfl (by simp [Value.category]) (by decide) (by decide) (by decide) (by decide) (fun r23 S25 g24 pr23 qr23 hg24 => ?_)
        obtain ⟨rfl, rfl, z26, rfl, lz26, uz26, k27⟩ := pr23
        refine X_st [.int (iI z26)] rfl ?_
        refine X_if_eq hK 68 (by omega) kd28_133.2.1 (by decide) (fun c28 => ?_) (fun c28 => ?_)
        · refine X_iconst hK kd28_133.2.2.2.2.2.2.2.2.2.2.2 ?_
          exact hret _ _ _ _ _ _ _ kd28_134.1 ⟨rfl, (-1), rfl, (by omega), (by omega), (k7.trans (by congr 2 <;> omega)), ⟨_, _, ((hg3 a0 13 0 89 hs_a0 (by decide)).trans ((xs_k hg1 (by decide)).trans ekh)), ((hg3 a0 13 0 90 hs_a0 (by decide)).trans ((xs_k hg1 (by decide)).trans ekp)), (by omega), (by omega), (Or.inr ⟨(by unfold xVal; omega), (by omega), rfl, rfl⟩)⟩⟩ (Nat.le_refl _) (Nat.le_refl _)
        · refine X_iloadn hK (i := 3) 4 kd28_133.2.2.1 rfl rfl ?_
          refine X_callS hK [.int (iI x3)] [] lk_X12_480 (c_X12_isSum _ _ _ _ _ S g3 x3 (by omega)) kd28_133.2.2.2.1 rfl rfl (by simp [Value.category]) (by decide) (by decide) (by decide) (by decide) (fun r29 S31 g30 pr29 qr29 hg30 => ?_)
          obtain ⟨rfl, rfl, z32, rfl, lz32, uz32, k33⟩ := pr29
          refine X_st [.int (iI z32)] rfl ?_
          refine X_if_eq hK 68 (by omega) kd28_133.2.2.2.2.1 (by decide) (fun c34 => ?_) (fun c34 => ?_)
          · refine X_iconst hK kd28_133.2.2.2.2.2.2.2.2.2.2.2 ?_
            exact hret _ _ _ _ _ _ _ kd28_134.1 ⟨rfl, (-1), rfl, (by omega), (by omega), (k7.trans (by congr 2 <;> omega)), ⟨_, _, ((hg3 a0 13 0 89 hs_a0 (by decide)).trans ((xs_k hg1 (by decide)).trans ekh)), ((hg3 a0 13 0 90 hs_a0 (by decide)).trans ((xs_k hg1 (by decide)).trans ekp)), (by omega), (by omega), (Or.inr ⟨(by unfold xVal; omega), (by omega), rfl, rfl⟩)⟩⟩ (Nat.le_refl _) (Nat.le_refl _)
          · refine X_iload hK (i := 4) 5 kd28_133.2.2.2.2.2.1 rfl ?_
            refine X_callS hK [.int (iI x4)] [] lk_X12_480 (c_X12_isSum _ _ _ _ _ S g3 x4 (by omega)) kd28_133.2.2.2.2.2.2.1 rfl rfl (by simp [Value.category]) (by decide) (by decide) (by decide) (by decide) (fun r35 S37 g36 pr35 qr35 hg36 => ?_)
            obtain ⟨rfl, rfl, z38, rfl, lz38, uz38, k39⟩ := pr35
            refine X_st [.int (iI z38)] rfl ?_
            refine X_if_eq hK 68 (by omega) kd28_133.2.2.2.2.2.2.2.1 (by decide) (fun c40 => ?_) (fun c40 => ?_)
            · refine X_iconst hK kd28_133.2.2.2.2.2.2.2.2.2.2.2 ?_
              exact hret _ _ _ _ _ _ _ kd28_134.1 ⟨rfl, (-1), rfl, (by omega), (by omega), (k7.trans (by congr 2 <;> omega)), ⟨_, _, ((hg3 a0 13 0 89 hs_a0 (by decide)).trans ((xs_k hg1 (by decide)).trans ekh)), ((hg3 a0 13 0 90 hs_a0 (by decide)).trans ((xs_k hg1 (by decide)).trans ekp)), (by omega), (by omega), (Or.inr ⟨(by unfold xVal; omega), (by omega), rfl, rfl⟩)⟩⟩ (Nat.le_refl _) (Nat.le_refl _)
            · refine X_iload hK (i := 5) 6 kd28_133.2.2.2.2.2.2.2.2.1 rfl ?_
              refine X_callS hK [.int (iI x5)] [] lk_X12_480 (c_X12_isSum _ _ _ _ _ S g3 x5 (by omega)) kd28_133.2.2.2.2.2.2.2.2.2.1 rfl rfl (by simp [Value.category]) (by decide) (by decide) (by decide) (by decide) (fun r41 S43 g42 pr41 qr41 hg42 => ?_)
              obtain ⟨rfl, rfl, z44, rfl, lz44, uz44, k45⟩ := pr41
              refine X_st [.int (iI z44)] rfl ?_
              refine X_if_ne hK 70 (by omega) kd28_133.2.2.2.2.2.2.2.2.2.2.1 (by decide) (fun c46 => ?_) (fun c46 => ?_)
              · refine X_iloadn hK (i := 1) 2 kd28_134.2.1 rfl rfl ?_
                refine X_istore hK (i := 7) [(7, .int (iI x1)), (6, .int (iI z5)), (0, .ref a0), (1, .int (iI x1)), (2, .int (iI x2)), (3, .int (iI x3)), (4, .int (iI x4)), (5, .int (iI x5))] kd28_134.2.2.1 (by decide) rfl ?_
                refine X_iload hK (i := 4) 6 kd28_134.2.2.2.1 rfl ?_
                refine X_istore hK (i := 8) [(8, .int (iI x4)), (7, .int (iI x1)), (6, .int (iI z5)), (0, .ref a0), (1, .int (iI x1)), (2, .int (iI x2)), (3, .int (iI x3)), (4, .int (iI x4)), (5, .int (iI x5))] kd28_134.2.2.2.2.1 (by decide) rfl ?_
                refine X_iconst hK kd28_134.2.2.2.2.2.1 ?_
                refine X_istore hK (i := 9) [(9, .int (iI 0)), (8, .int (iI x4)), (7, .int (iI x1)), (6, .int (iI z5)), (0, .ref a0), (1, .int (iI x1)), (2, .int (iI x2)), (3, .int (iI x3)), (4, .int (iI x4)), (5, .int (iI x5))] kd28_134.2.2.2.2.2.2.1 (by decide) rfl ?_
                have P190 : ∀ (nP190 : Nat) (z166 : Int) (_ : 0 ≤ z166) (_ : z166 ≤ 210) (z167 : Int) (_ : 0 ≤ z167) (_ : z167 ≤ 100000) (z168 : Int) (_ : 0 ≤ z168) (_ : z168 ≤ 100000) (_ : iI z168 = xfl x1 x2 x3 z166.toNat) (_ : iI z167 = xpl x4 x5 z166.toNat) (_ : xNs (xv g3 y0) x1 x2 x3 x4 x5 z166) (_ : 226 - z166 < (nP190 : Int)), X K E 80 [(9, .int (iI z166)), (8, .int (iI z167)), (7, .int (iI z168)), (6, .int (iI z5)), (0, .ref a0), (1, .int (iI x1)), (2, .int (iI x2)), (3, .int (iI x3)), (4, .int (iI x4)), (5, .int (iI x5))] [] S g3 0 0 := by
                  intro nP190
                  induction nP190 with
                  | zero => intro z166 lz166 uz166 z167 lz167 uz167 z168 lz168 uz168 v191 v192 v193 mP190; exact False.elim (by omega)
                  | succ nP190 ihP190 =>
                    intro z166 lz166 uz166 z167 lz167 uz167 z168 lz168 uz168 v191 v192 v193 mP190
                    refine X_iload hK (i := 9) 0 kd28_134.2.2.2.2.2.2.2.1 rfl ?_
                    refine X_iload hK (i := 6) 3 kd28_134.2.2.2.2.2.2.2.2.1 rfl ?_
                    refine X_iconst hK kd28_134.2.2.2.2.2.2.2.2.2.1 ?_
                    refine X_idiv hK (by omega) (by omega) kd28_134.2.2.2.2.2.2.2.2.2.2.1 (fun z194 ez194 fz194 => ?_)
                    have bz194 : 0 ≤ z194 ∧ z194 ≤ 210 := by omega
                    refine X_icmp_ge hK 204 (by omega) (by omega) kd28_134.2.2.2.2.2.2.2.2.2.2.2 (by decide) (fun c195 => ?_) (fun c195 => ?_)
                    · refine X_iconst hK kd28_140.2.2.1 ?_
                      exact hret _ _ _ _ _ _ _ kd28_140.2.2.2.1 ⟨rfl, (-1), rfl, (by omega), (by omega), (k7.trans (by congr 2 <;> omega)), ⟨_, _, ((hg3 a0 13 0 89 hs_a0 (by decide)).trans ((xs_k hg1 (by decide)).trans ekh)), ((hg3 a0 13 0 90 hs_a0 (by decide)).trans ((xs_k hg1 (by decide)).trans ekp)), (by omega), (by omega), (Or.inl ⟨(by unfold xVal; omega), (by rw [← (Eq.trans (xv_m hg3 hs_y0 (by decide) (by decide)) (xv_a hg1 (xne hs_y0 hs_a0 (by decide))))]; exact (Or.inl ⟨rfl, rfl, rfl, fun i9 q1 q2 => v193 i9 q1 (by omega)⟩))⟩)⟩⟩ (Nat.le_refl _) (Nat.le_refl _)
                    · refine X_iload hK (i := 7) 2 kd28_135.1 rfl ?_
                      refine X_iloadn hK (i := 2) 6 kd28_135.2.1 rfl rfl ?_
                      refine X_iload hK (i := 9) 0 kd28_135.2.2.1 rfl ?_
                      refine X_iloadn hK (i := 3) 7 kd28_135.2.2.2.1 rfl rfl ?_
                      refine X_imul hK kd28_135.2.2.2.2.1 ?_
                      have hm196 := xmulB (a := z166) (b := x3) (A := 209) (B := 100000) (by omega) (by omega) (by omega) (by omega)
                      refine X_iadd hK kd28_135.2.2.2.2.2.1 ?_
                      refine X_isub hK kd28_135.2.2.2.2.2.2.1 ?_
                      refine X_istore hK (i := 7) [(7, .int (iI (z168 - (x2 + (z166 * x3))))), (9, .int (iI z166)), (8, .int (iI z167)), (6, .int (iI z5)), (0, .ref a0), (1, .int (iI x1)), (2, .int (iI x2)), (3, .int (iI x3)), (4, .int (iI x4)), (5, .int (iI x5))] kd28_135.2.2.2.2.2.2.2.1 (by decide) rfl ?_
                      refine X_iload hK (i := 8) 2 kd28_135.2.2.2.2.2.2.2.2.1 rfl ?_
                      refine X_iload hK (i := 5) 9 kd28_135.2.2.2.2.2.2.2.2.2.1 rfl ?_
                      refine X_isub hK kd28_135.2.2.2.2.2.2.2.2.2.2.1 ?_
                      refine X_istore hK (i := 8) [(8, .int (iI (z167 - x5))), (7, .int (iI (z168 - (x2 + (z166 * x3))))), (9, .int (iI z166)), (6, .int (iI z5)), (0, .ref a0), (1, .int (iI x1)), (2, .int (iI x2)), (3, .int (iI x3)), (4, .int (iI x4)), (5, .int (iI x5))] kd28_135.2.2.2.2.2.2.2.2.2.2.2 (by decide) rfl ?_
                      refine X_aloadn hK (i := 0) 4 kd28_136.1 rfl rfl ?_
                      refine X_getK hK fl_X12_7_13 hs_a0 ((hg3 a0 13 0 1 hs_a0 (by decide)).trans ((xs_k hg1 (by decide)).trans ey0)) kd28_136.2.1 ?_
                      refine X_iconst hK kd28_136.2.2.1 ?_
                      refine X_iload hK (i := 9) 2 kd28_136.2.2.2.1 rfl ?_
                      refine X_imul hK kd28_136.2.2.2.2.1 ?_
                      refine X_iald hK hs_y0 (by decide) sl_14100 (by omega) (by omega) kd28_136.2.2.2.2.2.1 (fun z197 ez197 lz197 uz197 => ?_)
                      refine X_istore hK (i := 10) [(10, .int (iI z197)), (8, .int (iI (z167 - x5))), (7, .int (iI (z168 - (x2 + (z166 * x3))))), (9, .int (iI z166)), (6, .int (iI z5)), (0, .ref a0), (1, .int (iI x1)), (2, .int (iI x2)), (3, .int (iI x3)), (4, .int (iI x4)), (5, .int (iI x5))] kd28_136.2.2.2.2.2.2.1 (by decide) rfl ?_
                      refine X_aloadn hK (i := 0) 5 kd28_136.2.2.2.2.2.2.2.1 rfl rfl ?_
                      refine X_getK hK fl_X12_7_13 hs_a0 ((hg3 a0 13 0 1 hs_a0 (by decide)).trans ((xs_k hg1 (by decide)).trans ey0)) kd28_136.2.2.2.2.2.2.2.2.1 ?_
                      refine X_iconst hK kd28_136.2.2.2.2.2.2.2.2.2.1 ?_
                      refine X_iload hK (i := 9) 3 kd28_136.2.2.2.2.2.2.2.2.2.2.1 rfl ?_
                      refine X_imul hK kd28_136.2.2.2.2.2.2.2.2.2.2.2 ?_
                      refine X_iconst hK kd28_137.1 ?_
                      refine X_iadd hK kd28_137.2.1 ?_
                      refine X_iald hK hs_y0 (by decide) sl_14100 (by omega) (by omega) kd28_137.2.2.1 (fun z198 ez198 lz198 uz198 => ?_)
                      refine X_istore hK (i := 11) [(11, .int (iI z198)), (10, .int (iI z197)), (8, .int (iI (z167 - x5))), (7, .int (iI (z168 - (x2 + (z166 * x3))))), (9, .int (iI z166)), (6, .int (iI z5)), (0, .ref a0), (1, .int (iI x1)), (2, .int (iI x2)), (3, .int (iI x3)), (4, .int (iI x4)), (5, .int (iI x5))] kd28_137.2.2.2.1 (by decide) rfl ?_
                      refine X_iload hK (i := 11) 0 kd28_137.2.2.2.2.1 rfl ?_
                      refine X_iload hK (i := 10) 1 kd28_137.2.2.2.2.2.1 rfl ?_
                      refine X_icmp_gt hK 142 (by omega) (by omega) kd28_137.2.2.2.2.2.2.1 (by decide) (fun c199 => ?_) (fun c199 => ?_)
                      · refine X_iload hK (i := 7) 3 kd28_137.2.2.2.2.2.2.2.2.2.1 rfl ?_
                        refine X_if_ge hK 151 (by omega) kd28_137.2.2.2.2.2.2.2.2.2.2.1 (by decide) (fun c200 => ?_) (fun c200 => ?_)
                        · refine X_iload hK (i := 8) 2 kd28_138.2.1 rfl ?_
                          refine X_if_ge hK 160 (by omega) kd28_138.2.2.1 (by decide) (fun c201 => ?_) (fun c201 => ?_)
                          · refine X_iconst hK kd28_138.2.2.2.2.2.1 ?_
                            refine X_istore hK (i := 12) [(12, .int (iI (-1))), (11, .int (iI z198)), (10, .int (iI z197)), (8, .int (iI (z167 - x5))), (7, .int (iI (z168 - (x2 + (z166 * x3))))), (9, .int (iI z166)), (6, .int (iI z5)), (0, .ref a0), (1, .int (iI x1)), (2, .int (iI x2)), (3, .int (iI x3)), (4, .int (iI x4)), (5, .int (iI x5))] kd28_138.2.2.2.2.2.2.1 (by decide) rfl ?_
                            refine X_iload hK (i := 12) 0 kd28_138.2.2.2.2.2.2.2.1 rfl ?_
                            refine X_iconst hK kd28_138.2.2.2.2.2.2.2.2.1 ?_
                            refine X_icmp_ne hK 172 (by omega) (by omega) kd28_138.2.2.2.2.2.2.2.2.2.1 (by decide) (fun c202 => False.elim (by omega)) (fun c202 => ?_)
                            refine X_goto hK 198 kd28_138.2.2.2.2.2.2.2.2.2.2.1 (by decide) ?_
                            refine X_iinc hK (i := 9) (z := z166) (n := 1) 5 [(9, .int (iI (z166 + 1))), (12, .int (iI (-1))), (11, .int (iI z198)), (10, .int (iI z197)), (8, .int (iI (z167 - x5))), (7, .int (iI (z168 - (x2 + (z166 * x3))))), (6, .int (iI z5)), (0, .ref a0), (1, .int (iI x1)), (2, .int (iI x2)), (3, .int (iI x3)), (4, .int (iI x4)), (5, .int (iI x5))] kd28_140.1 rfl (by decide) rfl ?_
                            refine X_goto hK 80 kd28_140.2.1 (by decide) ?_
                            refine X_lv [(9, .int (iI (z166 + 1))), (8, .int (iI (z167 - x5))), (7, .int (iI (z168 - (x2 + (z166 * x3))))), (6, .int (iI z5)), (0, .ref a0), (1, .int (iI x1)), (2, .int (iI x2)), (3, .int (iI x3)), (4, .int (iI x4)), (5, .int (iI x5))] [0, 4, 5, 6, 7, 8, 9, 10, 11, 12] rfl ?_
                            exact ihP190  (z166 + 1) (by omega) (by omega) (z167 - x5) (by omega) (by omega) (z168 - (x2 + (z166 * x3))) (by omega) (by omega) (xfl_s v191 (by omega) (by rw [Int.mul_comm x3 _])) (xpl_s v192 (by omega) rfl) (xNs.s v193 (xhow_n (xv_e (j := 2 * z166) ez197 (by omega)) (xv_e (j := 2 * z166 + 1) ez198 (by omega)) (by omega) (xfl_s v191 (by omega) (by rw [Int.mul_comm x3 _])) (by omega) (by omega) (xpl_s v192 (by omega) rfl) (by omega) (by omega))) (by omega)
                          · refine X_iconst hK kd28_138.2.2.2.1 ?_
                            refine X_goto hK 161 kd28_138.2.2.2.2.1 (by decide) ?_
                            refine X_istore hK (i := 12) [(12, .int (iI 2)), (11, .int (iI z198)), (10, .int (iI z197)), (8, .int (iI (z167 - x5))), (7, .int (iI (z168 - (x2 + (z166 * x3))))), (9, .int (iI z166)), (6, .int (iI z5)), (0, .ref a0), (1, .int (iI x1)), (2, .int (iI x2)), (3, .int (iI x3)), (4, .int (iI x4)), (5, .int (iI x5))] kd28_138.2.2.2.2.2.2.1 (by decide) rfl ?_
                            refine X_iload hK (i := 12) 0 kd28_138.2.2.2.2.2.2.2.1 rfl ?_
                            refine X_iconst hK kd28_138.2.2.2.2.2.2.2.2.1 ?_
                            refine X_icmp_ne hK 172 (by omega) (by omega) kd28_138.2.2.2.2.2.2.2.2.2.1 (by decide) (fun c203 => ?_) (fun c203 => False.elim (by omega))
                            refine X_aloadn hK (i := 0) 7 kd28_138.2.2.2.2.2.2.2.2.2.2.2 rfl rfl ?_
                            refine X_iload hK (i := 12) 0 kd28_139.1 rfl ?_
                            refine X_puti hK fl_X12_192_13 hs_a0 (by decide) sl_13_89 (by omega) (by omega) kd28_139.2.1 (fun g204 hg204 => ?_)
                            refine X_aloadn hK (i := 0) 7 kd28_139.2.2.1 rfl rfl ?_
                            refine X_iload hK (i := 12) 0 kd28_139.2.2.2.1 rfl ?_
                            refine X_iconst hK kd28_139.2.2.2.2.1 ?_
                            refine X_icmp_ne hK 190 (by omega) (by omega) kd28_139.2.2.2.2.2.1 (by decide) (fun c205 => False.elim (by omega)) (fun c205 => ?_)
                            refine X_iload hK (i := 10) 2 kd28_139.2.2.2.2.2.2.1 rfl ?_
                            refine X_goto hK 192 kd28_139.2.2.2.2.2.2.2.1 (by decide) ?_
                            refine X_puti hK fl_X12_195_13 hs_a0 (by decide) sl_13_90 (by omega) (by omega) kd28_139.2.2.2.2.2.2.2.2.2.1 (fun g206 hg206 => ?_)
                            refine X_iload hK (i := 9) 5 kd28_139.2.2.2.2.2.2.2.2.2.2.1 rfl ?_
                            exact hret _ _ _ _ _ _ _ kd28_139.2.2.2.2.2.2.2.2.2.2.2 ⟨rfl, z166, rfl, (by omega), (by omega), (((xs_k hg206 (by decide)).trans ((xs_k hg204 (by decide)).trans k7)).trans (by congr 2 <;> omega)), ⟨_, _, ((xs_k hg206 (by decide)).trans (xs_s hg204)), (xs_s hg206), (by omega), (by omega), (Or.inl ⟨(by unfold xVal; omega), (by rw [← (Eq.trans (xv_m hg3 hs_y0 (by decide) (by decide)) (xv_a hg1 (xne hs_y0 hs_a0 (by decide))))]; exact (xStk.hit v193 (by omega) (xhow_2 (xv_e (j := 2 * z166) ez197 (by omega)) (xv_e (j := 2 * z166 + 1) ez198 (by omega)) (by omega) (xfl_s v191 (by omega) (by rw [Int.mul_comm x3 _])) (by omega) (by omega) (xpl_s v192 (by omega) rfl) (by omega) (by omega)) (by decide) (by rw [if_pos rfl]; exact ((xv_e (j := 2 * z166) ez197 (by omega))).symm)))⟩)⟩⟩ (Nat.le_refl _) (Nat.le_refl _)
                        · refine X_iconst hK kd28_137.2.2.2.2.2.2.2.2.2.2.2 ?_
                          refine X_goto hK 161 kd28_138.1 (by decide) ?_
                          refine X_istore hK (i := 12) [(12, .int (iI 1)), (11, .int (iI z198)), (10, .int (iI z197)), (8, .int (iI (z167 - x5))), (7, .int (iI (z168 - (x2 + (z166 * x3))))), (9, .int (iI z166)), (6, .int (iI z5)), (0, .ref a0), (1, .int (iI x1)), (2, .int (iI x2)), (3, .int (iI x3)), (4, .int (iI x4)), (5, .int (iI x5))] kd28_138.2.2.2.2.2.2.1 (by decide) rfl ?_
                          refine X_iload hK (i := 12) 0 kd28_138.2.2.2.2.2.2.2.1 rfl ?_
                          refine X_iconst hK kd28_138.2.2.2.2.2.2.2.2.1 ?_
                          refine X_icmp_ne hK 172 (by omega) (by omega) kd28_138.2.2.2.2.2.2.2.2.2.1 (by decide) (fun c207 => ?_) (fun c207 => False.elim (by omega))
                          refine X_aloadn hK (i := 0) 7 kd28_138.2.2.2.2.2.2.2.2.2.2.2 rfl rfl ?_
                          refine X_iload hK (i := 12) 0 kd28_139.1 rfl ?_
                          refine X_puti hK fl_X12_192_13 hs_a0 (by decide) sl_13_89 (by omega) (by omega) kd28_139.2.1 (fun g208 hg208 => ?_)
                          refine X_aloadn hK (i := 0) 7 kd28_139.2.2.1 rfl rfl ?_
                          refine X_iload hK (i := 12) 0 kd28_139.2.2.2.1 rfl ?_
                          refine X_iconst hK kd28_139.2.2.2.2.1 ?_
                          refine X_icmp_ne hK 190 (by omega) (by omega) kd28_139.2.2.2.2.2.1 (by decide) (fun c209 => ?_) (fun c209 => False.elim (by omega))
                          refine X_iload hK (i := 11) 1 kd28_139.2.2.2.2.2.2.2.2.1 rfl ?_
                          refine X_puti hK fl_X12_195_13 hs_a0 (by decide) sl_13_90 (by omega) (by omega) kd28_139.2.2.2.2.2.2.2.2.2.1 (fun g210 hg210 => ?_)
                          refine X_iload hK (i := 9) 5 kd28_139.2.2.2.2.2.2.2.2.2.2.1 rfl ?_
                          exact hret _ _ _ _ _ _ _ kd28_139.2.2.2.2.2.2.2.2.2.2.2 ⟨rfl, z166, rfl, (by omega), (by omega), (((xs_k hg210 (by decide)).trans ((xs_k hg208 (by decide)).trans k7)).trans (by congr 2 <;> omega)), ⟨_, _, ((xs_k hg210 (by decide)).trans (xs_s hg208)), (xs_s hg210), (by omega), (by omega), (Or.inl ⟨(by unfold xVal; omega), (by rw [← (Eq.trans (xv_m hg3 hs_y0 (by decide) (by decide)) (xv_a hg1 (xne hs_y0 hs_a0 (by decide))))]; exact (xStk.hit v193 (by omega) (xhow_1 (xv_e (j := 2 * z166) ez197 (by omega)) (xv_e (j := 2 * z166 + 1) ez198 (by omega)) (by omega) (xfl_s v191 (by omega) (by rw [Int.mul_comm x3 _])) (by omega) (by omega)) (by decide) (by rw [if_neg (by decide)]; exact ((xv_e (j := 2 * z166 + 1) ez198 (by omega))).symm)))⟩)⟩⟩ (Nat.le_refl _) (Nat.le_refl _)
                      · refine X_iconst hK kd28_137.2.2.2.2.2.2.2.1 ?_
                        refine X_goto hK 161 kd28_137.2.2.2.2.2.2.2.2.1 (by decide) ?_
                        refine X_istore hK (i := 12) [(12, .int (iI 0)), (11, .int (iI z198)), (10, .int (iI z197)), (8, .int (iI (z167 - x5))), (7, .int (iI (z168 - (x2 + (z166 * x3))))), (9, .int (iI z166)), (6, .int (iI z5)), (0, .ref a0), (1, .int (iI x1)), (2, .int (iI x2)), (3, .int (iI x3)), (4, .int (iI x4)), (5, .int (iI x5))] kd28_138.2.2.2.2.2.2.1 (by decide) rfl ?_
                        refine X_iload hK (i := 12) 0 kd28_138.2.2.2.2.2.2.2.1 rfl ?_
                        refine X_iconst hK kd28_138.2.2.2.2.2.2.2.2.1 ?_
                        refine X_icmp_ne hK 172 (by omega) (by omega) kd28_138.2.2.2.2.2.2.2.2.2.1 (by decide) (fun c211 => ?_) (fun c211 => False.elim (by omega))
                        refine X_aloadn hK (i := 0) 7 kd28_138.2.2.2.2.2.2.2.2.2.2.2 rfl rfl ?_
                        refine X_iload hK (i := 12) 0 kd28_139.1 rfl ?_
                        refine X_puti hK fl_X12_192_13 hs_a0 (by decide) sl_13_89 (by omega) (by omega) kd28_139.2.1 (fun g212 hg212 => ?_)
                        refine X_aloadn hK (i := 0) 7 kd28_139.2.2.1 rfl rfl ?_
                        refine X_iload hK (i := 12) 0 kd28_139.2.2.2.1 rfl ?_
                        refine X_iconst hK kd28_139.2.2.2.2.1 ?_
                        refine X_icmp_ne hK 190 (by omega) (by omega) kd28_139.2.2.2.2.2.1 (by decide) (fun c213 => ?_) (fun c213 => False.elim (by omega))
                        refine X_iload hK (i := 11) 1 kd28_139.2.2.2.2.2.2.2.2.1 rfl ?_
                        refine X_puti hK fl_X12_195_13 hs_a0 (by decide) sl_13_90 (by omega) (by omega) kd28_139.2.2.2.2.2.2.2.2.2.1 (fun g214 hg214 => ?_)
                        refine X_iload hK (i := 9) 5 kd28_139.2.2.2.2.2.2.2.2.2.2.1 rfl ?_
                        exact hret _ _ _ _ _ _ _ kd28_139.2.2.2.2.2.2.2.2.2.2.2 ⟨rfl, z166, rfl, (by omega), (by omega), (((xs_k hg214 (by decide)).trans ((xs_k hg212 (by decide)).trans k7)).trans (by congr 2 <;> omega)), ⟨_, _, ((xs_k hg214 (by decide)).trans (xs_s hg212)), (xs_s hg214), (by omega), (by omega), (Or.inl ⟨(by unfold xVal; omega), (by rw [← (Eq.trans (xv_m hg3 hs_y0 (by decide) (by decide)) (xv_a hg1 (xne hs_y0 hs_a0 (by decide))))]; exact (xStk.hit v193 (by omega) (xhow_0 (xv_e (j := 2 * z166) ez197 (by omega)) (xv_e (j := 2 * z166 + 1) ez198 (by omega)) (by omega)) (by decide) (by rw [if_neg (by decide)]; exact ((xv_e (j := 2 * z166 + 1) ez198 (by omega))).symm)))⟩)⟩⟩ (Nat.le_refl _) (Nat.le_refl _)
                exact P190 ((226 - 0 : Int).toNat + 1) 0 (by omega) (by omega) x4 (by omega) (by omega) x1 (by omega) (by omega) rfl rfl xNs.z (by omega)
              · refine X_iconst hK kd28_133.2.2.2.2.2.2.2.2.2.2.2 ?_
                exact hret _ _ _ _ _ _ _ kd28_134.1 ⟨rfl, (-1), rfl, (by omega), (by omega), (k7.trans (by congr 2 <;> omega)), ⟨_, _, ((hg3 a0 13 0 89 hs_a0 (by decide)).trans ((xs_k hg1 (by decide)).trans ekh)), ((hg3 a0 13 0 90 hs_a0 (by decide)).trans ((xs_k hg1 (by decide)).trans ekp)), (by omega), (by omega), (Or.inr ⟨(by unfold xVal; omega), (by omega), rfl, rfl⟩)⟩⟩ (Nat.le_refl _) (Nat.le_refl _)

set_option maxHeartbeats 4000000 in
set_option maxRecDepth 100000 in
theorem c3_best (l : Launch) (D : va_G) (kA : Nat → ClassId) (b0 : Nat) (t0 : Nat → Nat) (S : xT) (g : xG) (a0 : Nat) (x1 : Int) (x2 : Int) (x3 : Int) (x4 : Int) (x5 : Int) (n0 : Int) (hs_a0 : S a0 = some (13, 0)) (hx1 : (-2147483648) ≤ x1 ∧ x1 ≤ 2147483647) (hx2 : (-2147483648) ≤ x2 ∧ x2 ≤ 2147483647) (hx3 : (-2147483648) ≤ x3 ∧ x3 ≤ 2147483647) (hx4 : (-2147483648) ≤ x4 ∧ x4 ≤ 2147483647) (hx5 : (-2147483648) ≤ x5 ∧ x5 ≤ 2147483647) (hn0 : 0 ≤ n0 ∧ n0 ≤ 420) (en0 : g a0 2 = .int (iI n0)) : xMt l yX12_best cX12_best 19 (some .int) 1 0 0 24 D kA b0 t0 [(13, 0), (13, 2), (13, 70)] [.ref a0, .int (iI x1), .int (iI x2), .int (iI x3), .int (iI x4), .int (iI x5)] S g (fun (r : Option Value) (S1 : xT) (g1 : xG) => S = S1 ∧ ∃ z : Int, r = some (.int (iI z)) ∧ (-1) ≤ z ∧ z ≤ 400 ∧ (g1 a0 2 = .int (iI (0)))) := by
  refine xEnterI (by decide) (by simp [lg_sl, Value.category]) [(0, .ref a0), (1, .int (iI x1)), (2, .int (iI x2)), (3, .int (iI x3)), (4, .int (iI x4)), (5, .int (iI x5))] rfl ?_
  intro K E hK hret _ _ _
  refine X_aloadn hK (i := 0) 0 kd28_27.2.2.2.2.2.2.2.2.2.2.2 rfl rfl ?_
  refine X_iconst hK kd28_28.1 ?_
  refine X_puti hK fl_X12_198_13 hs_a0 (by decide) sl_13_0 (by omega) (by omega) kd28_28.2.1 (fun g1 hg1 => ?_)
  refine X_aloadn hK (i := 0) 0 kd28_28.2.2.1 rfl rfl ?_
  refine X_callV hK [] [] lk_X12_222 (c_X12_take _ _ _ _ _ S g1 a0 n0 hs_a0 (by omega) ((xs_k hg1 (by decide)).trans en0)) hs_a0 ⟨by decide, rfl⟩ kd28_28.2.2.2.1 rfl rfl (by simp [Value.category]) (by decide) (by decide) (by decide) (by decide) (fun r2 S4 g3 pr2 qr2 hg3 => ?_)
  obtain ⟨rfl, z5, rfl, lz5, uz5, k6, k7⟩ := pr2
  refine X_st [.int (iI z5)] rfl ?_
  refine X_istore hK (i := 6) [(6, .int (iI z5)), (0, .ref a0), (1, .int (iI x1)), (2, .int (iI x2)), (3, .int (iI x3)), (4, .int (iI x4)), (5, .int (iI x5))] kd28_28.2.2.2.2.1 (by decide) rfl ?_
  refine X_iload hK (i := 6) 0 kd28_28.2.2.2.2.2.1 rfl ?_
  refine X_bipush hK kd28_28.2.2.2.2.2.2.1 (by decide) ?_
  refine X_icmp_ne hK 66 (by omega) (by omega) kd28_28.2.2.2.2.2.2.2.1 (by decide) (fun c8 => ?_) (fun c8 => ?_)
  · refine X_iconst hK kd28_30.2.2.2.2.2.1 ?_
    exact hret _ _ _ _ _ _ _ kd28_30.2.2.2.2.2.2.1 ⟨rfl, (-1), rfl, (by omega), (by omega), (k7.trans (by congr 2 <;> omega))⟩ (Nat.le_refl _) (Nat.le_refl _)
  · refine X_iloadn hK (i := 1) 2 kd28_28.2.2.2.2.2.2.2.2.1 rfl rfl ?_
    refine X_callS hK [.int (iI x1)] [] lk_X12_219 (c_X12_isCorner _ _ _ _ _ S g3 x1 (by omega)) kd28_28.2.2.2.2.2.2.2.2.2.1 rfl rfl (by simp [Value.category]) (by decide) (by decide) (by decide) (by decide) (fun r9 S11 g10 pr9 qr9 hg10 => ?_)
    obtain ⟨rfl, rfl, z12, rfl, lz12, uz12, k13⟩ := pr9
    refine X_st [.int (iI z12)] rfl ?_
    refine X_if_eq hK 66 (by omega) kd28_28.2.2.2.2.2.2.2.2.2.2.1 (by decide) (fun c14 => ?_) (fun c14 => ?_)
    · refine X_iconst hK kd28_30.2.2.2.2.2.1 ?_
      exact hret _ _ _ _ _ _ _ kd28_30.2.2.2.2.2.2.1 ⟨rfl, (-1), rfl, (by omega), (by omega), (k7.trans (by congr 2 <;> omega))⟩ (Nat.le_refl _) (Nat.le_refl _)
    · refine X_iloadn hK (i := 2) 3 kd28_28.2.2.2.2.2.2.2.2.2.2.2 rfl rfl ?_
      refine X_callS hK [.int (iI x2)] [] lk_X12_236 (c_X12_isPaper _ _ _ _ _ S g3 x2 (by omega)) kd28_29.1 rfl rfl (by simp [Value.category]) (by decide) (by decide) (by decide) (by decide) (fun r15 S17 g16 pr15 qr15 hg16 => ?_)
      obtain ⟨rfl, rfl, z18, rfl, lz18, uz18, k19⟩ := pr15
      refine X_st [.int (iI z18)] rfl ?_
      refine X_if_eq hK 66 (by omega) kd28_29.2.1 (by decide) (fun c20 => ?_) (fun c20 => ?_)
      · refine X_iconst hK kd28_30.2.2.2.2.2.1 ?_
        exact hret _ _ _ _ _ _ _ kd28_30.2.2.2.2.2.2.1 ⟨rfl, (-1), rfl, (by omega), (by omega), (k7.trans (by congr 2 <;> omega))⟩ (Nat.le_refl _) (Nat.le_refl _)
      · refine X_iloadn hK (i := 3) 4 kd28_29.2.2.1 rfl rfl ?_
        refine X_iconst hK kd28_29.2.2.2.1 ?_
        refine X_sipush hK kd28_29.2.2.2.2.1 (by decide) ?_
        refine X_callS hK [.int (iI x3), .int (iI 0), .int (iI 1000)] [] lk_X12_211 (c_X12_isIn _ _ _ _ _ S g3 x3 0 1000 (by omega) (by omega) (by omega)) kd28_29.2.2.2.2.2.1 rfl rfl (by simp [Value.category]) (by decide) (by decide) (by decide) (by decide) (fun r21 S23 g22 pr21 qr21 hg22 => ?_)
        obtain ⟨rfl, rfl, z24, rfl, lz24, uz24, k25⟩ := pr21
        refine X_st [.int (iI z24)] rfl ?_
        refine X_if_eq hK 66 (by omega) kd28_29.2.2.2.2.2.2.1 (by decide) (fun c26 => ?_) (fun c26 => ?_)
        · refine X_iconst hK kd28_30.2.2.2.2.2.1 ?_
          exact hret _ _ _ _ _ _ _ kd28_30.2.2.2.2.2.2.1 ⟨rfl, (-1), rfl, (by omega), (by omega), (k7.trans (by congr 2 <;> omega))⟩ (Nat.le_refl _) (Nat.le_refl _)
        · refine X_iload hK (i := 4) 5 kd28_29.2.2.2.2.2.2.2.1 rfl ?_
          refine X_iconst hK kd28_29.2.2.2.2.2.2.2.2.1 ?_
          refine X_sipush hK kd28_29.2.2.2.2.2.2.2.2.2.1 (by decide) ?_
          refine X_callS hK [.int (iI x4), .int (iI 0), .int (iI 1000)] [] lk_X12_211 (c_X12_isIn _ _ _ _ _ S g3 x4 0 1000 (by omega) (by omega) (by omega)) kd28_29.2.2.2.2.2.2.2.2.2.2.1 rfl rfl (by simp [Value.category]) (by decide) (by decide) (by decide) (by decide) (fun r27 S29 g28 pr27 qr27 hg28 => ?_)
          obtain ⟨rfl, rfl, z30, rfl, lz30, uz30, k31⟩ := pr27
          refine X_st [.int (iI z30)] rfl ?_
          refine X_if_eq hK 66 (by omega) kd28_29.2.2.2.2.2.2.2.2.2.2.2 (by decide) (fun c32 => ?_) (fun c32 => ?_)
          · refine X_iconst hK kd28_30.2.2.2.2.2.1 ?_
            exact hret _ _ _ _ _ _ _ kd28_30.2.2.2.2.2.2.1 ⟨rfl, (-1), rfl, (by omega), (by omega), (k7.trans (by congr 2 <;> omega))⟩ (Nat.le_refl _) (Nat.le_refl _)
          · refine X_iload hK (i := 5) 6 kd28_30.1 rfl ?_
            refine X_iconst hK kd28_30.2.1 ?_
            refine X_bipush hK kd28_30.2.2.1 (by decide) ?_
            refine X_callS hK [.int (iI x5), .int (iI 0), .int (iI 100)] [] lk_X12_211 (c_X12_isIn _ _ _ _ _ S g3 x5 0 100 (by omega) (by omega) (by omega)) kd28_30.2.2.2.1 rfl rfl (by simp [Value.category]) (by decide) (by decide) (by decide) (by decide) (fun r33 S35 g34 pr33 qr33 hg34 => ?_)
            obtain ⟨rfl, rfl, z36, rfl, lz36, uz36, k37⟩ := pr33
            refine X_st [.int (iI z36)] rfl ?_
            refine X_if_ne hK 68 (by omega) kd28_30.2.2.2.2.1 (by decide) (fun c38 => ?_) (fun c38 => ?_)
            · refine X_iconst hK kd28_30.2.2.2.2.2.2.2.1 ?_
              refine X_istore hK (i := 7) [(7, .int (iI 0)), (6, .int (iI z5)), (0, .ref a0), (1, .int (iI x1)), (2, .int (iI x2)), (3, .int (iI x3)), (4, .int (iI x4)), (5, .int (iI x5))] kd28_30.2.2.2.2.2.2.2.2.1 (by decide) rfl ?_
              have P102679 : ∀ (nP102679 : Nat) (z82152 : Int) (_ : 0 ≤ z82152) (_ : z82152 ≤ 10) (_ : 26 - z82152 < (nP102679 : Int)), X K E 71 [(7, .int (iI z82152)), (6, .int (iI z5)), (0, .ref a0), (1, .int (iI x1)), (2, .int (iI x2)), (3, .int (iI x3)), (4, .int (iI x4)), (5, .int (iI x5))] [] S g3 0 0 := by
                intro nP102679
                induction nP102679 with
                | zero => intro z82152 lz82152 uz82152 mP102679; exact False.elim (by omega)
                | succ nP102679 ihP102679 =>
                  intro z82152 lz82152 uz82152 mP102679
                  refine X_iload hK (i := 7) 0 kd28_30.2.2.2.2.2.2.2.2.2.1 rfl ?_
                  refine X_iload hK (i := 6) 1 kd28_30.2.2.2.2.2.2.2.2.2.2.1 rfl ?_
                  refine X_icmp_ge hK 98 (by omega) (by omega) kd28_30.2.2.2.2.2.2.2.2.2.2.2 (by decide) (fun c102680 => ?_) (fun c102680 => ?_)
                  · refine X_iconst hK kd28_31.2.2.2.2.2.2.2.2.2.2.1 ?_
                    refine X_istore hK (i := 7) [(7, .int (iI 0)), (6, .int (iI z5)), (0, .ref a0), (1, .int (iI x1)), (2, .int (iI x2)), (3, .int (iI x3)), (4, .int (iI x4)), (5, .int (iI x5))] kd28_31.2.2.2.2.2.2.2.2.2.2.2 (by decide) rfl ?_
                    refine X_lconst hK kd28_32.1 (fun y102681 => ?_)
                    refine X_lstore hK (i := 8) [(8, .long y102681), (7, .int (iI 0)), (6, .int (iI z5)), (0, .ref a0), (1, .int (iI x1)), (2, .int (iI x2)), (3, .int (iI x3)), (4, .int (iI x4)), (5, .int (iI x5))] kd28_32.2.1 (by decide) rfl ?_
                    refine X_iconst hK kd28_32.2.2.1 ?_
                    refine X_istore hK (i := 10) [(10, .int (iI 0)), (8, .long y102681), (7, .int (iI 0)), (6, .int (iI z5)), (0, .ref a0), (1, .int (iI x1)), (2, .int (iI x2)), (3, .int (iI x3)), (4, .int (iI x4)), (5, .int (iI x5))] kd28_32.2.2.2.1 (by decide) rfl ?_
                    have P120616 : ∀ (nP120616 : Nat) (z118027 : Int) (_ : 0 ≤ z118027) (_ : z118027 ≤ 401) (y118028 : Int64) (z118029 : Int) (_ : 0 ≤ z118029) (_ : z118029 ≤ 400) (_ : 417 - z118027 < (nP120616 : Int)), X K E 107 [(10, .int (iI z118027)), (8, .long y118028), (7, .int (iI z118029)), (6, .int (iI z5)), (0, .ref a0), (1, .int (iI x1)), (2, .int (iI x2)), (3, .int (iI x3)), (4, .int (iI x4)), (5, .int (iI x5))] [] S g3 0 0 := by
                      intro nP120616
                      induction nP120616 with
                      | zero => intro z118027 lz118027 uz118027 y118028 z118029 lz118029 uz118029 mP120616; exact False.elim (by omega)
                      | succ nP120616 ihP120616 =>
                        intro z118027 lz118027 uz118027 y118028 z118029 lz118029 uz118029 mP120616
                        refine X_iload hK (i := 10) 0 kd28_32.2.2.2.2.1 rfl ?_
                        refine X_sipush hK kd28_32.2.2.2.2.2.1 (by decide) ?_
                        refine X_icmp_gt hK 269 (by omega) (by omega) kd28_32.2.2.2.2.2.2.1 (by decide) (fun c120617 => ?_) (fun c120617 => ?_)
                        · refine X_aloadn hK (i := 0) 4 kd28_39.2.2.2.2.2.2.2.2.1 rfl rfl ?_
                          refine X_lload hK (i := 8) 1 kd28_39.2.2.2.2.2.2.2.2.2.1 rfl ?_
                          refine X_putl hK fl_X12_434_13 hs_a0 (by decide) sl_13_70 kd28_39.2.2.2.2.2.2.2.2.2.2.1 (fun g120618 hg120618 => ?_)
                          refine X_iload hK (i := 7) 2 kd28_39.2.2.2.2.2.2.2.2.2.2.2 rfl ?_
                          exact hret _ _ _ _ _ _ _ kd28_40.1 ⟨rfl, z118029, rfl, (by omega), (by omega), (((xs_k hg120618 (by decide)).trans k7).trans (by congr 2 <;> omega))⟩ (Nat.le_refl _) (Nat.le_refl _)
                        · refine X_lconst hK kd28_32.2.2.2.2.2.2.2.1 (fun y120619 => ?_)
                          refine X_lstore hK (i := 11) [(11, .long y120619), (10, .int (iI z118027)), (8, .long y118028), (7, .int (iI z118029)), (6, .int (iI z5)), (0, .ref a0), (1, .int (iI x1)), (2, .int (iI x2)), (3, .int (iI x3)), (4, .int (iI x4)), (5, .int (iI x5))] kd28_32.2.2.2.2.2.2.2.2.1 (by decide) rfl ?_
                          refine X_iconst hK kd28_32.2.2.2.2.2.2.2.2.2.1 ?_
                          refine X_istore hK (i := 13) [(13, .int (iI 0)), (11, .long y120619), (10, .int (iI z118027)), (8, .long y118028), (7, .int (iI z118029)), (6, .int (iI z5)), (0, .ref a0), (1, .int (iI x1)), (2, .int (iI x2)), (3, .int (iI x3)), (4, .int (iI x4)), (5, .int (iI x5))] kd28_32.2.2.2.2.2.2.2.2.2.2.1 (by decide) rfl ?_
                          have P123083 : ∀ (nP123083 : Nat) (z122672 : Int) (_ : 0 ≤ z122672) (_ : z122672 ≤ 4) (y122673 : Int64) (_ : 20 - z122672 < (nP123083 : Int)), X K E 121 [(13, .int (iI z122672)), (11, .long y122673), (10, .int (iI z118027)), (8, .long y118028), (7, .int (iI z118029)), (6, .int (iI z5)), (0, .ref a0), (1, .int (iI x1)), (2, .int (iI x2)), (3, .int (iI x3)), (4, .int (iI x4)), (5, .int (iI x5))] [] S g3 0 0 := by
                            intro nP123083
                            induction nP123083 with
                            | zero => intro z122672 lz122672 uz122672 y122673 mP123083; exact False.elim (by omega)
                            | succ nP123083 ihP123083 =>
                              intro z122672 lz122672 uz122672 y122673 mP123083
                              refine X_iload hK (i := 13) 0 kd28_32.2.2.2.2.2.2.2.2.2.2.2 rfl ?_
                              refine X_iconst hK kd28_33.1 ?_
                              refine X_icmp_ge hK 239 (by omega) (by omega) kd28_33.2.1 (by decide) (fun c123084 => ?_) (fun c123084 => ?_)
                              · refine X_iload hK (i := 10) 2 kd28_38.2.2.2.2.2.2.2.1 rfl ?_
                                refine X_if_le hK 255 (by omega) kd28_38.2.2.2.2.2.2.2.2.1 (by decide) (fun c123085 => ?_) (fun c123085 => ?_)
                                · refine X_lload hK (i := 11) 1 kd28_39.2.2.1 rfl ?_
                                  refine X_lstore hK (i := 8) [(8, .long y122673), (13, .int (iI z122672)), (11, .long y122673), (10, .int (iI z118027)), (7, .int (iI z118029)), (6, .int (iI z5)), (0, .ref a0), (1, .int (iI x1)), (2, .int (iI x2)), (3, .int (iI x3)), (4, .int (iI x4)), (5, .int (iI x5))] kd28_39.2.2.2.1 (by decide) rfl ?_
                                  refine X_iload hK (i := 10) 3 kd28_39.2.2.2.2.1 rfl ?_
                                  refine X_istore hK (i := 7) [(7, .int (iI z118027)), (8, .long y122673), (13, .int (iI z122672)), (11, .long y122673), (10, .int (iI z118027)), (6, .int (iI z5)), (0, .ref a0), (1, .int (iI x1)), (2, .int (iI x2)), (3, .int (iI x3)), (4, .int (iI x4)), (5, .int (iI x5))] kd28_39.2.2.2.2.2.1 (by decide) rfl ?_
                                  refine X_iinc hK (i := 10) (z := z118027) (n := 1) 4 [(10, .int (iI (z118027 + 1))), (7, .int (iI z118027)), (8, .long y122673), (13, .int (iI z122672)), (11, .long y122673), (6, .int (iI z5)), (0, .ref a0), (1, .int (iI x1)), (2, .int (iI x2)), (3, .int (iI x3)), (4, .int (iI x4)), (5, .int (iI x5))] kd28_39.2.2.2.2.2.2.1 rfl (by decide) rfl ?_
                                  refine X_goto hK 107 kd28_39.2.2.2.2.2.2.2.1 (by decide) ?_
                                  refine X_lv [(10, .int (iI (z118027 + 1))), (8, .long y122673), (7, .int (iI z118027)), (6, .int (iI z5)), (0, .ref a0), (1, .int (iI x1)), (2, .int (iI x2)), (3, .int (iI x3)), (4, .int (iI x4)), (5, .int (iI x5))] [0, 2, 1, 5, 6, 7, 8, 9, 10, 11] rfl ?_
                                  exact ihP120616  (z118027 + 1) (by omega) (by omega) y122673 z118027 (by omega) (by omega) (by omega)
                                · refine X_lload hK (i := 11) 1 kd28_38.2.2.2.2.2.2.2.2.2.1 rfl ?_
                                  refine X_lload hK (i := 8) 3 kd28_38.2.2.2.2.2.2.2.2.2.2.1 rfl ?_
                                  refine X_lcmp hK kd28_38.2.2.2.2.2.2.2.2.2.2.2 (fun z123086 lz123086 uz123086 => ?_)
                                  refine X_if_gt hK 255 (by omega) kd28_39.1 (by decide) (fun c123087 => ?_) (fun c123087 => ?_)
                                  · refine X_lload hK (i := 11) 1 kd28_39.2.2.1 rfl ?_
                                    refine X_lstore hK (i := 8) [(8, .long y122673), (13, .int (iI z122672)), (11, .long y122673), (10, .int (iI z118027)), (7, .int (iI z118029)), (6, .int (iI z5)), (0, .ref a0), (1, .int (iI x1)), (2, .int (iI x2)), (3, .int (iI x3)), (4, .int (iI x4)), (5, .int (iI x5))] kd28_39.2.2.2.1 (by decide) rfl ?_
                                    refine X_iload hK (i := 10) 3 kd28_39.2.2.2.2.1 rfl ?_
                                    refine X_istore hK (i := 7) [(7, .int (iI z118027)), (8, .long y122673), (13, .int (iI z122672)), (11, .long y122673), (10, .int (iI z118027)), (6, .int (iI z5)), (0, .ref a0), (1, .int (iI x1)), (2, .int (iI x2)), (3, .int (iI x3)), (4, .int (iI x4)), (5, .int (iI x5))] kd28_39.2.2.2.2.2.1 (by decide) rfl ?_
                                    refine X_iinc hK (i := 10) (z := z118027) (n := 1) 4 [(10, .int (iI (z118027 + 1))), (7, .int (iI z118027)), (8, .long y122673), (13, .int (iI z122672)), (11, .long y122673), (6, .int (iI z5)), (0, .ref a0), (1, .int (iI x1)), (2, .int (iI x2)), (3, .int (iI x3)), (4, .int (iI x4)), (5, .int (iI x5))] kd28_39.2.2.2.2.2.2.1 rfl (by decide) rfl ?_
                                    refine X_goto hK 107 kd28_39.2.2.2.2.2.2.2.1 (by decide) ?_
                                    refine X_lv [(10, .int (iI (z118027 + 1))), (8, .long y122673), (7, .int (iI z118027)), (6, .int (iI z5)), (0, .ref a0), (1, .int (iI x1)), (2, .int (iI x2)), (3, .int (iI x3)), (4, .int (iI x4)), (5, .int (iI x5))] [0, 2, 1, 5, 6, 7, 8, 9, 10, 11] rfl ?_
                                    exact ihP120616  (z118027 + 1) (by omega) (by omega) y122673 z118027 (by omega) (by omega) (by omega)
                                  · refine X_goto hK 263 kd28_39.2.1 (by decide) ?_
                                    refine X_iinc hK (i := 10) (z := z118027) (n := 1) 2 [(10, .int (iI (z118027 + 1))), (13, .int (iI z122672)), (11, .long y122673), (8, .long y118028), (7, .int (iI z118029)), (6, .int (iI z5)), (0, .ref a0), (1, .int (iI x1)), (2, .int (iI x2)), (3, .int (iI x3)), (4, .int (iI x4)), (5, .int (iI x5))] kd28_39.2.2.2.2.2.2.1 rfl (by decide) rfl ?_
                                    refine X_goto hK 107 kd28_39.2.2.2.2.2.2.2.1 (by decide) ?_
                                    refine X_lv [(10, .int (iI (z118027 + 1))), (8, .long y118028), (7, .int (iI z118029)), (6, .int (iI z5)), (0, .ref a0), (1, .int (iI x1)), (2, .int (iI x2)), (3, .int (iI x3)), (4, .int (iI x4)), (5, .int (iI x5))] [0, 3, 4, 5, 6, 7, 8, 9, 10, 11] rfl ?_
                                    exact ihP120616  (z118027 + 1) (by omega) (by omega) y118028 z118029 (by omega) (by omega) (by omega)
                              · refine X_iconst hK kd28_33.2.2.1 ?_
                                refine X_istore hK (i := 14) [(14, .int (iI 0)), (13, .int (iI z122672)), (11, .long y122673), (10, .int (iI z118027)), (8, .long y118028), (7, .int (iI z118029)), (6, .int (iI z5)), (0, .ref a0), (1, .int (iI x1)), (2, .int (iI x2)), (3, .int (iI x3)), (4, .int (iI x4)), (5, .int (iI x5))] kd28_33.2.2.2.1 (by decide) rfl ?_
                                have P123436 : ∀ (nP123436 : Nat) (z123378 : Int) (_ : 0 ≤ z123378) (_ : z123378 ≤ 6) (y123379 : Int64) (_ : 22 - z123378 < (nP123436 : Int)), X K E 130 [(14, .int (iI z123378)), (13, .int (iI z122672)), (11, .long y123379), (10, .int (iI z118027)), (8, .long y118028), (7, .int (iI z118029)), (6, .int (iI z5)), (0, .ref a0), (1, .int (iI x1)), (2, .int (iI x2)), (3, .int (iI x3)), (4, .int (iI x4)), (5, .int (iI x5))] [] S g3 0 0 := by
                                  intro nP123436
                                  induction nP123436 with
                                  | zero => intro z123378 lz123378 uz123378 y123379 mP123436; exact False.elim (by omega)
                                  | succ nP123436 ihP123436 =>
                                    intro z123378 lz123378 uz123378 y123379 mP123436
                                    refine X_iload hK (i := 14) 0 kd28_33.2.2.2.2.1 rfl ?_
                                    refine X_bipush hK kd28_33.2.2.2.2.2.1 (by decide) ?_
                                    refine X_icmp_ge hK 233 (by omega) (by omega) kd28_33.2.2.2.2.2.2.1 (by decide) (fun c123437 => ?_) (fun c123437 => ?_)
                                    · refine X_iinc hK (i := 13) (z := z122672) (n := 1) 1 [(13, .int (iI (z122672 + 1))), (14, .int (iI z123378)), (11, .long y123379), (10, .int (iI z118027)), (8, .long y118028), (7, .int (iI z118029)), (6, .int (iI z5)), (0, .ref a0), (1, .int (iI x1)), (2, .int (iI x2)), (3, .int (iI x3)), (4, .int (iI x4)), (5, .int (iI x5))] kd28_38.2.2.2.2.2.1 rfl (by decide) rfl ?_
                                      refine X_goto hK 121 kd28_38.2.2.2.2.2.2.1 (by decide) ?_
                                      refine X_lv [(13, .int (iI (z122672 + 1))), (11, .long y123379), (10, .int (iI z118027)), (8, .long y118028), (7, .int (iI z118029)), (6, .int (iI z5)), (0, .ref a0), (1, .int (iI x1)), (2, .int (iI x2)), (3, .int (iI x3)), (4, .int (iI x4)), (5, .int (iI x5))] [0, 2, 3, 4, 5, 6, 7, 8, 9, 10, 11, 12] rfl ?_
                                      exact ihP123083  (z122672 + 1) (by omega) (by omega) y123379 (by omega)
                                    · refine X_aloadn hK (i := 0) 7 kd28_33.2.2.2.2.2.2.2.1 rfl rfl ?_
                                      refine X_iloadn hK (i := 1) 8 kd28_33.2.2.2.2.2.2.2.2.1 rfl rfl ?_
                                      refine X_iloadn hK (i := 2) 9 kd28_33.2.2.2.2.2.2.2.2.2.1 rfl rfl ?_
                                      refine X_iload hK (i := 13) 1 kd28_33.2.2.2.2.2.2.2.2.2.2.1 rfl ?_
                                      refine X_iload hK (i := 14) 0 kd28_33.2.2.2.2.2.2.2.2.2.2.2 rfl ?_
                                      refine X_knowr 14900 40 hs_a0 (by decide) sl_13_12 (fun b123438 eb123438 hs_b123438 => ?_)
                                      refine X_knowr 15000 4 hs_a0 (by decide) sl_13_13 (fun b123439 eb123439 hs_b123439 => ?_)
                                      refine X_knowr 15100 6 hs_a0 (by decide) sl_13_14 (fun b123440 eb123440 hs_b123440 => ?_)
                                      refine X_callV hK [.int (iI x1), .int (iI x2), .int (iI z122672), .int (iI z123378)] [] lk_X12_242 (c_X12_askedOf _ _ _ _ _ S g3 a0 x1 x2 z122672 z123378 b123438 b123439 b123440 hs_a0 (by omega) (by omega) (by omega) (by omega) eb123438 hs_b123438 eb123439 hs_b123439 eb123440 hs_b123440) hs_a0 ⟨by decide, rfl⟩ kd28_34.1 rfl rfl (by simp [Value.category]) (by decide) (by decide) (by decide) (by decide) (fun r123441 S123443 g123442 pr123441 qr123441 hg123442 => ?_)
                                      obtain ⟨rfl, rfl, z123444, rfl, lz123444, uz123444, k123445⟩ := pr123441
                                      refine X_st [.int (iI z123444)] rfl ?_
                                      refine X_istore hK (i := 15) [(15, .int (iI z123444)), (14, .int (iI z123378)), (13, .int (iI z122672)), (11, .long y123379), (10, .int (iI z118027)), (8, .long y118028), (7, .int (iI z118029)), (6, .int (iI z5)), (0, .ref a0), (1, .int (iI x1)), (2, .int (iI x2)), (3, .int (iI x3)), (4, .int (iI x4)), (5, .int (iI x5))] kd28_34.2.1 (by decide) rfl ?_
                                      refine X_iload hK (i := 10) 4 kd28_34.2.2.1 rfl ?_
                                      refine X_iload hK (i := 15) 0 kd28_34.2.2.2.1 rfl ?_
                                      refine X_icmp_ge hK 161 (by omega) (by omega) kd28_34.2.2.2.2.1 (by decide) (fun c123446 => ?_) (fun c123446 => ?_)
                                      · refine X_iload hK (i := 15) 0 kd28_34.2.2.2.2.2.2.2.1 rfl ?_
                                        refine X_istore hK (i := 16) [(16, .int (iI z123444)), (15, .int (iI z123444)), (14, .int (iI z123378)), (13, .int (iI z122672)), (11, .long y123379), (10, .int (iI z118027)), (8, .long y118028), (7, .int (iI z118029)), (6, .int (iI z5)), (0, .ref a0), (1, .int (iI x1)), (2, .int (iI x2)), (3, .int (iI x3)), (4, .int (iI x4)), (5, .int (iI x5))] kd28_34.2.2.2.2.2.2.2.2.1 (by decide) rfl ?_
                                        refine X_iload hK (i := 4) 13 kd28_34.2.2.2.2.2.2.2.2.2.1 rfl ?_
                                        refine X_i2l hK kd28_34.2.2.2.2.2.2.2.2.2.2.1 (fun y123447 => ?_)
                                        refine X_iload hK (i := 16) 0 kd28_34.2.2.2.2.2.2.2.2.2.2.2 rfl ?_
                                        refine X_i2l hK kd28_35.1 (fun y123448 => ?_)
                                        refine X_lmul hK kd28_35.2.1 (fun y123449 => ?_)
                                        refine X_iload hK (i := 10) 5 kd28_35.2.2.1 rfl ?_
                                        refine X_iloadn hK (i := 3) 12 kd28_35.2.2.2.1 rfl rfl ?_
                                        refine X_callS hK [.int (iI z118027), .int (iI x3)] [.long y123449] lk_X12_399 (c_X12_cost _ _ _ _ _ S g3 z118027 x3 (by omega) (by omega)) kd28_35.2.2.2.2.1 rfl rfl (by simp [Value.category]) (by decide) (by decide) (by decide) (by decide) (fun r123450 S123452 g123451 pr123450 qr123450 hg123451 => ?_)
                                        obtain ⟨rfl, rfl, z123453, rfl, lz123453, uz123453⟩ := pr123450
                                        refine X_st [.int (iI z123453), .long y123449] rfl ?_
                                        refine X_i2l hK kd28_35.2.2.2.2.2.1 (fun y123454 => ?_)
                                        refine X_lsub hK kd28_35.2.2.2.2.2.2.1 (fun y123455 => ?_)
                                        refine X_iload hK (i := 10) 5 kd28_35.2.2.2.2.2.2.2.1 rfl ?_
                                        refine X_iload hK (i := 16) 0 kd28_35.2.2.2.2.2.2.2.2.1 rfl ?_
                                        refine X_isub hK kd28_35.2.2.2.2.2.2.2.2.2.1 ?_
                                        refine X_iload hK (i := 5) 14 kd28_35.2.2.2.2.2.2.2.2.2.2.1 rfl ?_
                                        refine X_imul hK kd28_35.2.2.2.2.2.2.2.2.2.2.2 ?_
                                        refine X_norm (fun z123456 ez123456 lz123456 uz123456 => ?_)
                                        refine X_bipush hK kd28_36.1 (by decide) ?_
                                        refine X_idiv hK (by omega) (by omega) kd28_36.2.1 (fun z123457 ez123457 fz123457 => ?_)
                                        have bz123457 : -21474836 ≤ z123457 ∧ z123457 ≤ 21474836 := by omega
                                        refine X_iloadn hK (i := 3) 12 kd28_36.2.2.1 rfl rfl ?_
                                        refine X_imul hK kd28_36.2.2.2.1 ?_
                                        refine X_norm (fun z123458 ez123458 lz123458 uz123458 => ?_)
                                        refine X_bipush hK kd28_36.2.2.2.2.1 (by decide) ?_
                                        refine X_idiv hK (by omega) (by omega) kd28_36.2.2.2.2.2.1 (fun z123459 ez123459 fz123459 => ?_)
                                        have bz123459 : -21474836 ≤ z123459 ∧ z123459 ≤ 21474836 := by omega
                                        refine X_i2l hK kd28_36.2.2.2.2.2.2.1 (fun y123460 => ?_)
                                        refine X_ladd hK kd28_36.2.2.2.2.2.2.2.1 (fun y123461 => ?_)
                                        refine X_lstore hK (i := 17) [(17, .long y123461), (16, .int (iI z123444)), (15, .int (iI z123444)), (14, .int (iI z123378)), (13, .int (iI z122672)), (11, .long y123379), (10, .int (iI z118027)), (8, .long y118028), (7, .int (iI z118029)), (6, .int (iI z5)), (0, .ref a0), (1, .int (iI x1)), (2, .int (iI x2)), (3, .int (iI x3)), (4, .int (iI x4)), (5, .int (iI x5))] kd28_36.2.2.2.2.2.2.2.2.1 (by decide) rfl ?_
                                        refine X_lload hK (i := 11) 5 kd28_36.2.2.2.2.2.2.2.2.2.1 rfl ?_
                                        refine X_lload hK (i := 17) 0 kd28_36.2.2.2.2.2.2.2.2.2.2.1 rfl ?_
                                        refine X_aloadn hK (i := 0) 10 kd28_36.2.2.2.2.2.2.2.2.2.2.2 rfl rfl ?_
                                        refine X_getr hK 14100 420 fl_X12_7_13 hs_a0 sl_13_1 kd28_37.1 (fun b123462 eb123462 hs_b123462 => ?_)
                                        refine X_iload hK (i := 13) 4 kd28_37.2.1 rfl ?_
                                        refine X_iald hK hs_b123462 (by decide) sl_14100 (by omega) (by omega) kd28_37.2.2.1 (fun z123463 ez123463 lz123463 uz123463 => ?_)
                                        refine X_i2l hK kd28_37.2.2.2.1 (fun y123464 => ?_)
                                        refine X_lmul hK kd28_37.2.2.2.2.1 (fun y123465 => ?_)
                                        refine X_aloadn hK (i := 0) 10 kd28_37.2.2.2.2.2.1 rfl rfl ?_
                                        refine X_getK hK fl_X12_7_13 hs_a0 eb123462 kd28_37.2.2.2.2.2.2.1 ?_
                                        refine X_iconst hK kd28_37.2.2.2.2.2.2.2.1 ?_
                                        refine X_iload hK (i := 14) 3 kd28_37.2.2.2.2.2.2.2.2.1 rfl ?_
                                        refine X_iadd hK kd28_37.2.2.2.2.2.2.2.2.2.1 ?_
                                        refine X_iald hK hs_b123462 (by decide) sl_14100 (by omega) (by omega) kd28_37.2.2.2.2.2.2.2.2.2.2.1 (fun z123466 ez123466 lz123466 uz123466 => ?_)
                                        refine X_i2l hK kd28_37.2.2.2.2.2.2.2.2.2.2.2 (fun y123467 => ?_)
                                        refine X_lmul hK kd28_38.1 (fun y123468 => ?_)
                                        refine X_ladd hK kd28_38.2.1 (fun y123469 => ?_)
                                        refine X_lstore hK (i := 11) [(11, .long y123469), (17, .long y123461), (16, .int (iI z123444)), (15, .int (iI z123444)), (14, .int (iI z123378)), (13, .int (iI z122672)), (10, .int (iI z118027)), (8, .long y118028), (7, .int (iI z118029)), (6, .int (iI z5)), (0, .ref a0), (1, .int (iI x1)), (2, .int (iI x2)), (3, .int (iI x3)), (4, .int (iI x4)), (5, .int (iI x5))] kd28_38.2.2.1 (by decide) rfl ?_
                                        refine X_iinc hK (i := 14) (z := z123378) (n := 1) 4 [(14, .int (iI (z123378 + 1))), (11, .long y123469), (17, .long y123461), (16, .int (iI z123444)), (15, .int (iI z123444)), (13, .int (iI z122672)), (10, .int (iI z118027)), (8, .long y118028), (7, .int (iI z118029)), (6, .int (iI z5)), (0, .ref a0), (1, .int (iI x1)), (2, .int (iI x2)), (3, .int (iI x3)), (4, .int (iI x4)), (5, .int (iI x5))] kd28_38.2.2.2.1 rfl (by decide) rfl ?_
                                        refine X_goto hK 130 kd28_38.2.2.2.2.1 (by decide) ?_
                                        refine X_lv [(14, .int (iI (z123378 + 1))), (13, .int (iI z122672)), (11, .long y123469), (10, .int (iI z118027)), (8, .long y118028), (7, .int (iI z118029)), (6, .int (iI z5)), (0, .ref a0), (1, .int (iI x1)), (2, .int (iI x2)), (3, .int (iI x3)), (4, .int (iI x4)), (5, .int (iI x5))] [0, 5, 1, 6, 7, 8, 9, 10, 11, 12, 13, 14, 15] rfl ?_
                                        exact ihP123436  (z123378 + 1) (by omega) (by omega) y123469 (by omega)
                                      · refine X_iload hK (i := 10) 4 kd28_34.2.2.2.2.2.1 rfl ?_
                                        refine X_goto hK 163 kd28_34.2.2.2.2.2.2.1 (by decide) ?_
                                        refine X_istore hK (i := 16) [(16, .int (iI z118027)), (15, .int (iI z123444)), (14, .int (iI z123378)), (13, .int (iI z122672)), (11, .long y123379), (10, .int (iI z118027)), (8, .long y118028), (7, .int (iI z118029)), (6, .int (iI z5)), (0, .ref a0), (1, .int (iI x1)), (2, .int (iI x2)), (3, .int (iI x3)), (4, .int (iI x4)), (5, .int (iI x5))] kd28_34.2.2.2.2.2.2.2.2.1 (by decide) rfl ?_
                                        refine X_iload hK (i := 4) 13 kd28_34.2.2.2.2.2.2.2.2.2.1 rfl ?_
                                        refine X_i2l hK kd28_34.2.2.2.2.2.2.2.2.2.2.1 (fun y123470 => ?_)
                                        refine X_iload hK (i := 16) 0 kd28_34.2.2.2.2.2.2.2.2.2.2.2 rfl ?_
                                        refine X_i2l hK kd28_35.1 (fun y123471 => ?_)
                                        refine X_lmul hK kd28_35.2.1 (fun y123472 => ?_)
                                        refine X_iload hK (i := 10) 5 kd28_35.2.2.1 rfl ?_
                                        refine X_iloadn hK (i := 3) 12 kd28_35.2.2.2.1 rfl rfl ?_
                                        refine X_callS hK [.int (iI z118027), .int (iI x3)] [.long y123472] lk_X12_399 (c_X12_cost _ _ _ _ _ S g3 z118027 x3 (by omega) (by omega)) kd28_35.2.2.2.2.1 rfl rfl (by simp [Value.category]) (by decide) (by decide) (by decide) (by decide) (fun r123473 S123475 g123474 pr123473 qr123473 hg123474 => ?_)
                                        obtain ⟨rfl, rfl, z123476, rfl, lz123476, uz123476⟩ := pr123473
                                        refine X_st [.int (iI z123476), .long y123472] rfl ?_
                                        refine X_i2l hK kd28_35.2.2.2.2.2.1 (fun y123477 => ?_)
                                        refine X_lsub hK kd28_35.2.2.2.2.2.2.1 (fun y123478 => ?_)
                                        refine X_iload hK (i := 10) 5 kd28_35.2.2.2.2.2.2.2.1 rfl ?_
                                        refine X_iload hK (i := 16) 0 kd28_35.2.2.2.2.2.2.2.2.1 rfl ?_
                                        refine X_isub hK kd28_35.2.2.2.2.2.2.2.2.2.1 ?_
                                        refine X_iload hK (i := 5) 14 kd28_35.2.2.2.2.2.2.2.2.2.2.1 rfl ?_
                                        refine X_imul hK kd28_35.2.2.2.2.2.2.2.2.2.2.2 ?_
                                        refine X_norm (fun z123479 ez123479 lz123479 uz123479 => ?_)
                                        refine X_bipush hK kd28_36.1 (by decide) ?_
                                        refine X_idiv hK (by omega) (by omega) kd28_36.2.1 (fun z123480 ez123480 fz123480 => ?_)
                                        have bz123480 : -21474836 ≤ z123480 ∧ z123480 ≤ 21474836 := by omega
                                        refine X_iloadn hK (i := 3) 12 kd28_36.2.2.1 rfl rfl ?_
                                        refine X_imul hK kd28_36.2.2.2.1 ?_
                                        refine X_norm (fun z123481 ez123481 lz123481 uz123481 => ?_)
                                        refine X_bipush hK kd28_36.2.2.2.2.1 (by decide) ?_
                                        refine X_idiv hK (by omega) (by omega) kd28_36.2.2.2.2.2.1 (fun z123482 ez123482 fz123482 => ?_)
                                        have bz123482 : -21474836 ≤ z123482 ∧ z123482 ≤ 21474836 := by omega
                                        refine X_i2l hK kd28_36.2.2.2.2.2.2.1 (fun y123483 => ?_)
                                        refine X_ladd hK kd28_36.2.2.2.2.2.2.2.1 (fun y123484 => ?_)
                                        refine X_lstore hK (i := 17) [(17, .long y123484), (16, .int (iI z118027)), (15, .int (iI z123444)), (14, .int (iI z123378)), (13, .int (iI z122672)), (11, .long y123379), (10, .int (iI z118027)), (8, .long y118028), (7, .int (iI z118029)), (6, .int (iI z5)), (0, .ref a0), (1, .int (iI x1)), (2, .int (iI x2)), (3, .int (iI x3)), (4, .int (iI x4)), (5, .int (iI x5))] kd28_36.2.2.2.2.2.2.2.2.1 (by decide) rfl ?_
                                        refine X_lload hK (i := 11) 5 kd28_36.2.2.2.2.2.2.2.2.2.1 rfl ?_
                                        refine X_lload hK (i := 17) 0 kd28_36.2.2.2.2.2.2.2.2.2.2.1 rfl ?_
                                        refine X_aloadn hK (i := 0) 10 kd28_36.2.2.2.2.2.2.2.2.2.2.2 rfl rfl ?_
                                        refine X_getr hK 14100 420 fl_X12_7_13 hs_a0 sl_13_1 kd28_37.1 (fun b123485 eb123485 hs_b123485 => ?_)
                                        refine X_iload hK (i := 13) 4 kd28_37.2.1 rfl ?_
                                        refine X_iald hK hs_b123485 (by decide) sl_14100 (by omega) (by omega) kd28_37.2.2.1 (fun z123486 ez123486 lz123486 uz123486 => ?_)
                                        refine X_i2l hK kd28_37.2.2.2.1 (fun y123487 => ?_)
                                        refine X_lmul hK kd28_37.2.2.2.2.1 (fun y123488 => ?_)
                                        refine X_aloadn hK (i := 0) 10 kd28_37.2.2.2.2.2.1 rfl rfl ?_
                                        refine X_getK hK fl_X12_7_13 hs_a0 eb123485 kd28_37.2.2.2.2.2.2.1 ?_
                                        refine X_iconst hK kd28_37.2.2.2.2.2.2.2.1 ?_
                                        refine X_iload hK (i := 14) 3 kd28_37.2.2.2.2.2.2.2.2.1 rfl ?_
                                        refine X_iadd hK kd28_37.2.2.2.2.2.2.2.2.2.1 ?_
                                        refine X_iald hK hs_b123485 (by decide) sl_14100 (by omega) (by omega) kd28_37.2.2.2.2.2.2.2.2.2.2.1 (fun z123489 ez123489 lz123489 uz123489 => ?_)
                                        refine X_i2l hK kd28_37.2.2.2.2.2.2.2.2.2.2.2 (fun y123490 => ?_)
                                        refine X_lmul hK kd28_38.1 (fun y123491 => ?_)
                                        refine X_ladd hK kd28_38.2.1 (fun y123492 => ?_)
                                        refine X_lstore hK (i := 11) [(11, .long y123492), (17, .long y123484), (16, .int (iI z118027)), (15, .int (iI z123444)), (14, .int (iI z123378)), (13, .int (iI z122672)), (10, .int (iI z118027)), (8, .long y118028), (7, .int (iI z118029)), (6, .int (iI z5)), (0, .ref a0), (1, .int (iI x1)), (2, .int (iI x2)), (3, .int (iI x3)), (4, .int (iI x4)), (5, .int (iI x5))] kd28_38.2.2.1 (by decide) rfl ?_
                                        refine X_iinc hK (i := 14) (z := z123378) (n := 1) 4 [(14, .int (iI (z123378 + 1))), (11, .long y123492), (17, .long y123484), (16, .int (iI z118027)), (15, .int (iI z123444)), (13, .int (iI z122672)), (10, .int (iI z118027)), (8, .long y118028), (7, .int (iI z118029)), (6, .int (iI z5)), (0, .ref a0), (1, .int (iI x1)), (2, .int (iI x2)), (3, .int (iI x3)), (4, .int (iI x4)), (5, .int (iI x5))] kd28_38.2.2.2.1 rfl (by decide) rfl ?_
                                        refine X_goto hK 130 kd28_38.2.2.2.2.1 (by decide) ?_
                                        refine X_lv [(14, .int (iI (z123378 + 1))), (13, .int (iI z122672)), (11, .long y123492), (10, .int (iI z118027)), (8, .long y118028), (7, .int (iI z118029)), (6, .int (iI z5)), (0, .ref a0), (1, .int (iI x1)), (2, .int (iI x2)), (3, .int (iI x3)), (4, .int (iI x4)), (5, .int (iI x5))] [0, 5, 1, 6, 7, 8, 9, 10, 11, 12, 13, 14, 15] rfl ?_
                                        exact ihP123436  (z123378 + 1) (by omega) (by omega) y123492 (by omega)
                                exact P123436 ((22 - 0 : Int).toNat + 1) 0 (by omega) (by omega) y122673 (by omega)
                          exact P123083 ((20 - 0 : Int).toNat + 1) 0 (by omega) (by omega) y120619 (by omega)
                    exact P120616 ((417 - 0 : Int).toNat + 1) 0 (by omega) (by omega) y102681 0 (by omega) (by omega) (by omega)
                  · refine X_aloadn hK (i := 0) 2 kd28_31.1 rfl rfl ?_
                    refine X_getr hK 14100 420 fl_X12_7_13 hs_a0 sl_13_1 kd28_31.2.1 (fun b123493 eb123493 hs_b123493 => ?_)
                    refine X_iload hK (i := 7) 0 kd28_31.2.2.1 rfl ?_
                    refine X_iald hK hs_b123493 (by decide) sl_14100 (by omega) (by omega) kd28_31.2.2.2.1 (fun z123494 ez123494 lz123494 uz123494 => ?_)
                    refine X_bipush hK kd28_31.2.2.2.2.1 (by decide) ?_
                    refine X_icmp_le hK 92 (by omega) (by omega) kd28_31.2.2.2.2.2.1 (by decide) (fun c123495 => ?_) (fun c123495 => ?_)
                    · refine X_iinc hK (i := 7) (z := z82152) (n := 1) 0 [(7, .int (iI (z82152 + 1))), (6, .int (iI z5)), (0, .ref a0), (1, .int (iI x1)), (2, .int (iI x2)), (3, .int (iI x3)), (4, .int (iI x4)), (5, .int (iI x5))] kd28_31.2.2.2.2.2.2.2.2.1 rfl (by decide) rfl ?_
                      refine X_goto hK 71 kd28_31.2.2.2.2.2.2.2.2.2.1 (by decide) ?_
                      exact ihP102679  (z82152 + 1) (by omega) (by omega) (by omega)
                    · refine X_iconst hK kd28_31.2.2.2.2.2.2.1 ?_
                      exact hret _ _ _ _ _ _ _ kd28_31.2.2.2.2.2.2.2.1 ⟨rfl, (-1), rfl, (by omega), (by omega), (k7.trans (by congr 2 <;> omega))⟩ (Nat.le_refl _) (Nat.le_refl _)
              exact P102679 ((26 - 0 : Int).toNat + 1) 0 (by omega) (by omega) (by omega)
            · refine X_iconst hK kd28_30.2.2.2.2.2.1 ?_
              exact hret _ _ _ _ _ _ _ kd28_30.2.2.2.2.2.2.1 ⟨rfl, (-1), rfl, (by omega), (by omega), (k7.trans (by congr 2 <;> omega))⟩ (Nat.le_refl _) (Nat.le_refl _)
