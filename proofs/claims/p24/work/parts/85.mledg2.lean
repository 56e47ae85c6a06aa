
set_option maxHeartbeats 4000000 in
set_option maxRecDepth 100000 in
theorem m_countOf (l : Launch) (D : va_G) (kA : Nat → ClassId) (b0 : Nat) (t0 : Nat → Nat) (S : xT) (g : xG) (a0 : Nat) (x1 : Int) (x2 : Int) (x3 : Int) (x4 : Int) (nc : Int) (cpa : Nat) (cco : Nat) (cda : Nat) (ccn : Nat) (cto : Nat) (L : Nat → Int → Int) (hs_a0 : S a0 = some (13, 0)) (hx1 : (-2147483648) ≤ x1 ∧ x1 ≤ 2147483647) (hx2 : (-2147483648) ≤ x2 ∧ x2 ≤ 2147483647) (hx3 : (-2147483648) ≤ x3 ∧ x3 ≤ 2147483647) (hx4 : (-2147483648) ≤ x4 ∧ x4 ≤ 2147483647) (hnc : 0 ≤ nc ∧ nc ≤ 60) (enc : g a0 69 = .int (iI nc)) (ecpa : g a0 64 = .ref cpa) (hs_cpa : S cpa = some (17600, 60)) (ecco : g a0 65 = .ref cco) (hs_cco : S cco = some (17700, 60)) (ecda : g a0 66 = .ref cda) (hs_cda : S cda = some (17800, 60)) (eccn : g a0 67 = .ref ccn) (hs_ccn : S ccn = some (17900, 60)) (ecto : g a0 68 = .ref cto) (hs_cto : S cto = some (18000, 60)) (hp0 : xLgM nc (xv g cpa) (xv g cco) (xv g cda) (xv g ccn) (xv g cto) L) : xMt l yX12_countOf cX12_countOf 7 (some .int) 0 0 0 0 D kA b0 t0 [] [.ref a0, .int (iI x1), .int (iI x2), .int (iI x3), .int (iI x4)] S g (fun (r : Option Value) (S1 : xT) (g1 : xG) => S = S1 ∧ g = g1 ∧ ∃ z : Int, r = some (.int (iI z)) ∧ (-1) ≤ z ∧ z ≤ 59 ∧ (z = xlst9 L x4 x1 x2 x3 nc.toNat)) := by
  refine xEnterI (by decide) (by simp [lg_sl, Value.category]) [(0, .ref a0), (1, .int (iI x1)), (2, .int (iI x2)), (3, .int (iI x3)), (4, .int (iI x4))] rfl ?_
  intro K E hK hret _ _ _
  refine X_iconst hK kd28_52.2.2.2.2.1 ?_
  refine X_istore hK (i := 5) [(5, .int (iI (-1))), (0, .ref a0), (1, .int (iI x1)), (2, .int (iI x2)), (3, .int (iI x3)), (4, .int (iI x4))] kd28_52.2.2.2.2.2.1 (by decide) rfl ?_
  refine X_iconst hK kd28_52.2.2.2.2.2.2.1 ?_
  refine X_istore hK (i := 6) [(6, .int (iI 0)), (5, .int (iI (-1))), (0, .ref a0), (1, .int (iI x1)), (2, .int (iI x2)), (3, .int (iI x3)), (4, .int (iI x4))] kd28_52.2.2.2.2.2.2.2.1 (by decide) rfl ?_
  have P61 : ∀ (nP61 : Nat) (z46 : Int) (_ : 0 ≤ z46) (_ : z46 ≤ 60) (z47 : Int) (_ : (-1) ≤ z47) (_ : z47 ≤ 59) (_ : z47 = xlst9 L x4 x1 x2 x3 z46.toNat) (_ : z46 ≤ nc) (_ : 100 - z46 < (nP61 : Int)), X K E 6 [(6, .int (iI z46)), (5, .int (iI z47)), (0, .ref a0), (1, .int (iI x1)), (2, .int (iI x2)), (3, .int (iI x3)), (4, .int (iI x4))] [] S g 0 0 := by
    intro nP61
    induction nP61 with
    | zero => intro z46 lz46 uz46 z47 lz47 uz47 v62 v63 mP61; exact False.elim (by omega)
    | succ nP61 ihP61 =>
      intro z46 lz46 uz46 z47 lz47 uz47 v62 v63 mP61
      refine X_iload hK (i := 6) 0 kd28_52.2.2.2.2.2.2.2.2.1 rfl ?_
      refine X_aloadn hK (i := 0) 2 kd28_52.2.2.2.2.2.2.2.2.2.1 rfl rfl ?_
      refine X_getK hK fl_X12_421_13 hs_a0 enc kd28_52.2.2.2.2.2.2.2.2.2.2.1 ?_
      refine X_icmp_ge hK 70 (by omega) (by omega) kd28_52.2.2.2.2.2.2.2.2.2.2.2 (by decide) (fun c64 => ?_) (fun c64 => ?_)
      · refine X_iload hK (i := 5) 1 kd28_55.2.2.2.2.1 rfl ?_
        exact hret _ _ _ _ _ _ _ kd28_55.2.2.2.2.2.1 ⟨rfl, rfl, z47, rfl, (by omega), (by omega), (by rw [show nc.toNat = (z46).toNat by omega]; exact v62)⟩ (Nat.le_refl _) (Nat.le_refl _)
      · refine X_aloadn hK (i := 0) 2 kd28_53.1 rfl rfl ?_
        refine X_getK hK fl_X12_147_13 hs_a0 ecto kd28_53.2.1 ?_
        refine X_iload hK (i := 6) 0 kd28_53.2.2.1 rfl ?_
        refine X_iald hK hs_cto (by decide) sl_18000 (by omega) (by omega) kd28_53.2.2.2.1 (fun z65 ez65 lz65 uz65 => ?_)
        have hw66 : xv g cto z46 = z65 := (xv_e (j := z46) ez65 (by omega))
        refine X_iload hK (i := 4) 6 kd28_53.2.2.2.2.1 rfl ?_
        refine X_icmp_gt hK 64 (by omega) (by omega) kd28_53.2.2.2.2.2.1 (by decide) (fun c67 => ?_) (fun c67 => ?_)
        · refine X_iinc hK (i := 6) (z := z46) (n := 1) 0 [(6, .int (iI (z46 + 1))), (5, .int (iI z47)), (0, .ref a0), (1, .int (iI x1)), (2, .int (iI x2)), (3, .int (iI x3)), (4, .int (iI x4))] kd28_55.2.2.1 rfl (by decide) rfl ?_
          refine X_goto hK 6 kd28_55.2.2.2.1 (by decide) ?_
          exact ihP61  (z46 + 1) (by omega) (by omega) z47 (by omega) (by omega) (by rw [xlst9.n (by omega) (by have h9 := (hp0 z46 (by omega) (by omega)); have e09 := h9.2.2.2.2.1; rw [hw66] at e09; omega)]; exact v62) (by omega) (by omega)
        · refine X_aloadn hK (i := 0) 2 kd28_53.2.2.2.2.2.2.1 rfl rfl ?_
          refine X_getK hK fl_X12_135_13 hs_a0 ecpa kd28_53.2.2.2.2.2.2.2.1 ?_
          refine X_iload hK (i := 6) 0 kd28_53.2.2.2.2.2.2.2.2.1 rfl ?_
          refine X_iald hK hs_cpa (by decide) sl_17600 (by omega) (by omega) kd28_53.2.2.2.2.2.2.2.2.2.1 (fun z68 ez68 lz68 uz68 => ?_)
          have hw69 : xv g cpa z46 = z68 := (xv_e (j := z46) ez68 (by omega))
          refine X_iloadn hK (i := 1) 3 kd28_53.2.2.2.2.2.2.2.2.2.2.1 rfl rfl ?_
          refine X_icmp_ne hK 64 (by omega) (by omega) kd28_53.2.2.2.2.2.2.2.2.2.2.2 (by decide) (fun c70 => ?_) (fun c70 => ?_)
          · refine X_iinc hK (i := 6) (z := z46) (n := 1) 0 [(6, .int (iI (z46 + 1))), (5, .int (iI z47)), (0, .ref a0), (1, .int (iI x1)), (2, .int (iI x2)), (3, .int (iI x3)), (4, .int (iI x4))] kd28_55.2.2.1 rfl (by decide) rfl ?_
            refine X_goto hK 6 kd28_55.2.2.2.1 (by decide) ?_
            exact ihP61  (z46 + 1) (by omega) (by omega) z47 (by omega) (by omega) (by rw [xlst9.n (by omega) (by have h9 := (hp0 z46 (by omega) (by omega)); have e09 := h9.2.2.2.2.1; rw [hw66] at e09; have e19 := h9.1; rw [hw69] at e19; omega)]; exact v62) (by omega) (by omega)
          · refine X_aloadn hK (i := 0) 2 kd28_54.1 rfl rfl ?_
            refine X_getK hK fl_X12_138_13 hs_a0 ecco kd28_54.2.1 ?_
            refine X_iload hK (i := 6) 0 kd28_54.2.2.1 rfl ?_
            refine X_iald hK hs_cco (by decide) sl_17700 (by omega) (by omega) kd28_54.2.2.2.1 (fun z71 ez71 lz71 uz71 => ?_)
            have hw72 : xv g cco z46 = z71 := (xv_e (j := z46) ez71 (by omega))
            refine X_iloadn hK (i := 2) 4 kd28_54.2.2.2.2.1 rfl rfl ?_
            refine X_icmp_ne hK 64 (by omega) (by omega) kd28_54.2.2.2.2.2.1 (by decide) (fun c73 => ?_) (fun c73 => ?_)
            · refine X_iinc hK (i := 6) (z := z46) (n := 1) 0 [(6, .int (iI (z46 + 1))), (5, .int (iI z47)), (0, .ref a0), (1, .int (iI x1)), (2, .int (iI x2)), (3, .int (iI x3)), (4, .int (iI x4))] kd28_55.2.2.1 rfl (by decide) rfl ?_
              refine X_goto hK 6 kd28_55.2.2.2.1 (by decide) ?_
              exact ihP61  (z46 + 1) (by omega) (by omega) z47 (by omega) (by omega) (by rw [xlst9.n (by omega) (by have h9 := (hp0 z46 (by omega) (by omega)); have e09 := h9.2.2.2.2.1; rw [hw66] at e09; have e19 := h9.1; rw [hw69] at e19; have e29 := h9.2.1; rw [hw72] at e29; omega)]; exact v62) (by omega) (by omega)
            · refine X_aloadn hK (i := 0) 2 kd28_54.2.2.2.2.2.2.1 rfl rfl ?_
              refine X_getK hK fl_X12_141_13 hs_a0 ecda kd28_54.2.2.2.2.2.2.2.1 ?_
              refine X_iload hK (i := 6) 0 kd28_54.2.2.2.2.2.2.2.2.1 rfl ?_
              refine X_iald hK hs_cda (by decide) sl_17800 (by omega) (by omega) kd28_54.2.2.2.2.2.2.2.2.2.1 (fun z74 ez74 lz74 uz74 => ?_)
              have hw75 : xv g cda z46 = z74 := (xv_e (j := z46) ez74 (by omega))
              refine X_iloadn hK (i := 3) 5 kd28_54.2.2.2.2.2.2.2.2.2.2.1 rfl rfl ?_
              refine X_icmp_ne hK 64 (by omega) (by omega) kd28_54.2.2.2.2.2.2.2.2.2.2.2 (by decide) (fun c76 => ?_) (fun c76 => ?_)
              · refine X_iinc hK (i := 6) (z := z46) (n := 1) 0 [(6, .int (iI (z46 + 1))), (5, .int (iI z47)), (0, .ref a0), (1, .int (iI x1)), (2, .int (iI x2)), (3, .int (iI x3)), (4, .int (iI x4))] kd28_55.2.2.1 rfl (by decide) rfl ?_
                refine X_goto hK 6 kd28_55.2.2.2.1 (by decide) ?_
                exact ihP61  (z46 + 1) (by omega) (by omega) z47 (by omega) (by omega) (by rw [xlst9.n (by omega) (by have h9 := (hp0 z46 (by omega) (by omega)); have e09 := h9.2.2.2.2.1; rw [hw66] at e09; have e19 := h9.1; rw [hw69] at e19; have e29 := h9.2.1; rw [hw72] at e29; have e39 := h9.2.2.1; rw [hw75] at e39; omega)]; exact v62) (by omega) (by omega)
              · refine X_iload hK (i := 6) 0 kd28_55.1 rfl ?_
                refine X_istore hK (i := 5) [(5, .int (iI z46)), (6, .int (iI z46)), (0, .ref a0), (1, .int (iI x1)), (2, .int (iI x2)), (3, .int (iI x3)), (4, .int (iI x4))] kd28_55.2.1 (by decide) rfl ?_
                refine X_iinc hK (i := 6) (z := z46) (n := 1) 1 [(6, .int (iI (z46 + 1))), (5, .int (iI z46)), (0, .ref a0), (1, .int (iI x1)), (2, .int (iI x2)), (3, .int (iI x3)), (4, .int (iI x4))] kd28_55.2.2.1 rfl (by decide) rfl ?_
                refine X_goto hK 6 kd28_55.2.2.2.1 (by decide) ?_
                exact ihP61  (z46 + 1) (by omega) (by omega) z46 (by omega) (by omega) (by rw [xlst9.y (by omega) (by have h9 := (hp0 z46 (by omega) (by omega)); have e09 := h9.2.2.2.2.1; rw [hw66] at e09; have e19 := h9.1; rw [hw69] at e19; have e29 := h9.2.1; rw [hw72] at e29; have e39 := h9.2.2.1; rw [hw75] at e39; omega)]) (by omega) (by omega)
  exact P61 ((100 - 0 : Int).toNat + 1) 0 (by omega) (by omega) (-1) (by omega) (by omega) rfl (by omega) (by omega)

set_option maxHeartbeats 4000000 in
set_option maxRecDepth 100000 in
theorem m_mcameBack (l : Launch) (D : va_G) (kA : Nat → ClassId) (b0 : Nat) (t0 : Nat → Nat) (S : xT) (g : xG) (a0 : Nat) (x1 : Int) (x2 : Int) (x3 : Int) (nu : Int) (nb : Int) (wbo : Nat) (wpa : Nat) (wco : Nat) (wcp : Nat) (who : Nat) (wdy : Nat) (wcs : Nat) (wso : Nat) (wba : Nat) (wea : Nat) (Y : Nat → Int → Int) (hs_a0 : S a0 = some (13, 0)) (hx1 : (-2147483648) ≤ x1 ∧ x1 ≤ 2147483647) (hx2 : (-2147483648) ≤ x2 ∧ x2 ≤ 2147483647) (hx3 : (-2147483648) ≤ x3 ∧ x3 ≤ 2147483647) (hnu : 0 ≤ nu ∧ nu ≤ 200) (enu : g a0 58 = .int (iI nu)) (hnb : 0 ≤ nb ∧ nb ≤ 40) (enb : g a0 16 = .int (iI nb)) (ewbo : g a0 48 = .ref wbo) (hs_wbo : S wbo = some (16400, 200)) (ewpa : g a0 49 = .ref wpa) (hs_wpa : S wpa = some (16500, 200)) (ewco : g a0 50 = .ref wco) (hs_wco : S wco = some (16600, 200)) (ewcp : g a0 51 = .ref wcp) (hs_wcp : S wcp = some (16700, 200)) (ewho : g a0 52 = .ref who) (hs_who : S who = some (16800, 200)) (ewdy : g a0 53 = .ref wdy) (hs_wdy : S wdy = some (16900, 200)) (ewcs : g a0 54 = .ref wcs) (hs_wcs : S wcs = some (17000, 200)) (ewso : g a0 55 = .ref wso) (hs_wso : S wso = some (17100, 200)) (ewba : g a0 56 = .ref wba) (hs_wba : S wba = some (17200, 200)) (ewea : g a0 57 = .ref wea) (hs_wea : S wea = some (17300, 200)) (hp0 : xRU nu nb (xv g wbo) (xv g wpa) (xv g wco) (xv g wcp) (xv g who) (xv g wdy) Y) (hp1 : xRv nu (xv g wcs) (xv g wso) (xv g wba) (xv g wea) Y) : xMt l yX12_cameBack cX12_cameBack 6 (some .int) 0 0 0 0 D kA b0 t0 [] [.ref a0, .int (iI x1), .int (iI x2), .int (iI x3)] S g (fun (r : Option Value) (S1 : xT) (g1 : xG) => S = S1 ∧ g = g1 ∧ ∃ z : Int, r = some (.int (iI z)) ∧ (-2147483648) ≤ z ∧ z ≤ 2147483647 ∧ (z = xcb9 Y nu.toNat x1 x2 x3)) := by
  refine xEnterI (by decide) (by simp [lg_sl, Value.category]) [(0, .ref a0), (1, .int (iI x1)), (2, .int (iI x2)), (3, .int (iI x3))] rfl ?_
  intro K E hK hret _ _ _
  refine X_iconst hK kd28_45.2.2.2.2.2.2.2.2.2.2.2 ?_
  refine X_istore hK (i := 4) [(4, .int (iI 0)), (0, .ref a0), (1, .int (iI x1)), (2, .int (iI x2)), (3, .int (iI x3))] kd28_46.1 (by decide) rfl ?_
  refine X_iconst hK kd28_46.2.1 ?_
  refine X_istore hK (i := 5) [(5, .int (iI 0)), (4, .int (iI 0)), (0, .ref a0), (1, .int (iI x1)), (2, .int (iI x2)), (3, .int (iI x3))] kd28_46.2.2.1 (by decide) rfl ?_
  have P75 : ∀ (nP75 : Nat) (z60 : Int) (_ : 0 ≤ z60) (_ : z60 ≤ 200) (z61 : Int) (_ : (-2147483648) ≤ z61) (_ : z61 ≤ 2147483647) (_ : z61 = xwp (xzm (fun k9 => if Y 5 k9 = x3 ∧ Y 1 k9 = x1 ∧ Y 2 k9 = x2 then Y 9 k9 else 0) z60.toNat)) (_ : z60 ≤ nu) (_ : 300 - z60 < (nP75 : Int)), X K E 6 [(5, .int (iI z60)), (4, .int (iI z61)), (0, .ref a0), (1, .int (iI x1)), (2, .int (iI x2)), (3, .int (iI x3))] [] S g 0 0 := by
    intro nP75
    induction nP75 with
    | zero => intro z60 lz60 uz60 z61 lz61 uz61 v76 v77 mP75; exact False.elim (by omega)
    | succ nP75 ihP75 =>
      intro z60 lz60 uz60 z61 lz61 uz61 v76 v77 mP75
      refine X_iload hK (i := 5) 0 kd28_46.2.2.2.1 rfl ?_
      refine X_aloadn hK (i := 0) 2 kd28_46.2.2.2.2.1 rfl rfl ?_
      refine X_getK hK fl_X12_389_13 hs_a0 enu kd28_46.2.2.2.2.2.1 ?_
      refine X_icmp_ge hK 66 (by omega) (by omega) kd28_46.2.2.2.2.2.2.1 (by decide) (fun c78 => ?_) (fun c78 => ?_)
      · refine X_iload hK (i := 4) 1 kd28_48.2.2.2.2.2.2.2.2.2.2.1 rfl ?_
        exact hret _ _ _ _ _ _ _ kd28_48.2.2.2.2.2.2.2.2.2.2.2 ⟨rfl, rfl, z61, rfl, (by omega), (by omega), (by unfold xcb9; rw [show nu.toNat = (z60).toNat by omega]; exact v76)⟩ (Nat.le_refl _) (Nat.le_refl _)
      · refine X_aloadn hK (i := 0) 2 kd28_46.2.2.2.2.2.2.2.1 rfl rfl ?_
        refine X_getK hK fl_X12_105_13 hs_a0 ewdy kd28_46.2.2.2.2.2.2.2.2.1 ?_
        refine X_iload hK (i := 5) 0 kd28_46.2.2.2.2.2.2.2.2.2.1 rfl ?_
        refine X_iald hK hs_wdy (by decide) sl_16900 (by omega) (by omega) kd28_46.2.2.2.2.2.2.2.2.2.2.1 (fun z79 ez79 lz79 uz79 => ?_)
        have hw80 : xv g wdy z60 = z79 := (xv_e (j := z60) ez79 (by omega))
        refine X_iloadn hK (i := 3) 5 kd28_46.2.2.2.2.2.2.2.2.2.2.2 rfl rfl ?_
        refine X_icmp_ne hK 60 (by omega) (by omega) kd28_47.1 (by decide) (fun c81 => ?_) (fun c81 => ?_)
        · refine X_iinc hK (i := 5) (z := z60) (n := 1) 0 [(5, .int (iI (z60 + 1))), (4, .int (iI z61)), (0, .ref a0), (1, .int (iI x1)), (2, .int (iI x2)), (3, .int (iI x3))] kd28_48.2.2.2.2.2.2.2.2.1 rfl (by decide) rfl ?_
          refine X_goto hK 6 kd28_48.2.2.2.2.2.2.2.2.2.1 (by decide) ?_
          exact ihP75  (z60 + 1) (by omega) (by omega) z61 (by omega) (by omega) (by rw [xzm.s1 (by omega), ← xwp.add, ← v76]; show z61 = xwp (z61 + (if Y 5 z60 = x3 ∧ Y 1 z60 = x1 ∧ Y 2 z60 = x2 then Y 9 z60 else 0)); rw [if_neg (by have h9 := (hp0 z60 (by omega) (by omega)); have e09 := h9.2.2.2.2.2.1; rw [hw80] at e09; omega), Int.add_zero, xwp.id (by omega)]) (by omega) (by omega)
        · refine X_aloadn hK (i := 0) 2 kd28_47.2.1 rfl rfl ?_
          refine X_getK hK fl_X12_93_13 hs_a0 ewpa kd28_47.2.2.1 ?_
          refine X_iload hK (i := 5) 0 kd28_47.2.2.2.1 rfl ?_
          refine X_iald hK hs_wpa (by decide) sl_16500 (by omega) (by omega) kd28_47.2.2.2.2.1 (fun z82 ez82 lz82 uz82 => ?_)
          have hw83 : xv g wpa z60 = z82 := (xv_e (j := z60) ez82 (by omega))
          refine X_iloadn hK (i := 1) 3 kd28_47.2.2.2.2.2.1 rfl rfl ?_
          refine X_icmp_ne hK 60 (by omega) (by omega) kd28_47.2.2.2.2.2.2.1 (by decide) (fun c84 => ?_) (fun c84 => ?_)
          · refine X_iinc hK (i := 5) (z := z60) (n := 1) 0 [(5, .int (iI (z60 + 1))), (4, .int (iI z61)), (0, .ref a0), (1, .int (iI x1)), (2, .int (iI x2)), (3, .int (iI x3))] kd28_48.2.2.2.2.2.2.2.2.1 rfl (by decide) rfl ?_
            refine X_goto hK 6 kd28_48.2.2.2.2.2.2.2.2.2.1 (by decide) ?_
            exact ihP75  (z60 + 1) (by omega) (by omega) z61 (by omega) (by omega) (by rw [xzm.s1 (by omega), ← xwp.add, ← v76]; show z61 = xwp (z61 + (if Y 5 z60 = x3 ∧ Y 1 z60 = x1 ∧ Y 2 z60 = x2 then Y 9 z60 else 0)); rw [if_neg (by have h9 := (hp0 z60 (by omega) (by omega)); have e09 := h9.2.2.2.2.2.1; rw [hw80] at e09; have e19 := h9.2.1; rw [hw83] at e19; omega), Int.add_zero, xwp.id (by omega)]) (by omega) (by omega)
          · refine X_aloadn hK (i := 0) 2 kd28_47.2.2.2.2.2.2.2.1 rfl rfl ?_
            refine X_getK hK fl_X12_96_13 hs_a0 ewco kd28_47.2.2.2.2.2.2.2.2.1 ?_
            refine X_iload hK (i := 5) 0 kd28_47.2.2.2.2.2.2.2.2.2.1 rfl ?_
            refine X_iald hK hs_wco (by decide) sl_16600 (by omega) (by omega) kd28_47.2.2.2.2.2.2.2.2.2.2.1 (fun z85 ez85 lz85 uz85 => ?_)
            have hw86 : xv g wco z60 = z85 := (xv_e (j := z60) ez85 (by omega))
            refine X_iloadn hK (i := 2) 4 kd28_47.2.2.2.2.2.2.2.2.2.2.2 rfl rfl ?_
            refine X_icmp_ne hK 60 (by omega) (by omega) kd28_48.1 (by decide) (fun c87 => ?_) (fun c87 => ?_)
            · refine X_iinc hK (i := 5) (z := z60) (n := 1) 0 [(5, .int (iI (z60 + 1))), (4, .int (iI z61)), (0, .ref a0), (1, .int (iI x1)), (2, .int (iI x2)), (3, .int (iI x3))] kd28_48.2.2.2.2.2.2.2.2.1 rfl (by decide) rfl ?_
              refine X_goto hK 6 kd28_48.2.2.2.2.2.2.2.2.2.1 (by decide) ?_
              exact ihP75  (z60 + 1) (by omega) (by omega) z61 (by omega) (by omega) (by rw [xzm.s1 (by omega), ← xwp.add, ← v76]; show z61 = xwp (z61 + (if Y 5 z60 = x3 ∧ Y 1 z60 = x1 ∧ Y 2 z60 = x2 then Y 9 z60 else 0)); rw [if_neg (by have h9 := (hp0 z60 (by omega) (by omega)); have e09 := h9.2.2.2.2.2.1; rw [hw80] at e09; have e19 := h9.2.1; rw [hw83] at e19; have e29 := h9.2.2.1; rw [hw86] at e29; omega), Int.add_zero, xwp.id (by omega)]) (by omega) (by omega)
            · refine X_iload hK (i := 4) 1 kd28_48.2.1 rfl ?_
              refine X_aloadn hK (i := 0) 2 kd28_48.2.2.1 rfl rfl ?_
              refine X_getK hK fl_X12_114_13 hs_a0 ewba kd28_48.2.2.2.1 ?_
              refine X_iload hK (i := 5) 0 kd28_48.2.2.2.2.1 rfl ?_
              refine X_iald hK hs_wba (by decide) sl_17200 (by omega) (by omega) kd28_48.2.2.2.2.2.1 (fun z88 ez88 lz88 uz88 => ?_)
              have hw89 : xv g wba z60 = z88 := (xv_e (j := z60) ez88 (by omega))
              refine X_iadd hK kd28_48.2.2.2.2.2.2.1 ?_
              refine X_norm (fun z90 ez90 lz90 uz90 => ?_)
              refine X_istore hK (i := 4) [(4, .int (iI z90)), (5, .int (iI z60)), (0, .ref a0), (1, .int (iI x1)), (2, .int (iI x2)), (3, .int (iI x3))] kd28_48.2.2.2.2.2.2.2.1 (by decide) rfl ?_
              refine X_iinc hK (i := 5) (z := z60) (n := 1) 1 [(5, .int (iI (z60 + 1))), (4, .int (iI z90)), (0, .ref a0), (1, .int (iI x1)), (2, .int (iI x2)), (3, .int (iI x3))] kd28_48.2.2.2.2.2.2.2.2.1 rfl (by decide) rfl ?_
              refine X_goto hK 6 kd28_48.2.2.2.2.2.2.2.2.2.1 (by decide) ?_
              exact ihP75  (z60 + 1) (by omega) (by omega) z90 (by omega) (by omega) (by rw [xzm.s1 (by omega), ← xwp.add, ← v76]; show z90 = xwp (z61 + (if Y 5 z60 = x3 ∧ Y 1 z60 = x1 ∧ Y 2 z60 = x2 then Y 9 z60 else 0)); rw [if_pos (by have h9 := (hp0 z60 (by omega) (by omega)); have e09 := h9.2.2.2.2.2.1; rw [hw80] at e09; have e19 := h9.2.1; rw [hw83] at e19; have e29 := h9.2.2.1; rw [hw86] at e29; omega), ← (hp1 z60 (by omega) (by omega)).2.2.1, hw89]; exact xwp.of ez90 (by omega)) (by omega) (by omega)
  exact P75 ((300 - 0 : Int).toNat + 1) 0 (by omega) (by omega) 0 (by omega) (by omega) (xwp.id (by decide)).symm (by omega) (by omega)

set_option maxHeartbeats 4000000 in
set_option maxRecDepth 100000 in
theorem m_isFirst (l : Launch) (D : va_G) (kA : Nat → ClassId) (b0 : Nat) (t0 : Nat → Nat) (S : xT) (g : xG) (a0 : Nat) (x1 : Int) (nu : Int) (nb : Int) (wbo : Nat) (wpa : Nat) (wco : Nat) (wcp : Nat) (who : Nat) (wdy : Nat) (Y : Nat → Int → Int) (hs_a0 : S a0 = some (13, 0)) (hx1 : 0 ≤ x1 ∧ x1 ≤ 199) (hnu : 0 ≤ nu ∧ nu ≤ 200) (enu : g a0 58 = .int (iI nu)) (hnb : 0 ≤ nb ∧ nb ≤ 40) (enb : g a0 16 = .int (iI nb)) (ewbo : g a0 48 = .ref wbo) (hs_wbo : S wbo = some (16400, 200)) (ewpa : g a0 49 = .ref wpa) (hs_wpa : S wpa = some (16500, 200)) (ewco : g a0 50 = .ref wco) (hs_wco : S wco = some (16600, 200)) (ewcp : g a0 51 = .ref wcp) (hs_wcp : S wcp = some (16700, 200)) (ewho : g a0 52 = .ref who) (hs_who : S who = some (16800, 200)) (ewdy : g a0 53 = .ref wdy) (hs_wdy : S wdy = some (16900, 200)) (hp0 : xRU nu nb (xv g wbo) (xv g wpa) (xv g wco) (xv g wcp) (xv g who) (xv g wdy) Y) (hp1 : x1 < nu) : xMt l yX12_isFirst cX12_isFirst 3 (some .boolean) 0 0 0 0 D kA b0 t0 [] [.ref a0, .int (iI x1)] S g (fun (r : Option Value) (S1 : xT) (g1 : xG) => S = S1 ∧ g = g1 ∧ ∃ z : Int, r = some (.int (iI z)) ∧ 0 ≤ z ∧ z ≤ 1 ∧ ((z = 1 ↔ xfm9 Y (Y 1 x1) (Y 2 x1) (Y 5 x1) x1 = 0))) := by
  refine xEnterZ (by decide) (by simp [lg_sl, Value.category]) [(0, .ref a0), (1, .int (iI x1))] rfl ?_
  intro K E hK hret _ _ _
  refine X_iconst hK kd28_98.2.2.2.2.2.2.1 ?_
  refine X_istoren hK (i := 2) [(2, .int (iI 0)), (0, .ref a0), (1, .int (iI x1))] kd28_98.2.2.2.2.2.2.2.1 rfl (by decide) rfl ?_
  have P69 : ∀ (nP69 : Nat) (z52 : Int) (_ : 0 ≤ z52) (_ : z52 ≤ 199) (_ : xfm9 Y (Y 1 x1) (Y 2 x1) (Y 5 x1) z52 = 0) (_ : z52 ≤ x1) (_ : 300 - z52 < (nP69 : Int)), X K E 2 [(2, .int (iI z52)), (0, .ref a0), (1, .int (iI x1))] [] S g 0 0 := by
    intro nP69
    induction nP69 with
    | zero => intro z52 lz52 uz52 v70 v71 mP69; exact False.elim (by omega)
    | succ nP69 ihP69 =>
      intro z52 lz52 uz52 v70 v71 mP69
      refine X_iloadn hK (i := 2) 0 kd28_98.2.2.2.2.2.2.2.2.1 rfl rfl ?_
      refine X_iloadn hK (i := 1) 2 kd28_98.2.2.2.2.2.2.2.2.2.1 rfl rfl ?_
      refine X_icmp_ge hK 60 (by omega) (by omega) kd28_98.2.2.2.2.2.2.2.2.2.2.1 (by decide) (fun c72 => ?_) (fun c72 => ?_)
      · refine X_iconst hK kd28_101.2.2.2.2.2.2.1 ?_
        exact hret _ _ _ _ _ _ _ kd28_101.2.2.2.2.2.2.2.1 (by omega) (by omega) ⟨rfl, rfl, 1, rfl, (by omega), (by omega), ⟨fun _ => (by have h9 := v70; rw [show z52 = x1 by omega] at h9; exact h9), fun _ => rfl⟩⟩ (Nat.le_refl _) (Nat.le_refl _)
      · refine X_aloadn hK (i := 0) 1 kd28_98.2.2.2.2.2.2.2.2.2.2.2 rfl rfl ?_
        refine X_getK hK fl_X12_105_13 hs_a0 ewdy kd28_99.1 ?_
        refine X_iloadn hK (i := 2) 0 kd28_99.2.1 rfl rfl ?_
        refine X_iald hK hs_wdy (by decide) sl_16900 (by omega) (by omega) kd28_99.2.2.1 (fun z73 ez73 lz73 uz73 => ?_)
        have hw74 : xv g wdy z52 = z73 := (xv_e (j := z52) ez73 (by omega))
        refine X_aloadn hK (i := 0) 1 kd28_99.2.2.2.1 rfl rfl ?_
        refine X_getK hK fl_X12_105_13 hs_a0 ewdy kd28_99.2.2.2.2.1 ?_
        refine X_iloadn hK (i := 1) 2 kd28_99.2.2.2.2.2.1 rfl rfl ?_
        refine X_iald hK hs_wdy (by decide) sl_16900 (by omega) (by omega) kd28_99.2.2.2.2.2.2.1 (fun z75 ez75 lz75 uz75 => ?_)
        have hw76 : xv g wdy x1 = z75 := (xv_e (j := x1) ez75 (by omega))
        refine X_icmp_ne hK 54 (by omega) (by omega) kd28_99.2.2.2.2.2.2.2.1 (by decide) (fun c77 => ?_) (fun c77 => ?_)
        · refine X_iinc hK (i := 2) (z := z52) (n := 1) 0 [(2, .int (iI (z52 + 1))), (0, .ref a0), (1, .int (iI x1))] kd28_101.2.2.2.2.1 rfl (by decide) rfl ?_
          refine X_goto hK 2 kd28_101.2.2.2.2.2.1 (by decide) ?_
          exact ihP69  (z52 + 1) (by omega) (by omega) (by unfold xfm9 at *; rw [xzm.s1 (by omega), v70]; show 0 + (if _ then _ else _) = (0 : Int); rw [if_neg (by have h9 := (hp0 z52 (by omega) (by omega)); have h8 := (hp0 x1 (by omega) (by omega)); have e09 := h9.2.2.2.2.2.1; have f09 := h8.2.2.2.2.2.1; rw [hw74] at e09; rw [hw76] at f09; omega)]; rfl) (by omega) (by omega)
        · refine X_aloadn hK (i := 0) 1 kd28_99.2.2.2.2.2.2.2.2.1 rfl rfl ?_
          refine X_getK hK fl_X12_93_13 hs_a0 ewpa kd28_99.2.2.2.2.2.2.2.2.2.1 ?_
          refine X_iloadn hK (i := 2) 0 kd28_99.2.2.2.2.2.2.2.2.2.2.1 rfl rfl ?_
          refine X_iald hK hs_wpa (by decide) sl_16500 (by omega) (by omega) kd28_99.2.2.2.2.2.2.2.2.2.2.2 (fun z78 ez78 lz78 uz78 => ?_)
          have hw79 : xv g wpa z52 = z78 := (xv_e (j := z52) ez78 (by omega))
          refine X_aloadn hK (i := 0) 1 kd28_100.1 rfl rfl ?_
          refine X_getK hK fl_X12_93_13 hs_a0 ewpa kd28_100.2.1 ?_
          refine X_iloadn hK (i := 1) 2 kd28_100.2.2.1 rfl rfl ?_
          refine X_iald hK hs_wpa (by decide) sl_16500 (by omega) (by omega) kd28_100.2.2.2.1 (fun z80 ez80 lz80 uz80 => ?_)
          have hw81 : xv g wpa x1 = z80 := (xv_e (j := x1) ez80 (by omega))
          refine X_icmp_ne hK 54 (by omega) (by omega) kd28_100.2.2.2.2.1 (by decide) (fun c82 => ?_) (fun c82 => ?_)
          · refine X_iinc hK (i := 2) (z := z52) (n := 1) 0 [(2, .int (iI (z52 + 1))), (0, .ref a0), (1, .int (iI x1))] kd28_101.2.2.2.2.1 rfl (by decide) rfl ?_
            refine X_goto hK 2 kd28_101.2.2.2.2.2.1 (by decide) ?_
            exact ihP69  (z52 + 1) (by omega) (by omega) (by unfold xfm9 at *; rw [xzm.s1 (by omega), v70]; show 0 + (if _ then _ else _) = (0 : Int); rw [if_neg (by have h9 := (hp0 z52 (by omega) (by omega)); have h8 := (hp0 x1 (by omega) (by omega)); have e09 := h9.2.2.2.2.2.1; have f09 := h8.2.2.2.2.2.1; rw [hw74] at e09; rw [hw76] at f09; have e19 := h9.2.1; have f19 := h8.2.1; rw [hw79] at e19; rw [hw81] at f19; omega)]; rfl) (by omega) (by omega)
          · refine X_aloadn hK (i := 0) 1 kd28_100.2.2.2.2.2.1 rfl rfl ?_
            refine X_getK hK fl_X12_96_13 hs_a0 ewco kd28_100.2.2.2.2.2.2.1 ?_
            refine X_iloadn hK (i := 2) 0 kd28_100.2.2.2.2.2.2.2.1 rfl rfl ?_
            refine X_iald hK hs_wco (by decide) sl_16600 (by omega) (by omega) kd28_100.2.2.2.2.2.2.2.2.1 (fun z83 ez83 lz83 uz83 => ?_)
            have hw84 : xv g wco z52 = z83 := (xv_e (j := z52) ez83 (by omega))
            refine X_aloadn hK (i := 0) 1 kd28_100.2.2.2.2.2.2.2.2.2.1 rfl rfl ?_
            refine X_getK hK fl_X12_96_13 hs_a0 ewco kd28_100.2.2.2.2.2.2.2.2.2.2.1 ?_
            refine X_iloadn hK (i := 1) 2 kd28_100.2.2.2.2.2.2.2.2.2.2.2 rfl rfl ?_
            refine X_iald hK hs_wco (by decide) sl_16600 (by omega) (by omega) kd28_101.1 (fun z85 ez85 lz85 uz85 => ?_)
            have hw86 : xv g wco x1 = z85 := (xv_e (j := x1) ez85 (by omega))
            refine X_icmp_ne hK 54 (by omega) (by omega) kd28_101.2.1 (by decide) (fun c87 => ?_) (fun c87 => ?_)
            · refine X_iinc hK (i := 2) (z := z52) (n := 1) 0 [(2, .int (iI (z52 + 1))), (0, .ref a0), (1, .int (iI x1))] kd28_101.2.2.2.2.1 rfl (by decide) rfl ?_
              refine X_goto hK 2 kd28_101.2.2.2.2.2.1 (by decide) ?_
              exact ihP69  (z52 + 1) (by omega) (by omega) (by unfold xfm9 at *; rw [xzm.s1 (by omega), v70]; show 0 + (if _ then _ else _) = (0 : Int); rw [if_neg (by have h9 := (hp0 z52 (by omega) (by omega)); have h8 := (hp0 x1 (by omega) (by omega)); have e09 := h9.2.2.2.2.2.1; have f09 := h8.2.2.2.2.2.1; rw [hw74] at e09; rw [hw76] at f09; have e19 := h9.2.1; have f19 := h8.2.1; rw [hw79] at e19; rw [hw81] at f19; have e29 := h9.2.2.1; have f29 := h8.2.2.1; rw [hw84] at e29; rw [hw86] at f29; omega)]; rfl) (by omega) (by omega)
            · refine X_iconst hK kd28_101.2.2.1 ?_
              exact hret _ _ _ _ _ _ _ kd28_101.2.2.2.1 (by omega) (by omega) ⟨rfl, rfl, 0, rfl, (by omega), (by omega), ⟨fun h9 => by omega, fun h9 => by have h6 := xfm9.pos (Y := Y) (p := Y 1 x1) (c := Y 2 x1) (d := Y 5 x1) (i := x1) (j := z52) (by omega) (by have h9 := (hp0 z52 (by omega) (by omega)); have h8 := (hp0 x1 (by omega) (by omega)); have e09 := h9.2.2.2.2.2.1; have f09 := h8.2.2.2.2.2.1; rw [hw74] at e09; rw [hw76] at f09; have e19 := h9.2.1; have f19 := h8.2.1; rw [hw79] at e19; rw [hw81] at f19; have e29 := h9.2.2.1; have f29 := h8.2.2.1; rw [hw84] at e29; rw [hw86] at f29; omega); omega⟩⟩ (Nat.le_refl _) (Nat.le_refl _)
  exact P69 ((300 - 0 : Int).toNat + 1) 0 (by omega) (by omega) rfl (by omega) (by omega)

set_option maxHeartbeats 4000000 in
set_option maxRecDepth 100000 in
theorem m_mfalseCounts (l : Launch) (D : va_G) (kA : Nat → ClassId) (b0 : Nat) (t0 : Nat → Nat) (S : xT) (g : xG) (a0 : Nat) (x1 : Int) (nu : Int) (nb : Int) (nc : Int) (wbo : Nat) (wpa : Nat) (wco : Nat) (wcp : Nat) (who : Nat) (wdy : Nat) (wcs : Nat) (wso : Nat) (wba : Nat) (wea : Nat) (cpa : Nat) (cco : Nat) (cda : Nat) (ccn : Nat) (cto : Nat) (Y : Nat → Int → Int) (L : Nat → Int → Int) (hs_a0 : S a0 = some (13, 0)) (hx1 : (-2147483648) ≤ x1 ∧ x1 ≤ 2147483647) (hnu : 0 ≤ nu ∧ nu ≤ 200) (enu : g a0 58 = .int (iI nu)) (hnb : 0 ≤ nb ∧ nb ≤ 40) (enb : g a0 16 = .int (iI nb)) (hnc : 0 ≤ nc ∧ nc ≤ 60) (enc : g a0 69 = .int (iI nc)) (ewbo : g a0 48 = .ref wbo) (hs_wbo : S wbo = some (16400, 200)) (ewpa : g a0 49 = .ref wpa) (hs_wpa : S wpa = some (16500, 200)) (ewco : g a0 50 = .ref wco) (hs_wco : S wco = some (16600, 200)) (ewcp : g a0 51 = .ref wcp) (hs_wcp : S wcp = some (16700, 200)) (ewho : g a0 52 = .ref who) (hs_who : S who = some (16800, 200)) (ewdy : g a0 53 = .ref wdy) (hs_wdy : S wdy = some (16900, 200)) (ewcs : g a0 54 = .ref wcs) (hs_wcs : S wcs = some (17000, 200)) (ewso : g a0 55 = .ref wso) (hs_wso : S wso = some (17100, 200)) (ewba : g a0 56 = .ref wba) (hs_wba : S wba = some (17200, 200)) (ewea : g a0 57 = .ref wea) (hs_wea : S wea = some (17300, 200)) (ecpa : g a0 64 = .ref cpa) (hs_cpa : S cpa = some (17600, 60)) (ecco : g a0 65 = .ref cco) (hs_cco : S cco = some (17700, 60)) (ecda : g a0 66 = .ref cda) (hs_cda : S cda = some (17800, 60)) (eccn : g a0 67 = .ref ccn) (hs_ccn : S ccn = some (17900, 60)) (ecto : g a0 68 = .ref cto) (hs_cto : S cto = some (18000, 60)) (hp0 : xRU nu nb (xv g wbo) (xv g wpa) (xv g wco) (xv g wcp) (xv g who) (xv g wdy) Y) (hp1 : xRv nu (xv g wcs) (xv g wso) (xv g wba) (xv g wea) Y) (hp2 : xLgM nc (xv g cpa) (xv g cco) (xv g cda) (xv g ccn) (xv g cto) L) : xMt l yX12_falseCounts cX12_falseCounts 7 (some .int) 1 0 0 26 D kA b0 t0 [(13, 0)] [.ref a0, .int (iI x1)] S g (fun (r : Option Value) (S1 : xT) (g1 : xG) => S = S1 ∧ ∃ z : Int, r = some (.int (iI z)) ∧ 0 ≤ z ∧ z ≤ 60 ∧ (z = xzm (xfl9 L Y nc.toNat nu.toNat x1) nc.toNat)) := by
  refine xEnterI (by decide) (by simp [lg_sl, Value.category]) [(0, .ref a0), (1, .int (iI x1))] rfl ?_
  intro K E hK hret _ _ _
  refine X_aloadn hK (i := 0) 0 kd28_61.2.2.2.2.2.2.2.2.2.2.1 rfl rfl ?_
  refine X_iconst hK kd28_61.2.2.2.2.2.2.2.2.2.2.2 ?_
  refine X_puti hK fl_X12_198_13 hs_a0 (by decide) sl_13_0 (by omega) (by omega) kd28_62.1 (fun g1 hg1 => ?_)
  refine X_iconst hK kd28_62.2.1 ?_
  refine X_istoren hK (i := 2) [(2, .int (iI 0)), (0, .ref a0), (1, .int (iI x1))] kd28_62.2.2.1 rfl (by decide) rfl ?_
  refine X_iconst hK kd28_62.2.2.2.1 ?_
  refine X_istoren hK (i := 3) [(3, .int (iI 0)), (2, .int (iI 0)), (0, .ref a0), (1, .int (iI x1))] kd28_62.2.2.2.2.1 rfl (by decide) rfl ?_
  have P94 : ∀ (nP94 : Nat) (z71 : Int) (_ : 0 ≤ z71) (_ : z71 ≤ 60) (z72 : Int) (_ : 0 ≤ z72) (_ : z72 ≤ 60) (_ : z72 = xzm (xfl9 L Y nc.toNat nu.toNat x1) z71.toNat) (_ : z72 ≤ z71) (_ : z71 ≤ nc) (_ : 100 - z71 < (nP94 : Int)), X K E 9 [(3, .int (iI z71)), (2, .int (iI z72)), (0, .ref a0), (1, .int (iI x1))] [] S g1 0 0 := by
    intro nP94
    induction nP94 with
    | zero => intro z71 lz71 uz71 z72 lz72 uz72 v95 v96 v97 mP94; exact False.elim (by omega)
    | succ nP94 ihP94 =>
      intro z71 lz71 uz71 z72 lz72 uz72 v95 v96 v97 mP94
      refine X_iloadn hK (i := 3) 0 kd28_62.2.2.2.2.2.1 rfl rfl ?_
      refine X_aloadn hK (i := 0) 2 kd28_62.2.2.2.2.2.2.1 rfl rfl ?_
      refine X_getK hK fl_X12_421_13 hs_a0 ((xs_k hg1 (by decide)).trans enc) kd28_62.2.2.2.2.2.2.2.1 ?_
      refine X_icmp_ge hK 84 (by omega) (by omega) kd28_62.2.2.2.2.2.2.2.2.1 (by decide) (fun c98 => ?_) (fun c98 => ?_)
      · refine X_iloadn hK (i := 2) 1 kd28_65.2.2.2.2.2.2.2.2.2.1 rfl rfl ?_
        exact hret _ _ _ _ _ _ _ kd28_65.2.2.2.2.2.2.2.2.2.2.1 ⟨rfl, z72, rfl, (by omega), (by omega), (by have h9 := v95; rw [show (z71).toNat = nc.toNat by omega] at h9; exact h9)⟩ (Nat.le_refl _) (Nat.le_refl _)
      · refine X_aloadn hK (i := 0) 2 kd28_62.2.2.2.2.2.2.2.2.2.1 rfl rfl ?_
        refine X_getK hK fl_X12_135_13 hs_a0 ((xs_k hg1 (by decide)).trans ecpa) kd28_62.2.2.2.2.2.2.2.2.2.2.1 ?_
        refine X_iloadn hK (i := 3) 0 kd28_62.2.2.2.2.2.2.2.2.2.2.2 rfl rfl ?_
        refine X_iald hK hs_cpa (by decide) sl_17600 (by omega) (by omega) kd28_63.1 (fun z99 ez99 lz99 uz99 => ?_)
        have hw100 : xv g cpa z71 = z99 := (by rw [← (xv_a hg1 (xne hs_cpa hs_a0 (by decide)))]; exact (xv_e (j := z71) ez99 (by omega)))
        refine X_istore hK (i := 4) [(4, .int (iI z99)), (3, .int (iI z71)), (2, .int (iI z72)), (0, .ref a0), (1, .int (iI x1))] kd28_63.2.1 (by decide) rfl ?_
        refine X_aloadn hK (i := 0) 3 kd28_63.2.2.1 rfl rfl ?_
        refine X_getK hK fl_X12_138_13 hs_a0 ((xs_k hg1 (by decide)).trans ecco) kd28_63.2.2.2.1 ?_
        refine X_iloadn hK (i := 3) 1 kd28_63.2.2.2.2.1 rfl rfl ?_
        refine X_iald hK hs_cco (by decide) sl_17700 (by omega) (by omega) kd28_63.2.2.2.2.2.1 (fun z101 ez101 lz101 uz101 => ?_)
        have hw102 : xv g cco z71 = z101 := (by rw [← (xv_a hg1 (xne hs_cco hs_a0 (by decide)))]; exact (xv_e (j := z71) ez101 (by omega)))
        refine X_istore hK (i := 5) [(5, .int (iI z101)), (4, .int (iI z99)), (3, .int (iI z71)), (2, .int (iI z72)), (0, .ref a0), (1, .int (iI x1))] kd28_63.2.2.2.2.2.2.1 (by decide) rfl ?_
        refine X_aloadn hK (i := 0) 4 kd28_63.2.2.2.2.2.2.2.1 rfl rfl ?_
        refine X_getK hK fl_X12_141_13 hs_a0 ((xs_k hg1 (by decide)).trans ecda) kd28_63.2.2.2.2.2.2.2.2.1 ?_
        refine X_iloadn hK (i := 3) 2 kd28_63.2.2.2.2.2.2.2.2.2.1 rfl rfl ?_
        refine X_iald hK hs_cda (by decide) sl_17800 (by omega) (by omega) kd28_63.2.2.2.2.2.2.2.2.2.2.1 (fun z103 ez103 lz103 uz103 => ?_)
        have hw104 : xv g cda z71 = z103 := (by rw [← (xv_a hg1 (xne hs_cda hs_a0 (by decide)))]; exact (xv_e (j := z71) ez103 (by omega)))
        refine X_istore hK (i := 6) [(6, .int (iI z103)), (5, .int (iI z101)), (4, .int (iI z99)), (3, .int (iI z71)), (2, .int (iI z72)), (0, .ref a0), (1, .int (iI x1))] kd28_63.2.2.2.2.2.2.2.2.2.2.2 (by decide) rfl ?_
        refine X_aloadn hK (i := 0) 5 kd28_64.1 rfl rfl ?_
        refine X_iload hK (i := 4) 2 kd28_64.2.1 rfl ?_
        refine X_iload hK (i := 5) 1 kd28_64.2.2.1 rfl ?_
        refine X_iload hK (i := 6) 0 kd28_64.2.2.2.1 rfl ?_
        refine X_iloadn hK (i := 1) 6 kd28_64.2.2.2.2.1 rfl rfl ?_
        refine X_callV hK [.int (iI z99), .int (iI z101), .int (iI z103), .int (iI x1)] [] lk_X12_424 (m_countOf _ _ _ _ _ S g1 a0 z99 z101 z103 x1 nc cpa cco cda ccn cto L hs_a0 (by omega) (by omega) (by omega) (by omega) (by omega) ((xs_k hg1 (by decide)).trans enc) ((xs_k hg1 (by decide)).trans ecpa) hs_cpa ((xs_k hg1 (by decide)).trans ecco) hs_cco ((xs_k hg1 (by decide)).trans ecda) hs_cda ((xs_k hg1 (by decide)).trans eccn) hs_ccn ((xs_k hg1 (by decide)).trans ecto) hs_cto (by rw [(xv_a hg1 (xne hs_cpa hs_a0 (by decide))), (xv_a hg1 (xne hs_cco hs_a0 (by decide))), (xv_a hg1 (xne hs_cda hs_a0 (by decide))), (xv_a hg1 (xne hs_ccn hs_a0 (by decide))), (xv_a hg1 (xne hs_cto hs_a0 (by decide)))]; exact hp2)) hs_a0 ⟨by decide, rfl⟩ kd28_64.2.2.2.2.2.1 rfl rfl (by simp [Value.category]) (by decide) (by decide) (by decide) (by decide) (fun r105 S107 g106 pr105 qr105 hg106 => ?_)
        obtain ⟨rfl, rfl, z108, rfl, lz108, uz108, k109⟩ := pr105
        refine X_st [.int (iI z108)] rfl ?_
        refine X_iloadn hK (i := 3) 3 kd28_64.2.2.2.2.2.2.1 rfl rfl ?_
        refine X_icmp_ne hK 78 (by omega) (by omega) kd28_64.2.2.2.2.2.2.2.1 (by decide) (fun c110 => ?_) (fun c110 => ?_)
        · refine X_iinc hK (i := 3) (z := z71) (n := 1) 3 [(3, .int (iI (z71 + 1))), (6, .int (iI z103)), (5, .int (iI z101)), (4, .int (iI z99)), (2, .int (iI z72)), (0, .ref a0), (1, .int (iI x1))] kd28_65.2.2.2.2.2.2.2.1 rfl (by decide) rfl ?_
          refine X_goto hK 9 kd28_65.2.2.2.2.2.2.2.2.1 (by decide) ?_
          refine X_lv [(3, .int (iI (z71 + 1))), (2, .int (iI z72)), (0, .ref a0), (1, .int (iI x1))] [0, 4, 5, 6] rfl ?_
          exact ihP94  (z71 + 1) (by omega) (by omega) z72 (by omega) (by omega) (by rw [xzm.s1 (by omega), ← v95]; show z72 = z72 + (if _ ∧ _ then _ else _); rw [if_neg (by have h7 := k109; rw [show z99 = L 0 z71 from hw100.symm.trans (hp2 z71 (by omega) (by omega)).1, show z101 = L 1 z71 from hw102.symm.trans (hp2 z71 (by omega) (by omega)).2.1, show z103 = L 2 z71 from hw104.symm.trans (hp2 z71 (by omega) (by omega)).2.2.1] at h7; rw [← h7]; omega)]; omega) (by omega) (by omega) (by omega)
        · refine X_aloadn hK (i := 0) 5 kd28_64.2.2.2.2.2.2.2.2.1 rfl rfl ?_
          refine X_getK hK fl_X12_144_13 hs_a0 ((xs_k hg1 (by decide)).trans eccn) kd28_64.2.2.2.2.2.2.2.2.2.1 ?_
          refine X_iloadn hK (i := 3) 3 kd28_64.2.2.2.2.2.2.2.2.2.2.1 rfl rfl ?_
          refine X_iald hK hs_ccn (by decide) sl_17900 (by omega) (by omega) kd28_64.2.2.2.2.2.2.2.2.2.2.2 (fun z111 ez111 lz111 uz111 => ?_)
          have hw112 : xv g ccn z71 = z111 := (by rw [← (xv_a hg1 (xne hs_ccn hs_a0 (by decide)))]; exact (xv_e (j := z71) ez111 (by omega)))
          refine X_aloadn hK (i := 0) 5 kd28_65.1 rfl rfl ?_
          refine X_iload hK (i := 4) 2 kd28_65.2.1 rfl ?_
          refine X_iload hK (i := 5) 1 kd28_65.2.2.1 rfl ?_
          refine X_iload hK (i := 6) 0 kd28_65.2.2.2.1 rfl ?_
          refine X_callV hK [.int (iI z99), .int (iI z101), .int (iI z103)] [.int (iI z111)] lk_X12_427 (m_mcameBack _ _ _ _ _ S g1 a0 z99 z101 z103 nu nb wbo wpa wco wcp who wdy wcs wso wba wea Y hs_a0 (by omega) (by omega) (by omega) (by omega) ((xs_k hg1 (by decide)).trans enu) (by omega) ((xs_k hg1 (by decide)).trans enb) ((xs_k hg1 (by decide)).trans ewbo) hs_wbo ((xs_k hg1 (by decide)).trans ewpa) hs_wpa ((xs_k hg1 (by decide)).trans ewco) hs_wco ((xs_k hg1 (by decide)).trans ewcp) hs_wcp ((xs_k hg1 (by decide)).trans ewho) hs_who ((xs_k hg1 (by decide)).trans ewdy) hs_wdy ((xs_k hg1 (by decide)).trans ewcs) hs_wcs ((xs_k hg1 (by decide)).trans ewso) hs_wso ((xs_k hg1 (by decide)).trans ewba) hs_wba ((xs_k hg1 (by decide)).trans ewea) hs_wea (by rw [(xv_a hg1 (xne hs_wbo hs_a0 (by decide))), (xv_a hg1 (xne hs_wpa hs_a0 (by decide))), (xv_a hg1 (xne hs_wco hs_a0 (by decide))), (xv_a hg1 (xne hs_wcp hs_a0 (by decide))), (xv_a hg1 (xne hs_who hs_a0 (by decide))), (xv_a hg1 (xne hs_wdy hs_a0 (by decide)))]; exact hp0) (by rw [(xv_a hg1 (xne hs_wcs hs_a0 (by decide))), (xv_a hg1 (xne hs_wso hs_a0 (by decide))), (xv_a hg1 (xne hs_wba hs_a0 (by decide))), (xv_a hg1 (xne hs_wea hs_a0 (by decide)))]; exact hp1)) hs_a0 ⟨by decide, rfl⟩ kd28_65.2.2.2.2.1 rfl rfl (by simp [Value.category]) (by decide) (by decide) (by decide) (by decide) (fun r113 S115 g114 pr113 qr113 hg114 => ?_)
          obtain ⟨rfl, rfl, z116, rfl, lz116, uz116, k117⟩ := pr113
          refine X_st [.int (iI z116), .int (iI z111)] rfl ?_
          refine X_icmp_le hK 78 (by omega) (by omega) kd28_65.2.2.2.2.2.1 (by decide) (fun c118 => ?_) (fun c118 => ?_)
          · refine X_iinc hK (i := 3) (z := z71) (n := 1) 3 [(3, .int (iI (z71 + 1))), (6, .int (iI z103)), (5, .int (iI z101)), (4, .int (iI z99)), (2, .int (iI z72)), (0, .ref a0), (1, .int (iI x1))] kd28_65.2.2.2.2.2.2.2.1 rfl (by decide) rfl ?_
            refine X_goto hK 9 kd28_65.2.2.2.2.2.2.2.2.1 (by decide) ?_
            refine X_lv [(3, .int (iI (z71 + 1))), (2, .int (iI z72)), (0, .ref a0), (1, .int (iI x1))] [0, 4, 5, 6] rfl ?_
            exact ihP94  (z71 + 1) (by omega) (by omega) z72 (by omega) (by omega) (by rw [xzm.s1 (by omega), ← v95]; show z72 = z72 + (if _ ∧ _ then _ else _); rw [if_neg (by have h7 := k109; rw [show z99 = L 0 z71 from hw100.symm.trans (hp2 z71 (by omega) (by omega)).1, show z101 = L 1 z71 from hw102.symm.trans (hp2 z71 (by omega) (by omega)).2.1, show z103 = L 2 z71 from hw104.symm.trans (hp2 z71 (by omega) (by omega)).2.2.1] at h7; have h6 := k117; rw [show z99 = L 0 z71 from hw100.symm.trans (hp2 z71 (by omega) (by omega)).1, show z101 = L 1 z71 from hw102.symm.trans (hp2 z71 (by omega) (by omega)).2.1, show z103 = L 2 z71 from hw104.symm.trans (hp2 z71 (by omega) (by omega)).2.2.1] at h6; rw [← h7, ← h6, ← (hp2 z71 (by omega) (by omega)).2.2.2.1, hw112]; omega)]; omega) (by omega) (by omega) (by omega)
          · refine X_iinc hK (i := 2) (z := z72) (n := 1) 4 [(2, .int (iI (z72 + 1))), (6, .int (iI z103)), (5, .int (iI z101)), (4, .int (iI z99)), (3, .int (iI z71)), (0, .ref a0), (1, .int (iI x1))] kd28_65.2.2.2.2.2.2.1 rfl (by decide) rfl ?_
            refine X_iinc hK (i := 3) (z := z71) (n := 1) 4 [(3, .int (iI (z71 + 1))), (2, .int (iI (z72 + 1))), (6, .int (iI z103)), (5, .int (iI z101)), (4, .int (iI z99)), (0, .ref a0), (1, .int (iI x1))] kd28_65.2.2.2.2.2.2.2.1 rfl (by decide) rfl ?_
            refine X_goto hK 9 kd28_65.2.2.2.2.2.2.2.2.1 (by decide) ?_
            refine X_lv [(3, .int (iI (z71 + 1))), (2, .int (iI (z72 + 1))), (0, .ref a0), (1, .int (iI x1))] [0, 1, 5, 6] rfl ?_
            exact ihP94  (z71 + 1) (by omega) (by omega) (z72 + 1) (by omega) (by omega) (by rw [xzm.s1 (by omega), ← v95]; show (z72 + 1) = z72 + (if _ ∧ _ then _ else _); rw [if_pos (by have h7 := k109; rw [show z99 = L 0 z71 from hw100.symm.trans (hp2 z71 (by omega) (by omega)).1, show z101 = L 1 z71 from hw102.symm.trans (hp2 z71 (by omega) (by omega)).2.1, show z103 = L 2 z71 from hw104.symm.trans (hp2 z71 (by omega) (by omega)).2.2.1] at h7; have h6 := k117; rw [show z99 = L 0 z71 from hw100.symm.trans (hp2 z71 (by omega) (by omega)).1, show z101 = L 1 z71 from hw102.symm.trans (hp2 z71 (by omega) (by omega)).2.1, show z103 = L 2 z71 from hw104.symm.trans (hp2 z71 (by omega) (by omega)).2.2.1] at h6; rw [← h7, ← h6, ← (hp2 z71 (by omega) (by omega)).2.2.2.1, hw112]; omega)]) (by omega) (by omega) (by omega)
  exact P94 ((100 - 0 : Int).toNat + 1) 0 (by omega) (by omega) 0 (by omega) (by omega) rfl (by omega) (by omega) (by omega)

set_option maxHeartbeats 4000000 in
set_option maxRecDepth 100000 in
theorem m_mshortOf (l : Launch) (D : va_G) (kA : Nat → ClassId) (b0 : Nat) (t0 : Nat → Nat) (S : xT) (g : xG) (a0 : Nat) (x1 : Int) (td : Int) (nu : Int) (nb : Int) (nc : Int) (wbo : Nat) (wpa : Nat) (wco : Nat) (wcp : Nat) (who : Nat) (wdy : Nat) (wcs : Nat) (wso : Nat) (wba : Nat) (wea : Nat) (cpa : Nat) (cco : Nat) (cda : Nat) (ccn : Nat) (cto : Nat) (Y : Nat → Int → Int) (L : Nat → Int → Int) (hs_a0 : S a0 = some (13, 0)) (hx1 : (-2147483648) ≤ x1 ∧ x1 ≤ 2147483647) (htd : 0 ≤ td ∧ td ≤ 400) (etd : g a0 3 = .int (iI td)) (hnu : 0 ≤ nu ∧ nu ≤ 200) (enu : g a0 58 = .int (iI nu)) (hnb : 0 ≤ nb ∧ nb ≤ 40) (enb : g a0 16 = .int (iI nb)) (hnc : 0 ≤ nc ∧ nc ≤ 60) (enc : g a0 69 = .int (iI nc)) (ewbo : g a0 48 = .ref wbo) (hs_wbo : S wbo = some (16400, 200)) (ewpa : g a0 49 = .ref wpa) (hs_wpa : S wpa = some (16500, 200)) (ewco : g a0 50 = .ref wco) (hs_wco : S wco = some (16600, 200)) (ewcp : g a0 51 = .ref wcp) (hs_wcp : S wcp = some (16700, 200)) (ewho : g a0 52 = .ref who) (hs_who : S who = some (16800, 200)) (ewdy : g a0 53 = .ref wdy) (hs_wdy : S wdy = some (16900, 200)) (ewcs : g a0 54 = .ref wcs) (hs_wcs : S wcs = some (17000, 200)) (ewso : g a0 55 = .ref wso) (hs_wso : S wso = some (17100, 200)) (ewba : g a0 56 = .ref wba) (hs_wba : S wba = some (17200, 200)) (ewea : g a0 57 = .ref wea) (hs_wea : S wea = some (17300, 200)) (ecpa : g a0 64 = .ref cpa) (hs_cpa : S cpa = some (17600, 60)) (ecco : g a0 65 = .ref cco) (hs_cco : S cco = some (17700, 60)) (ecda : g a0 66 = .ref cda) (hs_cda : S cda = some (17800, 60)) (eccn : g a0 67 = .ref ccn) (hs_ccn : S ccn = some (17900, 60)) (ecto : g a0 68 = .ref cto) (hs_cto : S cto = some (18000, 60)) (hp0 : xRU nu nb (xv g wbo) (xv g wpa) (xv g wco) (xv g wcp) (xv g who) (xv g wdy) Y) (hp1 : xRv nu (xv g wcs) (xv g wso) (xv g wba) (xv g wea) Y) (hp2 : xLgM nc (xv g cpa) (xv g cco) (xv g cda) (xv g ccn) (xv g cto) L) : xMt l yX12_shortOf cX12_shortOf 9 (some .int) 1 0 0 26 D kA b0 t0 [(13, 0)] [.ref a0, .int (iI x1)] S g (fun (r : Option Value) (S1 : xT) (g1 : xG) => S = S1 ∧ ∃ z : Int, r = some (.int (iI z)) ∧ (-2147483648) ≤ z ∧ z ≤ 2147483647 ∧ (z = xwp (xzm (xsf9 L Y nc.toNat nu.toNat td x1) nu.toNat))) := by
  refine xEnterI (by decide) (by simp [lg_sl, Value.category]) [(0, .ref a0), (1, .int (iI x1))] rfl ?_
  intro K E hK hret _ _ _
  refine X_aloadn hK (i := 0) 0 kd28_117.2.2.2.2.1 rfl rfl ?_
  refine X_iconst hK kd28_117.2.2.2.2.2.1 ?_
  refine X_puti hK fl_X12_198_13 hs_a0 (by decide) sl_13_0 (by omega) (by omega) kd28_117.2.2.2.2.2.2.1 (fun g1 hg1 => ?_)
  refine X_iconst hK kd28_117.2.2.2.2.2.2.2.1 ?_
  refine X_istoren hK (i := 2) [(2, .int (iI 0)), (0, .ref a0), (1, .int (iI x1))] kd28_117.2.2.2.2.2.2.2.2.1 rfl (by decide) rfl ?_
  refine X_iconst hK kd28_117.2.2.2.2.2.2.2.2.2.1 ?_
  refine X_istoren hK (i := 3) [(3, .int (iI 0)), (2, .int (iI 0)), (0, .ref a0), (1, .int (iI x1))] kd28_117.2.2.2.2.2.2.2.2.2.2.1 rfl (by decide) rfl ?_
  have P210 : ∀ (nP210 : Nat) (z175 : Int) (_ : 0 ≤ z175) (_ : z175 ≤ 200) (z176 : Int) (_ : (-2147483648) ≤ z176) (_ : z176 ≤ 2147483647) (_ : z176 = xwp (xzm (xsf9 L Y nc.toNat nu.toNat td x1) z175.toNat)) (_ : z175 ≤ nu) (_ : 300 - z175 < (nP210 : Int)), X K E 9 [(3, .int (iI z175)), (2, .int (iI z176)), (0, .ref a0), (1, .int (iI x1))] [] S g1 0 0 := by
    intro nP210
    induction nP210 with
    | zero => intro z175 lz175 uz175 z176 lz176 uz176 v211 v212 mP210; exact False.elim (by omega)
    | succ nP210 ihP210 =>
      intro z175 lz175 uz175 z176 lz176 uz176 v211 v212 mP210
      refine X_iloadn hK (i := 3) 0 kd28_117.2.2.2.2.2.2.2.2.2.2.2 rfl rfl ?_
      refine X_aloadn hK (i := 0) 2 kd28_118.1 rfl rfl ?_
      refine X_getK hK fl_X12_389_13 hs_a0 ((xs_k hg1 (by decide)).trans enu) kd28_118.2.1 ?_
      refine X_icmp_ge hK 126 (by omega) (by omega) kd28_118.2.2.1 (by decide) (fun c213 => ?_) (fun c213 => ?_)
      · refine X_iloadn hK (i := 2) 1 kd28_123.2.1 rfl rfl ?_
        exact hret _ _ _ _ _ _ _ kd28_123.2.2.1 ⟨rfl, z176, rfl, (by omega), (by omega), (by have h9 := v211; rw [show (z175).toNat = nu.toNat by omega] at h9; exact h9)⟩ (Nat.le_refl _) (Nat.le_refl _)
      · refine X_aloadn hK (i := 0) 2 kd28_118.2.2.2.1 rfl rfl ?_
        refine X_getK hK fl_X12_93_13 hs_a0 ((xs_k hg1 (by decide)).trans ewpa) kd28_118.2.2.2.2.1 ?_
        refine X_iloadn hK (i := 3) 0 kd28_118.2.2.2.2.2.1 rfl rfl ?_
        refine X_iald hK hs_wpa (by decide) sl_16500 (by omega) (by omega) kd28_118.2.2.2.2.2.2.1 (fun z214 ez214 lz214 uz214 => ?_)
        have hw215 : xv g wpa z175 = z214 := (by rw [← (xv_a hg1 (xne hs_wpa hs_a0 (by decide)))]; exact (xv_e (j := z175) ez214 (by omega)))
        refine X_istore hK (i := 4) [(4, .int (iI z214)), (3, .int (iI z175)), (2, .int (iI z176)), (0, .ref a0), (1, .int (iI x1))] kd28_118.2.2.2.2.2.2.2.1 (by decide) rfl ?_
        refine X_aloadn hK (i := 0) 3 kd28_118.2.2.2.2.2.2.2.2.1 rfl rfl ?_
        refine X_getK hK fl_X12_96_13 hs_a0 ((xs_k hg1 (by decide)).trans ewco) kd28_118.2.2.2.2.2.2.2.2.2.1 ?_
        refine X_iloadn hK (i := 3) 1 kd28_118.2.2.2.2.2.2.2.2.2.2.1 rfl rfl ?_
        refine X_iald hK hs_wco (by decide) sl_16600 (by omega) (by omega) kd28_118.2.2.2.2.2.2.2.2.2.2.2 (fun z216 ez216 lz216 uz216 => ?_)
        have hw217 : xv g wco z175 = z216 := (by rw [← (xv_a hg1 (xne hs_wco hs_a0 (by decide)))]; exact (xv_e (j := z175) ez216 (by omega)))
        refine X_istore hK (i := 5) [(5, .int (iI z216)), (4, .int (iI z214)), (3, .int (iI z175)), (2, .int (iI z176)), (0, .ref a0), (1, .int (iI x1))] kd28_119.1 (by decide) rfl ?_
        refine X_aloadn hK (i := 0) 4 kd28_119.2.1 rfl rfl ?_
        refine X_getK hK fl_X12_105_13 hs_a0 ((xs_k hg1 (by decide)).trans ewdy) kd28_119.2.2.1 ?_
        refine X_iloadn hK (i := 3) 2 kd28_119.2.2.2.1 rfl rfl ?_
        refine X_iald hK hs_wdy (by decide) sl_16900 (by omega) (by omega) kd28_119.2.2.2.2.1 (fun z218 ez218 lz218 uz218 => ?_)
        have hw219 : xv g wdy z175 = z218 := (by rw [← (xv_a hg1 (xne hs_wdy hs_a0 (by decide)))]; exact (xv_e (j := z175) ez218 (by omega)))
        refine X_istore hK (i := 6) [(6, .int (iI z218)), (5, .int (iI z216)), (4, .int (iI z214)), (3, .int (iI z175)), (2, .int (iI z176)), (0, .ref a0), (1, .int (iI x1))] kd28_119.2.2.2.2.2.1 (by decide) rfl ?_
        refine X_iload hK (i := 6) 0 kd28_119.2.2.2.2.2.2.1 rfl ?_
        refine X_aloadn hK (i := 0) 5 kd28_119.2.2.2.2.2.2.2.1 rfl rfl ?_
        refine X_getK hK fl_X12_239_13 hs_a0 ((xs_k hg1 (by decide)).trans etd) kd28_119.2.2.2.2.2.2.2.2.1 ?_
        refine X_icmp_ge hK 120 (by omega) (by omega) kd28_119.2.2.2.2.2.2.2.2.2.1 (by decide) (fun c220 => ?_) (fun c220 => ?_)
        · refine X_iinc hK (i := 3) (z := z175) (n := 1) 3 [(3, .int (iI (z175 + 1))), (6, .int (iI z218)), (5, .int (iI z216)), (4, .int (iI z214)), (2, .int (iI z176)), (0, .ref a0), (1, .int (iI x1))] kd28_122.2.2.2.2.2.2.2.2.2.2.2 rfl (by decide) rfl ?_
          refine X_goto hK 9 kd28_123.1 (by decide) ?_
          refine X_lv [(3, .int (iI (z175 + 1))), (2, .int (iI z176)), (0, .ref a0), (1, .int (iI x1))] [0, 4, 5, 6] rfl ?_
          exact ihP210  (z175 + 1) (by omega) (by omega) z176 (by omega) (by omega) (by have hd9 := (hp0 z175 (by omega) (by omega)).2.2.2.2.2.1; rw [hw219] at hd9; rw [xzm.s1 (by omega), ← xwp.add, ← v211]; show z176 = xwp (z176 + (if Y 5 z175 < td ∧ Y 5 z175 ≤ x1 ∧ xfm9 Y (Y 1 z175) (Y 2 z175) (Y 5 z175) z175 = 0 then _ else _)); rw [if_neg (by omega), Int.add_zero, xwp.id (by omega)]) (by omega) (by omega)
        · refine X_iload hK (i := 6) 0 kd28_119.2.2.2.2.2.2.2.2.2.2.1 rfl ?_
          refine X_iloadn hK (i := 1) 6 kd28_119.2.2.2.2.2.2.2.2.2.2.2 rfl rfl ?_
          refine X_icmp_gt hK 120 (by omega) (by omega) kd28_120.1 (by decide) (fun c221 => ?_) (fun c221 => ?_)
          · refine X_iinc hK (i := 3) (z := z175) (n := 1) 3 [(3, .int (iI (z175 + 1))), (6, .int (iI z218)), (5, .int (iI z216)), (4, .int (iI z214)), (2, .int (iI z176)), (0, .ref a0), (1, .int (iI x1))] kd28_122.2.2.2.2.2.2.2.2.2.2.2 rfl (by decide) rfl ?_
            refine X_goto hK 9 kd28_123.1 (by decide) ?_
            refine X_lv [(3, .int (iI (z175 + 1))), (2, .int (iI z176)), (0, .ref a0), (1, .int (iI x1))] [0, 4, 5, 6] rfl ?_
            exact ihP210  (z175 + 1) (by omega) (by omega) z176 (by omega) (by omega) (by have hd9 := (hp0 z175 (by omega) (by omega)).2.2.2.2.2.1; rw [hw219] at hd9; rw [xzm.s1 (by omega), ← xwp.add, ← v211]; show z176 = xwp (z176 + (if Y 5 z175 < td ∧ Y 5 z175 ≤ x1 ∧ xfm9 Y (Y 1 z175) (Y 2 z175) (Y 5 z175) z175 = 0 then _ else _)); rw [if_neg (by omega), Int.add_zero, xwp.id (by omega)]) (by omega) (by omega)
          · refine X_aloadn hK (i := 0) 5 kd28_120.2.1 rfl rfl ?_
            refine X_iloadn hK (i := 3) 3 kd28_120.2.2.1 rfl rfl ?_
            refine X_callV hK [.int (iI z175)] [] lk_X12_431 (m_isFirst _ _ _ _ _ S g1 a0 z175 nu nb wbo wpa wco wcp who wdy Y hs_a0 (by omega) (by omega) ((xs_k hg1 (by decide)).trans enu) (by omega) ((xs_k hg1 (by decide)).trans enb) ((xs_k hg1 (by decide)).trans ewbo) hs_wbo ((xs_k hg1 (by decide)).trans ewpa) hs_wpa ((xs_k hg1 (by decide)).trans ewco) hs_wco ((xs_k hg1 (by decide)).trans ewcp) hs_wcp ((xs_k hg1 (by decide)).trans ewho) hs_who ((xs_k hg1 (by decide)).trans ewdy) hs_wdy (by rw [(xv_a hg1 (xne hs_wbo hs_a0 (by decide))), (xv_a hg1 (xne hs_wpa hs_a0 (by decide))), (xv_a hg1 (xne hs_wco hs_a0 (by decide))), (xv_a hg1 (xne hs_wcp hs_a0 (by decide))), (xv_a hg1 (xne hs_who hs_a0 (by decide))), (xv_a hg1 (xne hs_wdy hs_a0 (by decide)))]; exact hp0) (by omega)) hs_a0 ⟨by decide, rfl⟩ kd28_120.2.2.2.1 rfl rfl (by simp [Value.category]) (by decide) (by decide) (by decide) (by decide) (fun r222 S224 g223 pr222 qr222 hg223 => ?_)
            obtain ⟨rfl, rfl, z225, rfl, lz225, uz225, k226⟩ := pr222
            refine X_st [.int (iI z225)] rfl ?_
            refine X_if_ne hK 67 (by omega) kd28_120.2.2.2.2.1 (by decide) (fun c227 => ?_) (fun c227 => ?_)
            · refine X_aloadn hK (i := 0) 5 kd28_120.2.2.2.2.2.2.1 rfl rfl ?_
              refine X_iload hK (i := 4) 2 kd28_120.2.2.2.2.2.2.2.1 rfl ?_
              refine X_iload hK (i := 5) 1 kd28_120.2.2.2.2.2.2.2.2.1 rfl ?_
              refine X_iload hK (i := 6) 0 kd28_120.2.2.2.2.2.2.2.2.2.1 rfl ?_
              refine X_iloadn hK (i := 1) 6 kd28_120.2.2.2.2.2.2.2.2.2.2.1 rfl rfl ?_
              refine X_callV hK [.int (iI z214), .int (iI z216), .int (iI z218), .int (iI x1)] [] lk_X12_424 (m_countOf _ _ _ _ _ S g1 a0 z214 z216 z218 x1 nc cpa cco cda ccn cto L hs_a0 (by omega) (by omega) (by omega) (by omega) (by omega) ((xs_k hg1 (by decide)).trans enc) ((xs_k hg1 (by decide)).trans ecpa) hs_cpa ((xs_k hg1 (by decide)).trans ecco) hs_cco ((xs_k hg1 (by decide)).trans ecda) hs_cda ((xs_k hg1 (by decide)).trans eccn) hs_ccn ((xs_k hg1 (by decide)).trans ecto) hs_cto (by rw [(xv_a hg1 (xne hs_cpa hs_a0 (by decide))), (xv_a hg1 (xne hs_cco hs_a0 (by decide))), (xv_a hg1 (xne hs_cda hs_a0 (by decide))), (xv_a hg1 (xne hs_ccn hs_a0 (by decide))), (xv_a hg1 (xne hs_cto hs_a0 (by decide)))]; exact hp2)) hs_a0 ⟨by decide, rfl⟩ kd28_120.2.2.2.2.2.2.2.2.2.2.2 rfl rfl (by simp [Value.category]) (by decide) (by decide) (by decide) (by decide) (fun r228 S230 g229 pr228 qr228 hg229 => ?_)
              obtain ⟨rfl, rfl, z231, rfl, lz231, uz231, k232⟩ := pr228
              refine X_st [.int (iI z231)] rfl ?_
              have rlz231 := xlst9.r (L := L) (t := x1) (p := z214) (c := z216) (d := z218) nc.toNat
              rw [← k232] at rlz231
              refine X_istore hK (i := 7) [(7, .int (iI z231)), (6, .int (iI z218)), (5, .int (iI z216)), (4, .int (iI z214)), (3, .int (iI z175)), (2, .int (iI z176)), (0, .ref a0), (1, .int (iI x1))] kd28_121.1 (by decide) rfl ?_
              refine X_aloadn hK (i := 0) 6 kd28_121.2.1 rfl rfl ?_
              refine X_iload hK (i := 4) 3 kd28_121.2.2.1 rfl ?_
              refine X_iload hK (i := 5) 2 kd28_121.2.2.2.1 rfl ?_
              refine X_iload hK (i := 6) 1 kd28_121.2.2.2.2.1 rfl ?_
              refine X_callV hK [.int (iI z214), .int (iI z216), .int (iI z218)] [] lk_X12_427 (m_mcameBack _ _ _ _ _ S g1 a0 z214 z216 z218 nu nb wbo wpa wco wcp who wdy wcs wso wba wea Y hs_a0 (by omega) (by omega) (by omega) (by omega) ((xs_k hg1 (by decide)).trans enu) (by omega) ((xs_k hg1 (by decide)).trans enb) ((xs_k hg1 (by decide)).trans ewbo) hs_wbo ((xs_k hg1 (by decide)).trans ewpa) hs_wpa ((xs_k hg1 (by decide)).trans ewco) hs_wco ((xs_k hg1 (by decide)).trans ewcp) hs_wcp ((xs_k hg1 (by decide)).trans ewho) hs_who ((xs_k hg1 (by decide)).trans ewdy) hs_wdy ((xs_k hg1 (by decide)).trans ewcs) hs_wcs ((xs_k hg1 (by decide)).trans ewso) hs_wso ((xs_k hg1 (by decide)).trans ewba) hs_wba ((xs_k hg1 (by decide)).trans ewea) hs_wea (by rw [(xv_a hg1 (xne hs_wbo hs_a0 (by decide))), (xv_a hg1 (xne hs_wpa hs_a0 (by decide))), (xv_a hg1 (xne hs_wco hs_a0 (by decide))), (xv_a hg1 (xne hs_wcp hs_a0 (by decide))), (xv_a hg1 (xne hs_who hs_a0 (by decide))), (xv_a hg1 (xne hs_wdy hs_a0 (by decide)))]; exact hp0) (by rw [(xv_a hg1 (xne hs_wcs hs_a0 (by decide))), (xv_a hg1 (xne hs_wso hs_a0 (by decide))), (xv_a hg1 (xne hs_wba hs_a0 (by decide))), (xv_a hg1 (xne hs_wea hs_a0 (by decide)))]; exact hp1)) hs_a0 ⟨by decide, rfl⟩ kd28_121.2.2.2.2.2.1 rfl rfl (by simp [Value.category]) (by decide) (by decide) (by decide) (by decide) (fun r233 S235 g234 pr233 qr233 hg234 => ?_)
              obtain ⟨rfl, rfl, z236, rfl, lz236, uz236, k237⟩ := pr233
              refine X_st [.int (iI z236)] rfl ?_
              refine X_iload hK (i := 7) 0 kd28_121.2.2.2.2.2.2.1 rfl ?_
              refine X_iconst hK kd28_121.2.2.2.2.2.2.2.1 ?_
              refine X_icmp_ne hK 100 (by omega) (by omega) kd28_121.2.2.2.2.2.2.2.2.1 (by decide) (fun c238 => ?_) (fun c238 => ?_)
              · refine X_aloadn hK (i := 0) 6 kd28_121.2.2.2.2.2.2.2.2.2.2.2 rfl rfl ?_
                refine X_getK hK fl_X12_144_13 hs_a0 ((xs_k hg1 (by decide)).trans eccn) kd28_122.1 ?_
                refine X_iload hK (i := 7) 0 kd28_122.2.1 rfl ?_
                refine X_iald hK hs_ccn (by decide) sl_17900 (by omega) (by omega) kd28_122.2.2.1 (fun z239 ez239 lz239 uz239 => ?_)
                have hw240 : xv g ccn z231 = z239 := (by rw [← (xv_a hg1 (xne hs_ccn hs_a0 (by decide)))]; exact (xv_e (j := z231) ez239 (by omega)))
                refine X_isub hK kd28_122.2.2.2.1 ?_
                refine X_norm (fun z241 ez241 lz241 uz241 => ?_)
                refine X_istore hK (i := 8) [(8, .int (iI z241)), (7, .int (iI z231)), (6, .int (iI z218)), (5, .int (iI z216)), (4, .int (iI z214)), (3, .int (iI z175)), (2, .int (iI z176)), (0, .ref a0), (1, .int (iI x1))] kd28_122.2.2.2.2.1 (by decide) rfl ?_
                refine X_iload hK (i := 8) 0 kd28_122.2.2.2.2.2.1 rfl ?_
                refine X_if_le hK 120 (by omega) kd28_122.2.2.2.2.2.2.1 (by decide) (fun c242 => ?_) (fun c242 => ?_)
                · refine X_iinc hK (i := 3) (z := z175) (n := 1) 5 [(3, .int (iI (z175 + 1))), (8, .int (iI z241)), (7, .int (iI z231)), (6, .int (iI z218)), (5, .int (iI z216)), (4, .int (iI z214)), (2, .int (iI z176)), (0, .ref a0), (1, .int (iI x1))] kd28_122.2.2.2.2.2.2.2.2.2.2.2 rfl (by decide) rfl ?_
                  refine X_goto hK 9 kd28_123.1 (by decide) ?_
                  refine X_lv [(3, .int (iI (z175 + 1))), (2, .int (iI z176)), (0, .ref a0), (1, .int (iI x1))] [0, 6, 7, 8] rfl ?_
                  exact ihP210  (z175 + 1) (by omega) (by omega) z176 (by omega) (by omega) (by have hd9 := (hp0 z175 (by omega) (by omega)).2.2.2.2.2.1; rw [hw219] at hd9; rw [xzm.s1 (by omega), ← xwp.add, ← v211]; show z176 = xwp (z176 + (if Y 5 z175 < td ∧ Y 5 z175 ≤ x1 ∧ xfm9 Y (Y 1 z175) (Y 2 z175) (Y 5 z175) z175 = 0 then _ else _)); have h7 := k232; rw [show z214 = Y 1 z175 from hw215.symm.trans (hp0 z175 (by omega) (by omega)).2.1, show z216 = Y 2 z175 from hw217.symm.trans (hp0 z175 (by omega) (by omega)).2.2.1, show z218 = Y 5 z175 from hw219.symm.trans (hp0 z175 (by omega) (by omega)).2.2.2.2.2.1] at h7; have h6 := k237; rw [show z214 = Y 1 z175 from hw215.symm.trans (hp0 z175 (by omega) (by omega)).2.1, show z216 = Y 2 z175 from hw217.symm.trans (hp0 z175 (by omega) (by omega)).2.2.1, show z218 = Y 5 z175 from hw219.symm.trans (hp0 z175 (by omega) (by omega)).2.2.2.2.2.1] at h6; rw [if_pos ⟨by omega, by omega, k226.mp (by omega)⟩, ← h6, show xct9 L nc.toNat x1 (Y 1 z175) (Y 2 z175) (Y 5 z175) = z239 from by unfold xct9; rw [← h7, if_neg (by omega), ← (hp2 z231 (by omega) (by omega)).2.2.2.1, hw240], ← show z241 = xwp (z236 - z239) from xwp.of ez241 (by omega)]; rw [if_neg (by omega)]; rw [Int.add_zero, xwp.id (by omega)]) (by omega) (by omega)
                · refine X_iloadn hK (i := 2) 6 kd28_122.2.2.2.2.2.2.2.1 rfl rfl ?_
                  refine X_iload hK (i := 8) 0 kd28_122.2.2.2.2.2.2.2.2.1 rfl ?_
                  refine X_iadd hK kd28_122.2.2.2.2.2.2.2.2.2.1 ?_
                  refine X_norm (fun z243 ez243 lz243 uz243 => ?_)
                  refine X_istoren hK (i := 2) [(2, .int (iI z243)), (8, .int (iI z241)), (7, .int (iI z231)), (6, .int (iI z218)), (5, .int (iI z216)), (4, .int (iI z214)), (3, .int (iI z175)), (0, .ref a0), (1, .int (iI x1))] kd28_122.2.2.2.2.2.2.2.2.2.2.1 rfl (by decide) rfl ?_
                  refine X_iinc hK (i := 3) (z := z175) (n := 1) 6 [(3, .int (iI (z175 + 1))), (2, .int (iI z243)), (8, .int (iI z241)), (7, .int (iI z231)), (6, .int (iI z218)), (5, .int (iI z216)), (4, .int (iI z214)), (0, .ref a0), (1, .int (iI x1))] kd28_122.2.2.2.2.2.2.2.2.2.2.2 rfl (by decide) rfl ?_
                  refine X_goto hK 9 kd28_123.1 (by decide) ?_
                  refine X_lv [(3, .int (iI (z175 + 1))), (2, .int (iI z243)), (0, .ref a0), (1, .int (iI x1))] [0, 1, 7, 8] rfl ?_
                  exact ihP210  (z175 + 1) (by omega) (by omega) z243 (by omega) (by omega) (by have hd9 := (hp0 z175 (by omega) (by omega)).2.2.2.2.2.1; rw [hw219] at hd9; rw [xzm.s1 (by omega), ← xwp.add, ← v211]; show z243 = xwp (z176 + (if Y 5 z175 < td ∧ Y 5 z175 ≤ x1 ∧ xfm9 Y (Y 1 z175) (Y 2 z175) (Y 5 z175) z175 = 0 then _ else _)); have h7 := k232; rw [show z214 = Y 1 z175 from hw215.symm.trans (hp0 z175 (by omega) (by omega)).2.1, show z216 = Y 2 z175 from hw217.symm.trans (hp0 z175 (by omega) (by omega)).2.2.1, show z218 = Y 5 z175 from hw219.symm.trans (hp0 z175 (by omega) (by omega)).2.2.2.2.2.1] at h7; have h6 := k237; rw [show z214 = Y 1 z175 from hw215.symm.trans (hp0 z175 (by omega) (by omega)).2.1, show z216 = Y 2 z175 from hw217.symm.trans (hp0 z175 (by omega) (by omega)).2.2.1, show z218 = Y 5 z175 from hw219.symm.trans (hp0 z175 (by omega) (by omega)).2.2.2.2.2.1] at h6; rw [if_pos ⟨by omega, by omega, k226.mp (by omega)⟩, ← h6, show xct9 L nc.toNat x1 (Y 1 z175) (Y 2 z175) (Y 5 z175) = z239 from by unfold xct9; rw [← h7, if_neg (by omega), ← (hp2 z231 (by omega) (by omega)).2.2.2.1, hw240], ← show z241 = xwp (z236 - z239) from xwp.of ez241 (by omega)]; rw [if_pos (by omega)]; exact xwp.of ez243 (by omega)) (by omega) (by omega)
              · refine X_iconst hK kd28_121.2.2.2.2.2.2.2.2.2.1 ?_
                refine X_goto hK 107 kd28_121.2.2.2.2.2.2.2.2.2.2.1 (by decide) ?_
                refine X_isub hK kd28_122.2.2.2.1 ?_
                refine X_istore hK (i := 8) [(8, .int (iI (z236 - 0))), (7, .int (iI z231)), (6, .int (iI z218)), (5, .int (iI z216)), (4, .int (iI z214)), (3, .int (iI z175)), (2, .int (iI z176)), (0, .ref a0), (1, .int (iI x1))] kd28_122.2.2.2.2.1 (by decide) rfl ?_
                refine X_iload hK (i := 8) 0 kd28_122.2.2.2.2.2.1 rfl ?_
                refine X_if_le hK 120 (by omega) kd28_122.2.2.2.2.2.2.1 (by decide) (fun c244 => ?_) (fun c244 => ?_)
                · refine X_iinc hK (i := 3) (z := z175) (n := 1) 5 [(3, .int (iI (z175 + 1))), (8, .int (iI (z236 - 0))), (7, .int (iI z231)), (6, .int (iI z218)), (5, .int (iI z216)), (4, .int (iI z214)), (2, .int (iI z176)), (0, .ref a0), (1, .int (iI x1))] kd28_122.2.2.2.2.2.2.2.2.2.2.2 rfl (by decide) rfl ?_
                  refine X_goto hK 9 kd28_123.1 (by decide) ?_
                  refine X_lv [(3, .int (iI (z175 + 1))), (2, .int (iI z176)), (0, .ref a0), (1, .int (iI x1))] [0, 6, 7, 8] rfl ?_
                  exact ihP210  (z175 + 1) (by omega) (by omega) z176 (by omega) (by omega) (by have hd9 := (hp0 z175 (by omega) (by omega)).2.2.2.2.2.1; rw [hw219] at hd9; rw [xzm.s1 (by omega), ← xwp.add, ← v211]; show z176 = xwp (z176 + (if Y 5 z175 < td ∧ Y 5 z175 ≤ x1 ∧ xfm9 Y (Y 1 z175) (Y 2 z175) (Y 5 z175) z175 = 0 then _ else _)); have h7 := k232; rw [show z214 = Y 1 z175 from hw215.symm.trans (hp0 z175 (by omega) (by omega)).2.1, show z216 = Y 2 z175 from hw217.symm.trans (hp0 z175 (by omega) (by omega)).2.2.1, show z218 = Y 5 z175 from hw219.symm.trans (hp0 z175 (by omega) (by omega)).2.2.2.2.2.1] at h7; have h6 := k237; rw [show z214 = Y 1 z175 from hw215.symm.trans (hp0 z175 (by omega) (by omega)).2.1, show z216 = Y 2 z175 from hw217.symm.trans (hp0 z175 (by omega) (by omega)).2.2.1, show z218 = Y 5 z175 from hw219.symm.trans (hp0 z175 (by omega) (by omega)).2.2.2.2.2.1] at h6; rw [if_pos ⟨by omega, by omega, k226.mp (by omega)⟩, ← h6, show xct9 L nc.toNat x1 (Y 1 z175) (Y 2 z175) (Y 5 z175) = 0 from by unfold xct9; rw [← h7, if_pos (by omega)], ← show (z236 - 0) = xwp (z236 - 0) from (xwp.id (by omega)).symm]; rw [if_neg (by omega)]; rw [Int.add_zero, xwp.id (by omega)]) (by omega) (by omega)
                · refine X_iloadn hK (i := 2) 6 kd28_122.2.2.2.2.2.2.2.1 rfl rfl ?_
                  refine X_iload hK (i := 8) 0 kd28_122.2.2.2.2.2.2.2.2.1 rfl ?_
                  refine X_iadd hK kd28_122.2.2.2.2.2.2.2.2.2.1 ?_
                  refine X_norm (fun z245 ez245 lz245 uz245 => ?_)
                  refine X_istoren hK (i := 2) [(2, .int (iI z245)), (8, .int (iI (z236 - 0))), (7, .int (iI z231)), (6, .int (iI z218)), (5, .int (iI z216)), (4, .int (iI z214)), (3, .int (iI z175)), (0, .ref a0), (1, .int (iI x1))] kd28_122.2.2.2.2.2.2.2.2.2.2.1 rfl (by decide) rfl ?_
                  refine X_iinc hK (i := 3) (z := z175) (n := 1) 6 [(3, .int (iI (z175 + 1))), (2, .int (iI z245)), (8, .int (iI (z236 - 0))), (7, .int (iI z231)), (6, .int (iI z218)), (5, .int (iI z216)), (4, .int (iI z214)), (0, .ref a0), (1, .int (iI x1))] kd28_122.2.2.2.2.2.2.2.2.2.2.2 rfl (by decide) rfl ?_
                  refine X_goto hK 9 kd28_123.1 (by decide) ?_
                  refine X_lv [(3, .int (iI (z175 + 1))), (2, .int (iI z245)), (0, .ref a0), (1, .int (iI x1))] [0, 1, 7, 8] rfl ?_
                  exact ihP210  (z175 + 1) (by omega) (by omega) z245 (by omega) (by omega) (by have hd9 := (hp0 z175 (by omega) (by omega)).2.2.2.2.2.1; rw [hw219] at hd9; rw [xzm.s1 (by omega), ← xwp.add, ← v211]; show z245 = xwp (z176 + (if Y 5 z175 < td ∧ Y 5 z175 ≤ x1 ∧ xfm9 Y (Y 1 z175) (Y 2 z175) (Y 5 z175) z175 = 0 then _ else _)); have h7 := k232; rw [show z214 = Y 1 z175 from hw215.symm.trans (hp0 z175 (by omega) (by omega)).2.1, show z216 = Y 2 z175 from hw217.symm.trans (hp0 z175 (by omega) (by omega)).2.2.1, show z218 = Y 5 z175 from hw219.symm.trans (hp0 z175 (by omega) (by omega)).2.2.2.2.2.1] at h7; have h6 := k237; rw [show z214 = Y 1 z175 from hw215.symm.trans (hp0 z175 (by omega) (by omega)).2.1, show z216 = Y 2 z175 from hw217.symm.trans (hp0 z175 (by omega) (by omega)).2.2.1, show z218 = Y 5 z175 from hw219.symm.trans (hp0 z175 (by omega) (by omega)).2.2.2.2.2.1] at h6; rw [if_pos ⟨by omega, by omega, k226.mp (by omega)⟩, ← h6, show xct9 L nc.toNat x1 (Y 1 z175) (Y 2 z175) (Y 5 z175) = 0 from by unfold xct9; rw [← h7, if_pos (by omega)], ← show (z236 - 0) = xwp (z236 - 0) from (xwp.id (by omega)).symm]; rw [if_pos (by omega)]; exact xwp.of ez245 (by omega)) (by omega) (by omega)
            · refine X_goto hK 120 kd28_120.2.2.2.2.2.1 (by decide) ?_
              refine X_iinc hK (i := 3) (z := z175) (n := 1) 3 [(3, .int (iI (z175 + 1))), (6, .int (iI z218)), (5, .int (iI z216)), (4, .int (iI z214)), (2, .int (iI z176)), (0, .ref a0), (1, .int (iI x1))] kd28_122.2.2.2.2.2.2.2.2.2.2.2 rfl (by decide) rfl ?_
              refine X_goto hK 9 kd28_123.1 (by decide) ?_
              refine X_lv [(3, .int (iI (z175 + 1))), (2, .int (iI z176)), (0, .ref a0), (1, .int (iI x1))] [0, 4, 5, 6] rfl ?_
              exact ihP210  (z175 + 1) (by omega) (by omega) z176 (by omega) (by omega) (by have hd9 := (hp0 z175 (by omega) (by omega)).2.2.2.2.2.1; rw [hw219] at hd9; rw [xzm.s1 (by omega), ← xwp.add, ← v211]; show z176 = xwp (z176 + (if Y 5 z175 < td ∧ Y 5 z175 ≤ x1 ∧ xfm9 Y (Y 1 z175) (Y 2 z175) (Y 5 z175) z175 = 0 then _ else _)); rw [if_neg (fun q9 => by have h7 := k226.mpr q9.2.2; omega), Int.add_zero, xwp.id (by omega)]) (by omega) (by omega)
  exact P210 ((300 - 0 : Int).toNat + 1) 0 (by omega) (by omega) 0 (by omega) (by omega) (xwp.id (by decide)).symm (by omega) (by omega)

set_option maxHeartbeats 4000000 in
set_option maxRecDepth 100000 in
theorem m_mcounted (l : Launch) (D : va_G) (kA : Nat → ClassId) (b0 : Nat) (t0 : Nat → Nat) (S : xT) (g : xG) (a0 : Nat) (x1 : Int) (x2 : Int) (x3 : Int) (x4 : Int) (nc : Int) (td : Int) (cpa : Nat) (cco : Nat) (cda : Nat) (ccn : Nat) (cto : Nat) (L : Nat → Int → Int) (hs_a0 : S a0 = some (13, 0)) (hx1 : (-2147483648) ≤ x1 ∧ x1 ≤ 2147483647) (hx2 : (-2147483648) ≤ x2 ∧ x2 ≤ 2147483647) (hx3 : (-2147483648) ≤ x3 ∧ x3 ≤ 2147483647) (hx4 : (-2147483648) ≤ x4 ∧ x4 ≤ 2147483647) (hnc : 0 ≤ nc ∧ nc ≤ 60) (enc : g a0 69 = .int (iI nc)) (htd : 0 ≤ td ∧ td ≤ 400) (etd : g a0 3 = .int (iI td)) (ecpa : g a0 64 = .ref cpa) (hs_cpa : S cpa = some (17600, 60)) (ecco : g a0 65 = .ref cco) (hs_cco : S cco = some (17700, 60)) (ecda : g a0 66 = .ref cda) (hs_cda : S cda = some (17800, 60)) (eccn : g a0 67 = .ref ccn) (hs_ccn : S ccn = some (17900, 60)) (ecto : g a0 68 = .ref cto) (hs_cto : S cto = some (18000, 60)) (hp0 : xLgM nc (xv g cpa) (xv g cco) (xv g cda) (xv g ccn) (xv g cto) L) : xMt l yX12_counted cX12_counted 5 (some .int) 1 0 0 22 D kA b0 t0 [(13, 0), (17600, 0), (17700, 0), (17800, 0), (17900, 0), (18000, 0), (13, 69)] [.ref a0, .int (iI x1), .int (iI x2), .int (iI x3), .int (iI x4)] S g (fun (r : Option Value) (S1 : xT) (g1 : xG) => S = S1 ∧ ∃ z : Int, r = some (.int (iI z)) ∧ (-1) ≤ z ∧ z ≤ 59 ∧ (z = if nc < 60 ∧ 0 ≤ x1 ∧ x1 ≤ 3 ∧ 0 ≤ x2 ∧ x2 ≤ 9 ∧ 0 ≤ x3 ∧ x3 < td ∧ 0 ≤ x4 ∧ x4 ≤ 10000 then nc else -1) ∧ (g1 a0 69 = .int (iI (if nc < 60 ∧ 0 ≤ x1 ∧ x1 ≤ 3 ∧ 0 ≤ x2 ∧ x2 ≤ 9 ∧ 0 ≤ x3 ∧ x3 < td ∧ 0 ≤ x4 ∧ x4 ≤ 10000 then nc + 1 else nc))) ∧ (xLgM (if nc < 60 ∧ 0 ≤ x1 ∧ x1 ≤ 3 ∧ 0 ≤ x2 ∧ x2 ≤ 9 ∧ 0 ≤ x3 ∧ x3 < td ∧ 0 ≤ x4 ∧ x4 ≤ 10000 then nc + 1 else nc) (xv g1 cpa) (xv g1 cco) (xv g1 cda) (xv g1 ccn) (xv g1 cto) (if nc < 60 ∧ 0 ≤ x1 ∧ x1 ≤ 3 ∧ 0 ≤ x2 ∧ x2 ≤ 9 ∧ 0 ≤ x3 ∧ x3 < td ∧ 0 ≤ x4 ∧ x4 ≤ 10000 then xylg L nc x1 x2 x3 x4 td else L))) := by
  refine xEnterI (by decide) (by simp [lg_sl, Value.category]) [(0, .ref a0), (1, .int (iI x1)), (2, .int (iI x2)), (3, .int (iI x3)), (4, .int (iI x4))] rfl ?_
  intro K E hK hret _ _ _
  refine X_aloadn hK (i := 0) 0 kd28_55.2.2.2.2.2.2.1 rfl rfl ?_
  refine X_iconst hK kd28_55.2.2.2.2.2.2.2.1 ?_
  refine X_puti hK fl_X12_198_13 hs_a0 (by decide) sl_13_0 (by omega) (by omega) kd28_55.2.2.2.2.2.2.2.2.1 (fun g1 hg1 => ?_)
  refine X_aloadn hK (i := 0) 0 kd28_55.2.2.2.2.2.2.2.2.2.1 rfl rfl ?_
  refine X_getK hK fl_X12_421_13 hs_a0 ((xs_k hg1 (by decide)).trans enc) kd28_55.2.2.2.2.2.2.2.2.2.2.1 ?_
  refine X_bipush hK kd28_55.2.2.2.2.2.2.2.2.2.2.2 (by decide) ?_
  refine X_icmp_eq hK 54 (by omega) (by omega) kd28_56.1 (by decide) (fun c2 => ?_) (fun c2 => ?_)
  · refine X_iconst hK kd28_57.2.2.2.2.2.2.2.2.1 ?_
    exact hret _ _ _ _ _ _ _ kd28_57.2.2.2.2.2.2.2.2.2.1 ⟨rfl, (-1), rfl, (by omega), (by omega), (by omega), (((xs_k hg1 (by decide)).trans enc).trans (by congr 2 <;> omega)), (by rw [if_neg (by omega), if_neg (by omega)]; exact (by rw [(xv_a hg1 (xne hs_cpa hs_a0 (by decide))), (xv_a hg1 (xne hs_cco hs_a0 (by decide))), (xv_a hg1 (xne hs_cda hs_a0 (by decide))), (xv_a hg1 (xne hs_ccn hs_a0 (by decide))), (xv_a hg1 (xne hs_cto hs_a0 (by decide)))]; exact hp0))⟩ (Nat.le_refl _) (Nat.le_refl _)
  · refine X_iloadn hK (i := 1) 1 kd28_56.2.1 rfl rfl ?_
    refine X_callS hK [.int (iI x1)] [] lk_X12_236 (c_X12_isPaper _ _ _ _ _ S g1 x1 (by omega)) kd28_56.2.2.1 rfl rfl (by simp [Value.category]) (by decide) (by decide) (by decide) (by decide) (fun r3 S5 g4 pr3 qr3 hg4 => ?_)
    obtain ⟨rfl, rfl, z6, rfl, lz6, uz6, k7⟩ := pr3
    refine X_st [.int (iI z6)] rfl ?_
    refine X_if_eq hK 54 (by omega) kd28_56.2.2.2.1 (by decide) (fun c8 => ?_) (fun c8 => ?_)
    · refine X_iconst hK kd28_57.2.2.2.2.2.2.2.2.1 ?_
      exact hret _ _ _ _ _ _ _ kd28_57.2.2.2.2.2.2.2.2.2.1 ⟨rfl, (-1), rfl, (by omega), (by omega), (by omega), (((xs_k hg1 (by decide)).trans enc).trans (by congr 2 <;> omega)), (by rw [if_neg (by omega), if_neg (by omega)]; exact (by rw [(xv_a hg1 (xne hs_cpa hs_a0 (by decide))), (xv_a hg1 (xne hs_cco hs_a0 (by decide))), (xv_a hg1 (xne hs_cda hs_a0 (by decide))), (xv_a hg1 (xne hs_ccn hs_a0 (by decide))), (xv_a hg1 (xne hs_cto hs_a0 (by decide)))]; exact hp0))⟩ (Nat.le_refl _) (Nat.le_refl _)
    · refine X_iloadn hK (i := 2) 2 kd28_56.2.2.2.2.1 rfl rfl ?_
      refine X_callS hK [.int (iI x2)] [] lk_X12_219 (c_X12_isCorner _ _ _ _ _ S g1 x2 (by omega)) kd28_56.2.2.2.2.2.1 rfl rfl (by simp [Value.category]) (by decide) (by decide) (by decide) (by decide) (fun r9 S11 g10 pr9 qr9 hg10 => ?_)
      obtain ⟨rfl, rfl, z12, rfl, lz12, uz12, k13⟩ := pr9
      refine X_st [.int (iI z12)] rfl ?_
      refine X_if_eq hK 54 (by omega) kd28_56.2.2.2.2.2.2.1 (by decide) (fun c14 => ?_) (fun c14 => ?_)
      · refine X_iconst hK kd28_57.2.2.2.2.2.2.2.2.1 ?_
        exact hret _ _ _ _ _ _ _ kd28_57.2.2.2.2.2.2.2.2.2.1 ⟨rfl, (-1), rfl, (by omega), (by omega), (by omega), (((xs_k hg1 (by decide)).trans enc).trans (by congr 2 <;> omega)), (by rw [if_neg (by omega), if_neg (by omega)]; exact (by rw [(xv_a hg1 (xne hs_cpa hs_a0 (by decide))), (xv_a hg1 (xne hs_cco hs_a0 (by decide))), (xv_a hg1 (xne hs_cda hs_a0 (by decide))), (xv_a hg1 (xne hs_ccn hs_a0 (by decide))), (xv_a hg1 (xne hs_cto hs_a0 (by decide)))]; exact hp0))⟩ (Nat.le_refl _) (Nat.le_refl _)
      · refine X_iloadn hK (i := 3) 3 kd28_56.2.2.2.2.2.2.2.1 rfl rfl ?_
        refine X_iconst hK kd28_56.2.2.2.2.2.2.2.2.1 ?_
        refine X_aloadn hK (i := 0) 0 kd28_56.2.2.2.2.2.2.2.2.2.1 rfl rfl ?_
        refine X_getK hK fl_X12_239_13 hs_a0 ((xs_k hg1 (by decide)).trans etd) kd28_56.2.2.2.2.2.2.2.2.2.2.1 ?_
        refine X_iconst hK kd28_56.2.2.2.2.2.2.2.2.2.2.2 ?_
        refine X_isub hK kd28_57.1 ?_
        refine X_callS hK [.int (iI x3), .int (iI 0), .int (iI (td - 1))] [] lk_X12_211 (c_X12_isIn _ _ _ _ _ S g1 x3 0 (td - 1) (by omega) (by omega) (by omega)) kd28_57.2.1 rfl rfl (by simp [Value.category]) (by decide) (by decide) (by decide) (by decide) (fun r15 S17 g16 pr15 qr15 hg16 => ?_)
        obtain ⟨rfl, rfl, z18, rfl, lz18, uz18, k19⟩ := pr15
        refine X_st [.int (iI z18)] rfl ?_
        refine X_if_eq hK 54 (by omega) kd28_57.2.2.1 (by decide) (fun c20 => ?_) (fun c20 => ?_)
        · refine X_iconst hK kd28_57.2.2.2.2.2.2.2.2.1 ?_
          exact hret _ _ _ _ _ _ _ kd28_57.2.2.2.2.2.2.2.2.2.1 ⟨rfl, (-1), rfl, (by omega), (by omega), (by omega), (((xs_k hg1 (by decide)).trans enc).trans (by congr 2 <;> omega)), (by rw [if_neg (by omega), if_neg (by omega)]; exact (by rw [(xv_a hg1 (xne hs_cpa hs_a0 (by decide))), (xv_a hg1 (xne hs_cco hs_a0 (by decide))), (xv_a hg1 (xne hs_cda hs_a0 (by decide))), (xv_a hg1 (xne hs_ccn hs_a0 (by decide))), (xv_a hg1 (xne hs_cto hs_a0 (by decide)))]; exact hp0))⟩ (Nat.le_refl _) (Nat.le_refl _)
        · refine X_iload hK (i := 4) 4 kd28_57.2.2.2.1 rfl ?_
          refine X_iconst hK kd28_57.2.2.2.2.1 ?_
          refine X_sipush hK kd28_57.2.2.2.2.2.1 (by decide) ?_
          refine X_callS hK [.int (iI x4), .int (iI 0), .int (iI 10000)] [] lk_X12_211 (c_X12_isIn _ _ _ _ _ S g1 x4 0 10000 (by omega) (by omega) (by omega)) kd28_57.2.2.2.2.2.2.1 rfl rfl (by simp [Value.category]) (by decide) (by decide) (by decide) (by decide) (fun r21 S23 g22 pr21 qr21 hg22 => ?_)
          obtain ⟨rfl, rfl, z24, rfl, lz24, uz24, k25⟩ := pr21
          refine X_st [.int (iI z24)] rfl ?_
          refine X_if_ne hK 56 (by omega) kd28_57.2.2.2.2.2.2.2.1 (by decide) (fun c26 => ?_) (fun c26 => ?_)
          · refine X_aloadn hK (i := 0) 0 kd28_57.2.2.2.2.2.2.2.2.2.2.1 rfl rfl ?_
            refine X_getK hK fl_X12_135_13 hs_a0 ((xs_k hg1 (by decide)).trans ecpa) kd28_57.2.2.2.2.2.2.2.2.2.2.2 ?_
            refine X_aloadn hK (i := 0) 0 kd28_58.1 rfl rfl ?_
            refine X_getK hK fl_X12_421_13 hs_a0 ((xs_k hg1 (by decide)).trans enc) kd28_58.2.1 ?_
            refine X_iloadn hK (i := 1) 1 kd28_58.2.2.1 rfl rfl ?_
            refine X_iast hK hs_cpa (by decide) (by decide) sl_17600 (by omega) (by omega) (by omega) (by omega) kd28_58.2.2.2.1 (fun g27 hg27 => ?_)
            refine X_aloadn hK (i := 0) 0 kd28_58.2.2.2.2.1 rfl rfl ?_
            refine X_getK hK fl_X12_138_13 hs_a0 ((xs_a hg27 (xne hs_a0 hs_cpa (by decide))).trans ((xs_k hg1 (by decide)).trans ecco)) kd28_58.2.2.2.2.2.1 ?_
            refine X_aloadn hK (i := 0) 0 kd28_58.2.2.2.2.2.2.1 rfl rfl ?_
            refine X_getK hK fl_X12_421_13 hs_a0 ((xs_a hg27 (xne hs_a0 hs_cpa (by decide))).trans ((xs_k hg1 (by decide)).trans enc)) kd28_58.2.2.2.2.2.2.2.1 ?_
            refine X_iloadn hK (i := 2) 2 kd28_58.2.2.2.2.2.2.2.2.1 rfl rfl ?_
            refine X_iast hK hs_cco (by decide) (by decide) sl_17700 (by omega) (by omega) (by omega) (by omega) kd28_58.2.2.2.2.2.2.2.2.2.1 (fun g28 hg28 => ?_)
            refine X_aloadn hK (i := 0) 0 kd28_58.2.2.2.2.2.2.2.2.2.2.1 rfl rfl ?_
            refine X_getK hK fl_X12_141_13 hs_a0 ((xs_a hg28 (xne hs_a0 hs_cco (by decide))).trans ((xs_a hg27 (xne hs_a0 hs_cpa (by decide))).trans ((xs_k hg1 (by decide)).trans ecda))) kd28_58.2.2.2.2.2.2.2.2.2.2.2 ?_
            refine X_aloadn hK (i := 0) 0 kd28_59.1 rfl rfl ?_
            refine X_getK hK fl_X12_421_13 hs_a0 ((xs_a hg28 (xne hs_a0 hs_cco (by decide))).trans ((xs_a hg27 (xne hs_a0 hs_cpa (by decide))).trans ((xs_k hg1 (by decide)).trans enc))) kd28_59.2.1 ?_
            refine X_iloadn hK (i := 3) 3 kd28_59.2.2.1 rfl rfl ?_
            refine X_iast hK hs_cda (by decide) (by decide) sl_17800 (by omega) (by omega) (by omega) (by omega) kd28_59.2.2.2.1 (fun g29 hg29 => ?_)
            refine X_aloadn hK (i := 0) 0 kd28_59.2.2.2.2.1 rfl rfl ?_
            refine X_getK hK fl_X12_144_13 hs_a0 ((xs_a hg29 (xne hs_a0 hs_cda (by decide))).trans ((xs_a hg28 (xne hs_a0 hs_cco (by decide))).trans ((xs_a hg27 (xne hs_a0 hs_cpa (by decide))).trans ((xs_k hg1 (by decide)).trans eccn)))) kd28_59.2.2.2.2.2.1 ?_
            refine X_aloadn hK (i := 0) 0 kd28_59.2.2.2.2.2.2.1 rfl rfl ?_
            refine X_getK hK fl_X12_421_13 hs_a0 ((xs_a hg29 (xne hs_a0 hs_cda (by decide))).trans ((xs_a hg28 (xne hs_a0 hs_cco (by decide))).trans ((xs_a hg27 (xne hs_a0 hs_cpa (by decide))).trans ((xs_k hg1 (by decide)).trans enc)))) kd28_59.2.2.2.2.2.2.2.1 ?_
            refine X_iload hK (i := 4) 4 kd28_59.2.2.2.2.2.2.2.2.1 rfl ?_
            refine X_iast hK hs_ccn (by decide) (by decide) sl_17900 (by omega) (by omega) (by omega) (by omega) kd28_59.2.2.2.2.2.2.2.2.2.1 (fun g30 hg30 => ?_)
            refine X_aloadn hK (i := 0) 0 kd28_59.2.2.2.2.2.2.2.2.2.2.1 rfl rfl ?_
            refine X_getK hK fl_X12_147_13 hs_a0 ((xs_a hg30 (xne hs_a0 hs_ccn (by decide))).trans ((xs_a hg29 (xne hs_a0 hs_cda (by decide))).trans ((xs_a hg28 (xne hs_a0 hs_cco (by decide))).trans ((xs_a hg27 (xne hs_a0 hs_cpa (by decide))).trans ((xs_k hg1 (by decide)).trans ecto))))) kd28_59.2.2.2.2.2.2.2.2.2.2.2 ?_
            refine X_aloadn hK (i := 0) 0 kd28_60.1 rfl rfl ?_
            refine X_getK hK fl_X12_421_13 hs_a0 ((xs_a hg30 (xne hs_a0 hs_ccn (by decide))).trans ((xs_a hg29 (xne hs_a0 hs_cda (by decide))).trans ((xs_a hg28 (xne hs_a0 hs_cco (by decide))).trans ((xs_a hg27 (xne hs_a0 hs_cpa (by decide))).trans ((xs_k hg1 (by decide)).trans enc))))) kd28_60.2.1 ?_
            refine X_aloadn hK (i := 0) 0 kd28_60.2.2.1 rfl rfl ?_
            refine X_getK hK fl_X12_239_13 hs_a0 ((xs_a hg30 (xne hs_a0 hs_ccn (by decide))).trans ((xs_a hg29 (xne hs_a0 hs_cda (by decide))).trans ((xs_a hg28 (xne hs_a0 hs_cco (by decide))).trans ((xs_a hg27 (xne hs_a0 hs_cpa (by decide))).trans ((xs_k hg1 (by decide)).trans etd))))) kd28_60.2.2.2.1 ?_
            refine X_iast hK hs_cto (by decide) (by decide) sl_18000 (by omega) (by omega) (by omega) (by omega) kd28_60.2.2.2.2.1 (fun g31 hg31 => ?_)
            refine X_aloadn hK (i := 0) 0 kd28_60.2.2.2.2.2.1 rfl rfl ?_
            refine X_dup hK kd28_60.2.2.2.2.2.2.1 rfl ?_
            refine X_getK hK fl_X12_421_13 hs_a0 ((xs_a hg31 (xne hs_a0 hs_cto (by decide))).trans ((xs_a hg30 (xne hs_a0 hs_ccn (by decide))).trans ((xs_a hg29 (xne hs_a0 hs_cda (by decide))).trans ((xs_a hg28 (xne hs_a0 hs_cco (by decide))).trans ((xs_a hg27 (xne hs_a0 hs_cpa (by decide))).trans ((xs_k hg1 (by decide)).trans enc)))))) kd28_60.2.2.2.2.2.2.2.1 ?_
            refine X_iconst hK kd28_60.2.2.2.2.2.2.2.2.1 ?_
            refine X_iadd hK kd28_60.2.2.2.2.2.2.2.2.2.1 ?_
            refine X_puti hK fl_X12_421_13 hs_a0 (by decide) sl_13_69 (by omega) (by omega) kd28_60.2.2.2.2.2.2.2.2.2.2.1 (fun g32 hg32 => ?_)
            refine X_aloadn hK (i := 0) 0 kd28_60.2.2.2.2.2.2.2.2.2.2.2 rfl rfl ?_
            refine X_getK hK fl_X12_421_13 hs_a0 (xs_s hg32) kd28_61.1 ?_
            refine X_iconst hK kd28_61.2.1 ?_
            refine X_isub hK kd28_61.2.2.1 ?_
            exact hret _ _ _ _ _ _ _ kd28_61.2.2.2.1 ⟨rfl, ((nc + 1) - 1), rfl, (by omega), (by omega), (by omega), ((xs_s hg32).trans (by congr 2 <;> omega)), (by rw [if_pos (by omega), if_pos (by omega)]; exact xLgM.add hp0 (show xv g32 cpa nc = x1 from by rw [(xv_a hg32 (xne hs_cpa hs_a0 (by decide))), (xv_a hg31 (xne hs_cpa hs_cto (by decide))), (xv_a hg30 (xne hs_cpa hs_ccn (by decide))), (xv_a hg29 (xne hs_cpa hs_cda (by decide))), (xv_a hg28 (xne hs_cpa hs_cco (by decide))), xv_s hg27 (by omega)]) (fun i9 hi9 h09 => (show xv g32 cpa i9 = xv g cpa i9 from by rw [(xv_a hg32 (xne hs_cpa hs_a0 (by decide))), (xv_a hg31 (xne hs_cpa hs_cto (by decide))), (xv_a hg30 (xne hs_cpa hs_ccn (by decide))), (xv_a hg29 (xne hs_cpa hs_cda (by decide))), (xv_a hg28 (xne hs_cpa hs_cco (by decide))), (xv_k (i := i9) hg27 (by omega) (by omega) (by omega)), (xv_a hg1 (xne hs_cpa hs_a0 (by decide)))])) (show xv g32 cco nc = x2 from by rw [(xv_a hg32 (xne hs_cco hs_a0 (by decide))), (xv_a hg31 (xne hs_cco hs_cto (by decide))), (xv_a hg30 (xne hs_cco hs_ccn (by decide))), (xv_a hg29 (xne hs_cco hs_cda (by decide))), xv_s hg28 (by omega)]) (fun i9 hi9 h09 => (show xv g32 cco i9 = xv g cco i9 from by rw [(xv_a hg32 (xne hs_cco hs_a0 (by decide))), (xv_a hg31 (xne hs_cco hs_cto (by decide))), (xv_a hg30 (xne hs_cco hs_ccn (by decide))), (xv_a hg29 (xne hs_cco hs_cda (by decide))), (xv_k (i := i9) hg28 (by omega) (by omega) (by omega)), (xv_a hg27 (xne hs_cco hs_cpa (by decide))), (xv_a hg1 (xne hs_cco hs_a0 (by decide)))])) (show xv g32 cda nc = x3 from by rw [(xv_a hg32 (xne hs_cda hs_a0 (by decide))), (xv_a hg31 (xne hs_cda hs_cto (by decide))), (xv_a hg30 (xne hs_cda hs_ccn (by decide))), xv_s hg29 (by omega)]) (fun i9 hi9 h09 => (show xv g32 cda i9 = xv g cda i9 from by rw [(xv_a hg32 (xne hs_cda hs_a0 (by decide))), (xv_a hg31 (xne hs_cda hs_cto (by decide))), (xv_a hg30 (xne hs_cda hs_ccn (by decide))), (xv_k (i := i9) hg29 (by omega) (by omega) (by omega)), (xv_a hg28 (xne hs_cda hs_cco (by decide))), (xv_a hg27 (xne hs_cda hs_cpa (by decide))), (xv_a hg1 (xne hs_cda hs_a0 (by decide)))])) (show xv g32 ccn nc = x4 from by rw [(xv_a hg32 (xne hs_ccn hs_a0 (by decide))), (xv_a hg31 (xne hs_ccn hs_cto (by decide))), xv_s hg30 (by omega)]) (fun i9 hi9 h09 => (show xv g32 ccn i9 = xv g ccn i9 from by rw [(xv_a hg32 (xne hs_ccn hs_a0 (by decide))), (xv_a hg31 (xne hs_ccn hs_cto (by decide))), (xv_k (i := i9) hg30 (by omega) (by omega) (by omega)), (xv_a hg29 (xne hs_ccn hs_cda (by decide))), (xv_a hg28 (xne hs_ccn hs_cco (by decide))), (xv_a hg27 (xne hs_ccn hs_cpa (by decide))), (xv_a hg1 (xne hs_ccn hs_a0 (by decide)))])) (show xv g32 cto nc = td from by rw [(xv_a hg32 (xne hs_cto hs_a0 (by decide))), xv_s hg31 (by omega)]) (fun i9 hi9 h09 => (show xv g32 cto i9 = xv g cto i9 from by rw [(xv_a hg32 (xne hs_cto hs_a0 (by decide))), (xv_k (i := i9) hg31 (by omega) (by omega) (by omega)), (xv_a hg30 (xne hs_cto hs_ccn (by decide))), (xv_a hg29 (xne hs_cto hs_cda (by decide))), (xv_a hg28 (xne hs_cto hs_cco (by decide))), (xv_a hg27 (xne hs_cto hs_cpa (by decide))), (xv_a hg1 (xne hs_cto hs_a0 (by decide)))])) (by omega) (by omega) (by omega))⟩ (Nat.le_refl _) (Nat.le_refl _)
          · refine X_iconst hK kd28_57.2.2.2.2.2.2.2.2.1 ?_
            exact hret _ _ _ _ _ _ _ kd28_57.2.2.2.2.2.2.2.2.2.1 ⟨rfl, (-1), rfl, (by omega), (by omega), (by omega), (((xs_k hg1 (by decide)).trans enc).trans (by congr 2 <;> omega)), (by rw [if_neg (by omega), if_neg (by omega)]; exact (by rw [(xv_a hg1 (xne hs_cpa hs_a0 (by decide))), (xv_a hg1 (xne hs_cco hs_a0 (by decide))), (xv_a hg1 (xne hs_cda hs_a0 (by decide))), (xv_a hg1 (xne hs_ccn hs_a0 (by decide))), (xv_a hg1 (xne hs_cto hs_a0 (by decide)))]; exact hp0))⟩ (Nat.le_refl _) (Nat.le_refl _)
