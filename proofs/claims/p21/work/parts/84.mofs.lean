theorem kd84_0 : (decode cX12_thrown 0 = .ok (.aload_n 0, 1)) ∧ (decode cX12_thrown 1 = .ok (.getfield 198, 3)) ∧ (decode cX12_thrown 4 = .ok (.ireturn, 1)) := by decide +kernel
def xof9 (Y : Nat → Int → Int) (w k : Int) : Int := if w = 0 then Y 5 k else if w = 1 then Y 8 k else if w = 2 then Y 9 k else if w = 3 then Y 10 k else Y 7 k
set_option maxHeartbeats 4000000 in
set_option maxRecDepth 100000 in
theorem m_refuse (l : Launch) (D : va_G) (kA : Nat → ClassId) (b0 : Nat) (t0 : Nat → Nat) (S : xT) (g : xG) (a0 : Nat) (hs_a0 : S a0 = some (13, 0)) : xMt l yX12_refuse cX12_refuse 1 (some .int) 0 0 0 0 D kA b0 t0 [(13, 0)] [.ref a0] S g (fun (r : Option Value) (S1 : xT) (g1 : xG) => S = S1 ∧ ∃ z : Int, r = some (.int (iI z)) ∧ 0 ≤ z ∧ z ≤ 0 ∧ (z = 0) ∧ (g1 a0 0 = .int (iI (1)))) := by
  refine xEnterI (by decide) (by simp [lg_sl, Value.category]) [(0, .ref a0)] rfl ?_
  intro K E hK hret _ _ _
  refine X_aloadn hK (i := 0) 0 kd21_1.2.2.2.2.2.2.2.2.2.2.2 rfl rfl ?_
  refine X_iconst hK kd21_2.1 ?_
  refine X_puti hK fl_X12_198_13 hs_a0 (by decide) sl_13_0 (by omega) (by omega) kd21_2.2.1 (fun g1 hg1 => ?_)
  refine X_iconst hK kd21_2.2.2.1 ?_
  exact hret _ _ _ _ _ _ _ kd21_2.2.2.2.1 ⟨rfl, 0, rfl, (by omega), (by omega), (by omega), ((xs_s hg1).trans (by congr 2 <;> omega))⟩ (Nat.le_refl _) (Nat.le_refl _)

set_option maxHeartbeats 4000000 in
set_option maxRecDepth 100000 in
theorem m_thrown (l : Launch) (D : va_G) (kA : Nat → ClassId) (b0 : Nat) (t0 : Nat → Nat) (S : xT) (g : xG) (a0 : Nat) (th : Int) (hs_a0 : S a0 = some (13, 0)) (hth : (-2147483648) ≤ th ∧ th ≤ 2147483647) (eth : g a0 0 = .int (iI th)) : xMt l yX12_thrown cX12_thrown 1 (some .int) 0 0 0 0 D kA b0 t0 [] [.ref a0] S g (fun (r : Option Value) (S1 : xT) (g1 : xG) => S = S1 ∧ g = g1 ∧ ∃ z : Int, r = some (.int (iI z)) ∧ (-2147483648) ≤ z ∧ z ≤ 2147483647 ∧ (z = th)) := by
  refine xEnterI (by decide) (by simp [lg_sl, Value.category]) [(0, .ref a0)] rfl ?_
  intro K E hK hret _ _ _
  refine X_aloadn hK (i := 0) 0 kd84_0.1 rfl rfl ?_
  refine X_getK hK fl_X12_198_13 hs_a0 eth kd84_0.2.1 ?_
  exact hret _ _ _ _ _ _ _ kd84_0.2.2 ⟨rfl, rfl, th, rfl, (by omega), (by omega), (by omega)⟩ (Nat.le_refl _) (Nat.le_refl _)

set_option maxHeartbeats 4000000 in
set_option maxRecDepth 100000 in
theorem m_mof (l : Launch) (D : va_G) (kA : Nat → ClassId) (b0 : Nat) (t0 : Nat → Nat) (S : xT) (g : xG) (a0 : Nat) (x1 : Int) (x2 : Int) (nu : Int) (nb : Int) (wbo : Nat) (wpa : Nat) (wco : Nat) (wcp : Nat) (who : Nat) (wdy : Nat) (wcs : Nat) (wso : Nat) (wba : Nat) (wea : Nat) (Y : Nat → Int → Int) (hs_a0 : S a0 = some (13, 0)) (hx1 : (-2147483648) ≤ x1 ∧ x1 ≤ 2147483647) (hx2 : (-2147483648) ≤ x2 ∧ x2 ≤ 2147483647) (hnu : 0 ≤ nu ∧ nu ≤ 200) (enu : g a0 58 = .int (iI nu)) (hnb : 0 ≤ nb ∧ nb ≤ 40) (enb : g a0 16 = .int (iI nb)) (ewbo : g a0 48 = .ref wbo) (hs_wbo : S wbo = some (16400, 200)) (ewpa : g a0 49 = .ref wpa) (hs_wpa : S wpa = some (16500, 200)) (ewco : g a0 50 = .ref wco) (hs_wco : S wco = some (16600, 200)) (ewcp : g a0 51 = .ref wcp) (hs_wcp : S wcp = some (16700, 200)) (ewho : g a0 52 = .ref who) (hs_who : S who = some (16800, 200)) (ewdy : g a0 53 = .ref wdy) (hs_wdy : S wdy = some (16900, 200)) (ewcs : g a0 54 = .ref wcs) (hs_wcs : S wcs = some (17000, 200)) (ewso : g a0 55 = .ref wso) (hs_wso : S wso = some (17100, 200)) (ewba : g a0 56 = .ref wba) (hs_wba : S wba = some (17200, 200)) (ewea : g a0 57 = .ref wea) (hs_wea : S wea = some (17300, 200)) (hp0 : xRU nu nb (xv g wbo) (xv g wpa) (xv g wco) (xv g wcp) (xv g who) (xv g wdy) Y) (hp1 : xRv nu (xv g wcs) (xv g wso) (xv g wba) (xv g wea) Y) : xMt l yX12_of cX12_of 3 (some .int) 1 0 0 22 D kA b0 t0 [(13, 0)] [.ref a0, .int (iI x1), .int (iI x2)] S g (fun (r : Option Value) (S1 : xT) (g1 : xG) => S = S1 ∧ ∃ z : Int, r = some (.int (iI z)) ∧ (-2147483648) ≤ z ∧ z ≤ 2147483647 ∧ (g1 a0 0 = .int (iI (if 0 ≤ x1 ∧ x1 < nu ∧ 0 ≤ x2 ∧ x2 ≤ 4 then 0 else 1))) ∧ ((0 ≤ x1 ∧ x1 < nu ∧ 0 ≤ x2 ∧ x2 ≤ 4) → z = xof9 Y x2 x1)) := by
  refine xEnterI (by decide) (by simp [lg_sl, Value.category]) [(0, .ref a0), (1, .int (iI x1)), (2, .int (iI x2))] rfl ?_
  intro K E hK hret _ _ _
  refine X_iloadn hK (i := 1) 1 kd28_110.2.1 rfl rfl ?_
  refine X_iconst hK kd28_110.2.2.1 ?_
  refine X_aloadn hK (i := 0) 0 kd28_110.2.2.2.1 rfl rfl ?_
  refine X_getK hK fl_X12_389_13 hs_a0 enu kd28_110.2.2.2.2.1 ?_
  refine X_iconst hK kd28_110.2.2.2.2.2.1 ?_
  refine X_isub hK kd28_110.2.2.2.2.2.2.1 ?_
  refine X_callS hK [.int (iI x1), .int (iI 0), .int (iI (nu - 1))] [] lk_X12_211 (c_X12_isIn _ _ _ _ _ S g x1 0 (nu - 1) (by omega) (by omega) (by omega)) kd28_110.2.2.2.2.2.2.2.1 rfl rfl (by simp [Value.category]) (by decide) (by decide) (by decide) (by decide) (fun r1 S3 g2 pr1 qr1 hg2 => ?_)
  obtain ⟨rfl, rfl, z4, rfl, lz4, uz4, k5⟩ := pr1
  refine X_st [.int (iI z4)] rfl ?_
  refine X_if_eq hK 23 (by omega) kd28_110.2.2.2.2.2.2.2.2.1 (by decide) (fun c6 => ?_) (fun c6 => ?_)
  · refine X_aloadn hK (i := 0) 0 kd28_111.2.2.1 rfl rfl ?_
    refine X_callV hK [] [] lk_X12_418 (m_refuse _ _ _ _ _ S g a0 hs_a0) hs_a0 ⟨by decide, rfl⟩ kd28_111.2.2.2.1 rfl rfl (by simp [Value.category]) (by decide) (by decide) (by decide) (by decide) (fun r7 S9 g8 pr7 qr7 hg8 => ?_)
    obtain ⟨rfl, z10, rfl, lz10, uz10, k11, k12⟩ := pr7
    refine X_st [.int (iI z10)] rfl ?_
    exact hret _ _ _ _ _ _ _ kd28_111.2.2.2.2.1 ⟨rfl, z10, rfl, (by omega), (by omega), (k12.trans (by congr 2 <;> omega)), (fun h9 => False.elim (by omega))⟩ (Nat.le_refl _) (Nat.le_refl _)
  · refine X_iloadn hK (i := 2) 2 kd28_110.2.2.2.2.2.2.2.2.2.1 rfl rfl ?_
    refine X_iconst hK kd28_110.2.2.2.2.2.2.2.2.2.2.1 ?_
    refine X_iconst hK kd28_110.2.2.2.2.2.2.2.2.2.2.2 ?_
    refine X_callS hK [.int (iI x2), .int (iI 0), .int (iI 4)] [] lk_X12_211 (c_X12_isIn _ _ _ _ _ S g x2 0 4 (by omega) (by omega) (by omega)) kd28_111.1 rfl rfl (by simp [Value.category]) (by decide) (by decide) (by decide) (by decide) (fun r13 S15 g14 pr13 qr13 hg14 => ?_)
    obtain ⟨rfl, rfl, z16, rfl, lz16, uz16, k17⟩ := pr13
    refine X_st [.int (iI z16)] rfl ?_
    refine X_if_ne hK 28 (by omega) kd28_111.2.1 (by decide) (fun c18 => ?_) (fun c18 => ?_)
    · refine X_aloadn hK (i := 0) 0 kd28_111.2.2.2.2.2.1 rfl rfl ?_
      refine X_iconst hK kd28_111.2.2.2.2.2.2.1 ?_
      refine X_puti hK fl_X12_198_13 hs_a0 (by decide) sl_13_0 (by omega) (by omega) kd28_111.2.2.2.2.2.2.2.1 (fun g19 hg19 => ?_)
      refine X_iloadn hK (i := 2) 2 kd28_111.2.2.2.2.2.2.2.2.1 rfl rfl ?_
      rcases (show (x2 < 0 ∨ 3 < x2) ∨ x2 = 0 ∨ x2 = 1 ∨ x2 = 2 ∨ x2 = 3 by omega) with c20 | c20 | c20 | c20 | c20
      · refine X_tableOut hK 92 (by omega) c20 kd28_111.2.2.2.2.2.2.2.2.2.1 (by decide) ?_
        refine X_aloadn hK (i := 0) 0 kd28_113.2.2.2.2.2.2.1 rfl rfl ?_
        refine X_getK hK fl_X12_108_13 hs_a0 ((xs_k hg19 (by decide)).trans ewcs) kd28_113.2.2.2.2.2.2.2.1 ?_
        refine X_iloadn hK (i := 1) 1 kd28_113.2.2.2.2.2.2.2.2.1 rfl rfl ?_
        refine X_iald hK hs_wcs (by decide) sl_17000 (by omega) (by omega) kd28_113.2.2.2.2.2.2.2.2.2.1 (fun z21 ez21 lz21 uz21 => ?_)
        have hw22 : xv g wcs x1 = z21 := (by rw [← (xv_a hg19 (xne hs_wcs hs_a0 (by decide)))]; exact (xv_e (j := x1) ez21 (by omega)))
        exact hret _ _ _ _ _ _ _ kd28_113.2.2.2.2.2.2.2.2.2.2.1 ⟨rfl, z21, rfl, (by omega), (by omega), ((xs_s hg19).trans (by congr 2 <;> omega)), (fun _ => by rw [show x2 = 4 by omega]; show z21 = Y 7 x1; exact hw22.symm.trans (hp1 x1 (by omega) (by omega)).1)⟩ (Nat.le_refl _) (Nat.le_refl _)
      · refine X_tableIn hK 64 0 (by decide) c20 (by decide) (by decide) kd28_111.2.2.2.2.2.2.2.2.2.1 rfl (by decide) ?_
        refine X_aloadn hK (i := 0) 0 kd28_111.2.2.2.2.2.2.2.2.2.2.1 rfl rfl ?_
        refine X_getK hK fl_X12_105_13 hs_a0 ((xs_k hg19 (by decide)).trans ewdy) kd28_111.2.2.2.2.2.2.2.2.2.2.2 ?_
        refine X_iloadn hK (i := 1) 1 kd28_112.1 rfl rfl ?_
        refine X_iald hK hs_wdy (by decide) sl_16900 (by omega) (by omega) kd28_112.2.1 (fun z23 ez23 lz23 uz23 => ?_)
        have hw24 : xv g wdy x1 = z23 := (by rw [← (xv_a hg19 (xne hs_wdy hs_a0 (by decide)))]; exact (xv_e (j := x1) ez23 (by omega)))
        exact hret _ _ _ _ _ _ _ kd28_112.2.2.1 ⟨rfl, z23, rfl, (by omega), (by omega), ((xs_s hg19).trans (by congr 2 <;> omega)), (fun _ => by rw [show x2 = 0 by omega]; show z23 = Y 5 x1; exact hw24.symm.trans (hp0 x1 (by omega) (by omega)).2.2.2.2.2.1)⟩ (Nat.le_refl _) (Nat.le_refl _)
      · refine X_tableIn hK 71 1 (by decide) c20 (by decide) (by decide) kd28_111.2.2.2.2.2.2.2.2.2.1 rfl (by decide) ?_
        refine X_aloadn hK (i := 0) 0 kd28_112.2.2.2.1 rfl rfl ?_
        refine X_getK hK fl_X12_111_13 hs_a0 ((xs_k hg19 (by decide)).trans ewso) kd28_112.2.2.2.2.1 ?_
        refine X_iloadn hK (i := 1) 1 kd28_112.2.2.2.2.2.1 rfl rfl ?_
        refine X_iald hK hs_wso (by decide) sl_17100 (by omega) (by omega) kd28_112.2.2.2.2.2.2.1 (fun z25 ez25 lz25 uz25 => ?_)
        have hw26 : xv g wso x1 = z25 := (by rw [← (xv_a hg19 (xne hs_wso hs_a0 (by decide)))]; exact (xv_e (j := x1) ez25 (by omega)))
        exact hret _ _ _ _ _ _ _ kd28_112.2.2.2.2.2.2.2.1 ⟨rfl, z25, rfl, (by omega), (by omega), ((xs_s hg19).trans (by congr 2 <;> omega)), (fun _ => by rw [show x2 = 1 by omega]; show z25 = Y 8 x1; exact hw26.symm.trans (hp1 x1 (by omega) (by omega)).2.1)⟩ (Nat.le_refl _) (Nat.le_refl _)
      · refine X_tableIn hK 78 2 (by decide) c20 (by decide) (by decide) kd28_111.2.2.2.2.2.2.2.2.2.1 rfl (by decide) ?_
        refine X_aloadn hK (i := 0) 0 kd28_112.2.2.2.2.2.2.2.2.1 rfl rfl ?_
        refine X_getK hK fl_X12_114_13 hs_a0 ((xs_k hg19 (by decide)).trans ewba) kd28_112.2.2.2.2.2.2.2.2.2.1 ?_
        refine X_iloadn hK (i := 1) 1 kd28_112.2.2.2.2.2.2.2.2.2.2.1 rfl rfl ?_
        refine X_iald hK hs_wba (by decide) sl_17200 (by omega) (by omega) kd28_112.2.2.2.2.2.2.2.2.2.2.2 (fun z27 ez27 lz27 uz27 => ?_)
        have hw28 : xv g wba x1 = z27 := (by rw [← (xv_a hg19 (xne hs_wba hs_a0 (by decide)))]; exact (xv_e (j := x1) ez27 (by omega)))
        exact hret _ _ _ _ _ _ _ kd28_113.1 ⟨rfl, z27, rfl, (by omega), (by omega), ((xs_s hg19).trans (by congr 2 <;> omega)), (fun _ => by rw [show x2 = 2 by omega]; show z27 = Y 9 x1; exact hw28.symm.trans (hp1 x1 (by omega) (by omega)).2.2.1)⟩ (Nat.le_refl _) (Nat.le_refl _)
      · refine X_tableIn hK 85 3 (by decide) c20 (by decide) (by decide) kd28_111.2.2.2.2.2.2.2.2.2.1 rfl (by decide) ?_
        refine X_aloadn hK (i := 0) 0 kd28_113.2.1 rfl rfl ?_
        refine X_getK hK fl_X12_117_13 hs_a0 ((xs_k hg19 (by decide)).trans ewea) kd28_113.2.2.1 ?_
        refine X_iloadn hK (i := 1) 1 kd28_113.2.2.2.1 rfl rfl ?_
        refine X_iald hK hs_wea (by decide) sl_17300 (by omega) (by omega) kd28_113.2.2.2.2.1 (fun z29 ez29 lz29 uz29 => ?_)
        have hw30 : xv g wea x1 = z29 := (by rw [← (xv_a hg19 (xne hs_wea hs_a0 (by decide)))]; exact (xv_e (j := x1) ez29 (by omega)))
        exact hret _ _ _ _ _ _ _ kd28_113.2.2.2.2.2.1 ⟨rfl, z29, rfl, (by omega), (by omega), ((xs_s hg19).trans (by congr 2 <;> omega)), (fun _ => by rw [show x2 = 3 by omega]; show z29 = Y 10 x1; exact hw30.symm.trans (hp1 x1 (by omega) (by omega)).2.2.2)⟩ (Nat.le_refl _) (Nat.le_refl _)
    · refine X_aloadn hK (i := 0) 0 kd28_111.2.2.1 rfl rfl ?_
      refine X_callV hK [] [] lk_X12_418 (m_refuse _ _ _ _ _ S g a0 hs_a0) hs_a0 ⟨by decide, rfl⟩ kd28_111.2.2.2.1 rfl rfl (by simp [Value.category]) (by decide) (by decide) (by decide) (by decide) (fun r31 S33 g32 pr31 qr31 hg32 => ?_)
      obtain ⟨rfl, z34, rfl, lz34, uz34, k35, k36⟩ := pr31
      refine X_st [.int (iI z34)] rfl ?_
      exact hret _ _ _ _ _ _ _ kd28_111.2.2.2.2.1 ⟨rfl, z34, rfl, (by omega), (by omega), (k36.trans (by congr 2 <;> omega)), (fun h9 => False.elim (by omega))⟩ (Nat.le_refl _) (Nat.le_refl _)

set_option maxHeartbeats 4000000 in
set_option maxRecDepth 100000 in
theorem m_mcoin (l : Launch) (D : va_G) (kA : Nat → ClassId) (b0 : Nat) (t0 : Nat → Nat) (S : xT) (g : xG) (a0 : Nat) (x1 : Int) (nb : Int) (wcn : Nat) (YB : Nat → Int → Int) (hs_a0 : S a0 = some (13, 0)) (hx1 : (-2147483648) ≤ x1 ∧ x1 ≤ 2147483647) (hnb : 0 ≤ nb ∧ nb ≤ 40) (enb : g a0 16 = .int (iI nb)) (ewcn : g a0 7 = .ref wcn) (hs_wcn : S wcn = some (14500, 40)) (hp0 : xRk nb (xv g wcn) YB) : xMt l yX12_coin cX12_coin 2 (some .int) 1 0 0 21 D kA b0 t0 [(13, 0)] [.ref a0, .int (iI x1)] S g (fun (r : Option Value) (S1 : xT) (g1 : xG) => S = S1 ∧ ∃ z : Int, r = some (.int (iI z)) ∧ (-2147483648) ≤ z ∧ z ≤ 2147483647 ∧ (g1 a0 0 = .int (iI (if 0 ≤ x1 ∧ x1 < nb then 0 else 1))) ∧ ((0 ≤ x1 ∧ x1 < nb) → z = YB 5 x1)) := by
  refine xEnterI (by decide) (by simp [lg_sl, Value.category]) [(0, .ref a0), (1, .int (iI x1))] rfl ?_
  intro K E hK hret _ _ _
  refine X_aloadn hK (i := 0) 0 kd28_49.1 rfl rfl ?_
  refine X_iloadn hK (i := 1) 1 kd28_49.2.1 rfl rfl ?_
  refine X_callV hK [.int (iI x1)] [] lk_X12_215 (c_X12_isBoy _ _ _ _ _ S g a0 x1 nb hs_a0 (by omega) (by omega) enb) hs_a0 ⟨by decide, rfl⟩ kd28_49.2.2.1 rfl rfl (by simp [Value.category]) (by decide) (by decide) (by decide) (by decide) (fun r1 S3 g2 pr1 qr1 hg2 => ?_)
  obtain ⟨rfl, rfl, z4, rfl, lz4, uz4, k5⟩ := pr1
  refine X_st [.int (iI z4)] rfl ?_
  refine X_if_ne hK 13 (by omega) kd28_49.2.2.2.1 (by decide) (fun c6 => ?_) (fun c6 => ?_)
  · refine X_aloadn hK (i := 0) 0 kd28_49.2.2.2.2.2.2.2.1 rfl rfl ?_
    refine X_iconst hK kd28_49.2.2.2.2.2.2.2.2.1 ?_
    refine X_puti hK fl_X12_198_13 hs_a0 (by decide) sl_13_0 (by omega) (by omega) kd28_49.2.2.2.2.2.2.2.2.2.1 (fun g7 hg7 => ?_)
    refine X_aloadn hK (i := 0) 0 kd28_49.2.2.2.2.2.2.2.2.2.2.1 rfl rfl ?_
    refine X_getK hK fl_X12_22_13 hs_a0 ((xs_k hg7 (by decide)).trans ewcn) kd28_49.2.2.2.2.2.2.2.2.2.2.2 ?_
    refine X_iloadn hK (i := 1) 1 kd28_50.1 rfl rfl ?_
    refine X_iald hK hs_wcn (by decide) sl_14500 (by omega) (by omega) kd28_50.2.1 (fun z8 ez8 lz8 uz8 => ?_)
    have hw9 : xv g wcn x1 = z8 := (by rw [← (xv_a hg7 (xne hs_wcn hs_a0 (by decide)))]; exact (xv_e (j := x1) ez8 (by omega)))
    exact hret _ _ _ _ _ _ _ kd28_50.2.2.1 ⟨rfl, z8, rfl, (by omega), (by omega), ((xs_s hg7).trans (by congr 2 <;> omega)), (fun _ => hw9.symm.trans (hp0 x1 (by omega) (by omega)))⟩ (Nat.le_refl _) (Nat.le_refl _)
  · refine X_aloadn hK (i := 0) 0 kd28_49.2.2.2.2.1 rfl rfl ?_
    refine X_callV hK [] [] lk_X12_418 (m_refuse _ _ _ _ _ S g a0 hs_a0) hs_a0 ⟨by decide, rfl⟩ kd28_49.2.2.2.2.2.1 rfl rfl (by simp [Value.category]) (by decide) (by decide) (by decide) (by decide) (fun r10 S12 g11 pr10 qr10 hg11 => ?_)
    obtain ⟨rfl, z13, rfl, lz13, uz13, k14, k15⟩ := pr10
    refine X_st [.int (iI z13)] rfl ?_
    exact hret _ _ _ _ _ _ _ kd28_49.2.2.2.2.2.2.1 ⟨rfl, z13, rfl, (by omega), (by omega), (k15.trans (by congr 2 <;> omega)), (fun h9 => False.elim (by omega))⟩ (Nat.le_refl _) (Nat.le_refl _)
