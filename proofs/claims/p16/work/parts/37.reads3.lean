
set_option maxHeartbeats 4000000 in
set_option maxRecDepth 100000 in
theorem c3_readMay (l : Launch) (D : va_G) (kA : Nat → ClassId) (b0 : Nat) (t0 : Nat → Nat) (S : xT) (g : xG) (a0 : Nat) (na : Int) (no : Int) (nf : Int) (nq : Int) (wt : Nat) (wp : Nat) (tk : Int → Int) (tl : Int → Int) (cn : Int) (hs_a0 : S a0 = some (8, 0)) (hna : 0 ≤ na ∧ na ≤ 300) (ena : g a0 2 = .int (iI na)) (hno : 0 ≤ no ∧ no ≤ 50) (eno : g a0 3 = .int (iI no)) (hnf : (-2147483648) ≤ nf ∧ nf ≤ 2147483647) (enf : g a0 5 = .int (iI nf)) (hnq : 0 ≤ nq ∧ nq ≤ 300) (enq : g a0 6 = .int (iI nq)) (ewt : g a0 0 = .ref wt) (hs_wt : S wt = some (12900, 301)) (ewp : g a0 1 = .ref wp) (hs_wp : S wp = some (13000, 301)) (hp0 : xTB (xv g wt) (xv g wp) tk tl cn) (hp1 : na ≤ cn) (hp2 : cn ≤ 300) : xMt l yX7_readMay cX7_readMay 1 (some .int) 1 0 0 20 D kA b0 t0 [(8, 2)] [.ref a0] S g (fun (r : Option Value) (S1 : xT) (g1 : xG) => S = S1 ∧ ∃ z : Int, r = some (.int (iI z)) ∧ 0 ≤ z ∧ z ≤ 1 ∧ (∃ F a o q : Int, g1 a0 5 = .int (iI F) ∧ -2147483648 ≤ F ∧ F ≤ 2147483647 ∧ g1 a0 2 = .int (iI a) ∧ 0 ≤ a ∧ a ≤ cn ∧ g1 a0 3 = .int (iI o) ∧ 0 ≤ o ∧ o ≤ 50 ∧ g1 a0 6 = .int (iI q) ∧ 0 ≤ q ∧ q ≤ 300 ∧ ((tk na = 7 ∧ a = na + 1 ∧ z = 0) ∨ (tk na ≠ 7 ∧ a = na ∧ z = 1)) ∧ F = nf ∧ o = no ∧ q = nq)) := by
  refine xEnterI (by decide) (by simp [lg_sl, Value.category]) [(0, .ref a0)] rfl ?_
  intro K E hK hret _ _ _
  refine X_aloadn hK (i := 0) 0 dX7_readMay_0 rfl rfl ?_
  refine X_callV hK [] [] lk_X7_47 (c3_now _ _ _ _ _ S g a0 na wt wp tk tl cn hs_a0 (by omega) ena ewt hs_wt ewp hs_wp hp0 (by omega) (by omega)) hs_a0 ⟨by decide, rfl⟩ dX7_readMay_1 rfl rfl (by simp [Value.category]) (by decide) (by decide) (by decide) (by decide) (fun r1 S3 g2 pr1 qr1 hg2 => ?_)
  obtain ⟨rfl, rfl, z4, rfl, lz4, uz4, k5⟩ := pr1
  refine X_st [.int (iI z4)] rfl ?_
  refine X_bipush hK dX7_readMay_4 (by decide) ?_
  refine X_icmp_ne hK 21 (by omega) (by omega) dX7_readMay_6 (by decide) (fun c6 => ?_) (fun c6 => ?_)
  · refine X_iconst hK dX7_readMay_21 ?_
    exact hret _ _ _ _ _ _ _ dX7_readMay_22 ⟨rfl, 1, rfl, (by omega), (by omega), ⟨nf, na, no, nq, enf, by omega, by omega, ena, by omega, by omega, eno, by omega, by omega, enq, by omega, by omega, ⟨(by rw [← k5]; omega), rfl, rfl, rfl⟩⟩⟩ (Nat.le_refl _) (Nat.le_refl _)
  · refine X_aloadn hK (i := 0) 0 dX7_readMay_9 rfl rfl ?_
    refine X_dup hK dX7_readMay_10 rfl ?_
    have hl7 := xTB.lt (a := na) (show xTB (xv g wt) (xv g wp) tk tl cn from hp0) (by omega) (by rw [← k5]; omega)
    refine X_getK hK fl_X7_18_8 hs_a0 ena dX7_readMay_11 ?_
    refine X_iconst hK dX7_readMay_14 ?_
    refine X_iadd hK dX7_readMay_15 ?_
    refine X_puti hK fl_X7_18_8 hs_a0 (by decide) sl_8_2 (by omega) (by omega) dX7_readMay_16 (fun g8 hg8 => ?_)
    refine X_iconst hK dX7_readMay_19 ?_
    exact hret _ _ _ _ _ _ _ dX7_readMay_20 ⟨rfl, 0, rfl, (by omega), (by omega), ⟨nf, (na + 1), no, nq, ((xs_k hg8 (by decide)).trans enf), by omega, by omega, (xs_s hg8), by omega, by omega, ((xs_k hg8 (by decide)).trans eno), by omega, by omega, ((xs_k hg8 (by decide)).trans enq), by omega, by omega, ⟨(by rw [← k5]; omega), rfl, rfl, rfl⟩⟩⟩ (Nat.le_refl _) (Nat.le_refl _)

set_option maxHeartbeats 4000000 in
set_option maxRecDepth 100000 in
theorem c3_readNumber (l : Launch) (D : va_G) (kA : Nat → ClassId) (b0 : Nat) (t0 : Nat → Nat) (S : xT) (g : xG) (a0 : Nat) (na : Int) (no : Int) (nf : Int) (nq : Int) (wt : Nat) (wp : Nat) (tk : Int → Int) (tl : Int → Int) (cn : Int) (hs_a0 : S a0 = some (8, 0)) (hna : 0 ≤ na ∧ na ≤ 300) (ena : g a0 2 = .int (iI na)) (hno : 0 ≤ no ∧ no ≤ 50) (eno : g a0 3 = .int (iI no)) (hnf : 0 ≤ nf ∧ nf ≤ 0) (enf : g a0 5 = .int (iI nf)) (hnq : 0 ≤ nq ∧ nq ≤ 300) (enq : g a0 6 = .int (iI nq)) (ewt : g a0 0 = .ref wt) (hs_wt : S wt = some (12900, 301)) (ewp : g a0 1 = .ref wp) (hs_wp : S wp = some (13000, 301)) (hp0 : xTB (xv g wt) (xv g wp) tk tl cn) (hp1 : na ≤ cn) (hp2 : cn ≤ 300) : xMt l yX7_readNumber cX7_readNumber 2 (some .int) 1 0 0 21 D kA b0 t0 [(8, 2), (8, 5), (8, 6)] [.ref a0] S g (fun (r : Option Value) (S1 : xT) (g1 : xG) => S = S1 ∧ ∃ z : Int, r = some (.int (iI z)) ∧ (-100) ≤ z ∧ z ≤ 9999 ∧ (∃ F a o q : Int, g1 a0 5 = .int (iI F) ∧ -2147483648 ≤ F ∧ F ≤ 2147483647 ∧ g1 a0 2 = .int (iI a) ∧ 0 ≤ a ∧ a ≤ cn ∧ g1 a0 3 = .int (iI o) ∧ 0 ≤ o ∧ o ≤ 50 ∧ g1 a0 6 = .int (iI q) ∧ 0 ≤ q ∧ q ≤ 300 ∧ z = tk na - 100 ∧ o = no ∧ ((z < 0 ∧ a = na ∧ F = 1 ∧ q = tl na) ∨ (1000 < z ∧ a = na ∧ F = 2 ∧ q = tl na) ∨ (0 ≤ z ∧ z ≤ 1000 ∧ a = na + 1 ∧ F = 0 ∧ q = nq)))) := by
  refine xEnterI (by decide) (by simp [lg_sl, Value.category]) [(0, .ref a0)] rfl ?_
  intro K E hK hret _ _ _
  refine X_aloadn hK (i := 0) 0 dX7_readNumber_0 rfl rfl ?_
  refine X_callV hK [] [] lk_X7_47 (c3_now _ _ _ _ _ S g a0 na wt wp tk tl cn hs_a0 (by omega) ena ewt hs_wt ewp hs_wp hp0 (by omega) (by omega)) hs_a0 ⟨by decide, rfl⟩ dX7_readNumber_1 rfl rfl (by simp [Value.category]) (by decide) (by decide) (by decide) (by decide) (fun r1 S3 g2 pr1 qr1 hg2 => ?_)
  obtain ⟨rfl, rfl, z4, rfl, lz4, uz4, k5⟩ := pr1
  refine X_st [.int (iI z4)] rfl ?_
  refine X_bipush hK dX7_readNumber_4 (by decide) ?_
  refine X_isub hK dX7_readNumber_6 ?_
  refine X_istoren hK (i := 1) [(1, .int (iI (z4 - 100))), (0, .ref a0)] dX7_readNumber_7 rfl (by decide) rfl ?_
  refine X_iloadn hK (i := 1) 0 dX7_readNumber_8 rfl rfl ?_
  refine X_if_ge hK 20 (by omega) dX7_readNumber_9 (by decide) (fun c6 => ?_) (fun c6 => ?_)
  · refine X_iloadn hK (i := 1) 0 dX7_readNumber_20 rfl rfl ?_
    refine X_sipush hK dX7_readNumber_21 (by decide) ?_
    refine X_icmp_le hK 35 (by omega) (by omega) dX7_readNumber_24 (by decide) (fun c7 => ?_) (fun c7 => ?_)
    · refine X_aloadn hK (i := 0) 1 dX7_readNumber_35 rfl rfl ?_
      refine X_dup hK dX7_readNumber_36 rfl ?_
      have hl8 := xTB.lt (a := na) (show xTB (xv g wt) (xv g wp) tk tl cn from hp0) (by omega) (by rw [← k5]; omega)
      refine X_getK hK fl_X7_18_8 hs_a0 ena dX7_readNumber_37 ?_
      refine X_iconst hK dX7_readNumber_40 ?_
      refine X_iadd hK dX7_readNumber_41 ?_
      refine X_puti hK fl_X7_18_8 hs_a0 (by decide) sl_8_2 (by omega) (by omega) dX7_readNumber_42 (fun g9 hg9 => ?_)
      refine X_iloadn hK (i := 1) 0 dX7_readNumber_45 rfl rfl ?_
      exact hret _ _ _ _ _ _ _ dX7_readNumber_46 ⟨rfl, (z4 - 100), rfl, (by omega), (by omega), ⟨nf, (na + 1), no, nq, ((xs_k hg9 (by decide)).trans enf), by omega, by omega, (xs_s hg9), by omega, by omega, ((xs_k hg9 (by decide)).trans eno), by omega, by omega, ((xs_k hg9 (by decide)).trans enq), by omega, by omega, ⟨by rw [← k5], rfl, Or.inr (Or.inr ⟨by omega, by omega, rfl, by omega, rfl⟩)⟩⟩⟩ (Nat.le_refl _) (Nat.le_refl _)
    · refine X_aloadn hK (i := 0) 1 dX7_readNumber_27 rfl rfl ?_
      refine X_iconst hK dX7_readNumber_28 ?_
      refine X_callV hK [.int (iI 2)] [] lk_X7_60 (c3_tell _ _ _ _ _ S g a0 2 na no nf nq wt wp tk tl cn hs_a0 (by omega) (by omega) ena (by omega) eno (by omega) enf (by omega) enq ewt hs_wt ewp hs_wp hp0 (by omega) (by omega)) hs_a0 ⟨by decide, rfl⟩ dX7_readNumber_29 rfl rfl (by simp [Value.category]) (by decide) (by decide) (by decide) (by decide) (fun r10 S12 g11 pr10 qr10 hg11 => ?_)
      obtain ⟨rfl, rfl, k13⟩ := pr10
      refine X_st [] rfl ?_
      obtain ⟨Ft14, at14, ot14, qt14, eFt14, lFt14, uFt14, eat14, lat14, uat14, eot14, lot14, uot14, eqt14, lqt14, uqt14, kt14⟩ := k13
      have cat14 : at14 ≤ 300 := by have h9 := (show xTB (xv g11 wt) (xv g11 wp) tk tl cn from (by rw [(xv_m hg11 hs_wt (by decide) (by decide)), (xv_m hg11 hs_wp (by decide) (by decide))]; exact hp0)).2.2.2; omega
      refine X_goto hK 45 dX7_readNumber_32 (by decide) ?_
      refine X_iloadn hK (i := 1) 0 dX7_readNumber_45 rfl rfl ?_
      exact hret _ _ _ _ _ _ _ dX7_readNumber_46 ⟨rfl, (z4 - 100), rfl, (by omega), (by omega), ⟨Ft14, at14, ot14, qt14, eFt14, by omega, by omega, eat14, by omega, by omega, eot14, by omega, by omega, eqt14, by omega, by omega, ⟨by rw [← k5], by omega, (by obtain ⟨h8, h7, h6⟩ := kt14; have h5 := h8.resolve_left (fun q9 => by omega); first | exact Or.inl ⟨by omega, by omega, by omega, h5.2.2⟩ | exact Or.inr (Or.inl ⟨by omega, by omega, by omega, h5.2.2⟩))⟩⟩⟩ (Nat.le_refl _) (Nat.le_refl _)
  · refine X_aloadn hK (i := 0) 1 dX7_readNumber_12 rfl rfl ?_
    refine X_iconst hK dX7_readNumber_13 ?_
    refine X_callV hK [.int (iI 1)] [] lk_X7_60 (c3_tell _ _ _ _ _ S g a0 1 na no nf nq wt wp tk tl cn hs_a0 (by omega) (by omega) ena (by omega) eno (by omega) enf (by omega) enq ewt hs_wt ewp hs_wp hp0 (by omega) (by omega)) hs_a0 ⟨by decide, rfl⟩ dX7_readNumber_14 rfl rfl (by simp [Value.category]) (by decide) (by decide) (by decide) (by decide) (fun r15 S17 g16 pr15 qr15 hg16 => ?_)
    obtain ⟨rfl, rfl, k18⟩ := pr15
    refine X_st [] rfl ?_
    obtain ⟨Ft19, at19, ot19, qt19, eFt19, lFt19, uFt19, eat19, lat19, uat19, eot19, lot19, uot19, eqt19, lqt19, uqt19, kt19⟩ := k18
    have cat19 : at19 ≤ 300 := by have h9 := (show xTB (xv g16 wt) (xv g16 wp) tk tl cn from (by rw [(xv_m hg16 hs_wt (by decide) (by decide)), (xv_m hg16 hs_wp (by decide) (by decide))]; exact hp0)).2.2.2; omega
    refine X_goto hK 45 dX7_readNumber_17 (by decide) ?_
    refine X_iloadn hK (i := 1) 0 dX7_readNumber_45 rfl rfl ?_
    exact hret _ _ _ _ _ _ _ dX7_readNumber_46 ⟨rfl, (z4 - 100), rfl, (by omega), (by omega), ⟨Ft19, at19, ot19, qt19, eFt19, by omega, by omega, eat19, by omega, by omega, eot19, by omega, by omega, eqt19, by omega, by omega, ⟨by rw [← k5], by omega, (by obtain ⟨h8, h7, h6⟩ := kt19; have h5 := h8.resolve_left (fun q9 => by omega); first | exact Or.inl ⟨by omega, by omega, by omega, h5.2.2⟩ | exact Or.inr (Or.inl ⟨by omega, by omega, by omega, h5.2.2⟩))⟩⟩⟩ (Nat.le_refl _) (Nat.le_refl _)

set_option maxHeartbeats 4000000 in
set_option maxRecDepth 100000 in
theorem c3_addLine (l : Launch) (D : va_G) (kA : Nat → ClassId) (b0 : Nat) (t0 : Nat → Nat) (S : xT) (g : xG) (a0 : Nat) (x1 : Int) (x2 : Int) (x3 : Int) (nl : Int) (hs_a0 : S a0 = some (11, 0)) (hx1 : 0 ≤ x1 ∧ x1 ≤ 5) (hx2 : (-2147483648) ≤ x2 ∧ x2 ≤ 2147483647) (hx3 : 0 ≤ x3 ∧ x3 ≤ 100) (hnl : 0 ≤ nl ∧ nl ≤ 16) (enl : g a0 1 = .int (iI nl)) : xMt l yX10_addLine cX10_addLine 4 none 0 0 0 0 D kA b0 t0 [(13600, 0), (13700, 0), (13800, 0), (13900, 0), (11, 1)] [.ref a0, .int (iI x1), .int (iI x2), .int (iI x3)] S g (fun (r : Option Value) (S1 : xT) (g1 : xG) => S = S1 ∧ r = none ∧ (g1 a0 1 = .int (iI (if nl < 16 then nl + 1 else nl)))) := by
  refine xEnterV (by decide) (by simp [lg_sl, Value.category]) [(0, .ref a0), (1, .int (iI x1)), (2, .int (iI x2)), (3, .int (iI x3))] rfl ?_
  intro K E hK hret _ _ _
  refine X_aloadn hK (i := 0) 0 dX10_addLine_0 rfl rfl ?_
  refine X_getK hK fl_X10_15_11 hs_a0 enl dX10_addLine_1 ?_
  refine X_bipush hK dX10_addLine_4 (by decide) ?_
  refine X_icmp_ge hK 62 (by omega) (by omega) dX10_addLine_6 (by decide) (fun c1 => ?_) (fun c1 => ?_)
  · exact hret _ _ _ _ _ _ dX10_addLine_62 ⟨rfl, rfl, (enl.trans (by congr 2 <;> omega))⟩ (Nat.le_refl _) (Nat.le_refl _)
  · refine X_aloadn hK (i := 0) 0 dX10_addLine_9 rfl rfl ?_
    refine X_getr hK 13600 16 fl_X10_21_11 hs_a0 sl_11_3 dX10_addLine_10 (fun b2 eb2 hs_b2 => ?_)
    refine X_aloadn hK (i := 0) 0 dX10_addLine_13 rfl rfl ?_
    refine X_getK hK fl_X10_15_11 hs_a0 enl dX10_addLine_14 ?_
    refine X_iloadn hK (i := 1) 1 dX10_addLine_17 rfl rfl ?_
    refine X_iast hK hs_b2 (by decide) (by decide) sl_13600 (by omega) (by omega) (by omega) (by omega) dX10_addLine_18 (fun g3 hg3 => ?_)
    refine X_aloadn hK (i := 0) 0 dX10_addLine_19 rfl rfl ?_
    refine X_getr hK 13700 16 fl_X10_25_11 hs_a0 sl_11_4 dX10_addLine_20 (fun b4 eb4 hs_b4 => ?_)
    refine X_aloadn hK (i := 0) 0 dX10_addLine_23 rfl rfl ?_
    refine X_getK hK fl_X10_15_11 hs_a0 ((xs_a hg3 (xne hs_a0 hs_b2 (by decide))).trans enl) dX10_addLine_24 ?_
    refine X_iloadn hK (i := 2) 2 dX10_addLine_27 rfl rfl ?_
    refine X_iast hK hs_b4 (by decide) (by decide) sl_13700 (by omega) (by omega) (by omega) (by omega) dX10_addLine_28 (fun g5 hg5 => ?_)
    refine X_aloadn hK (i := 0) 0 dX10_addLine_29 rfl rfl ?_
    refine X_getr hK 13800 16 fl_X10_28_11 hs_a0 sl_11_5 dX10_addLine_30 (fun b6 eb6 hs_b6 => ?_)
    refine X_aloadn hK (i := 0) 0 dX10_addLine_33 rfl rfl ?_
    refine X_getK hK fl_X10_15_11 hs_a0 ((xs_a hg5 (xne hs_a0 hs_b4 (by decide))).trans ((xs_a hg3 (xne hs_a0 hs_b2 (by decide))).trans enl)) dX10_addLine_34 ?_
    refine X_iloadn hK (i := 3) 3 dX10_addLine_37 rfl rfl ?_
    refine X_iast hK hs_b6 (by decide) (by decide) sl_13800 (by omega) (by omega) (by omega) (by omega) dX10_addLine_38 (fun g7 hg7 => ?_)
    refine X_aloadn hK (i := 0) 0 dX10_addLine_39 rfl rfl ?_
    refine X_getr hK 13900 16 fl_X10_31_11 hs_a0 sl_11_6 dX10_addLine_40 (fun b8 eb8 hs_b8 => ?_)
    refine X_aloadn hK (i := 0) 0 dX10_addLine_43 rfl rfl ?_
    refine X_getK hK fl_X10_15_11 hs_a0 ((xs_a hg7 (xne hs_a0 hs_b6 (by decide))).trans ((xs_a hg5 (xne hs_a0 hs_b4 (by decide))).trans ((xs_a hg3 (xne hs_a0 hs_b2 (by decide))).trans enl))) dX10_addLine_44 ?_
    refine X_aloadn hK (i := 0) 0 dX10_addLine_47 rfl rfl ?_
    refine X_geti hK fl_X10_18_11 hs_a0 sl_11_2 dX10_addLine_48 (fun z9 ez9 lz9 uz9 => ?_)
    refine X_iast hK hs_b8 (by decide) (by decide) sl_13900 (by omega) (by omega) (by omega) (by omega) dX10_addLine_51 (fun g10 hg10 => ?_)
    refine X_aloadn hK (i := 0) 0 dX10_addLine_52 rfl rfl ?_
    refine X_dup hK dX10_addLine_53 rfl ?_
    refine X_getK hK fl_X10_15_11 hs_a0 ((xs_a hg10 (xne hs_a0 hs_b8 (by decide))).trans ((xs_a hg7 (xne hs_a0 hs_b6 (by decide))).trans ((xs_a hg5 (xne hs_a0 hs_b4 (by decide))).trans ((xs_a hg3 (xne hs_a0 hs_b2 (by decide))).trans enl)))) dX10_addLine_54 ?_
    refine X_iconst hK dX10_addLine_57 ?_
    refine X_iadd hK dX10_addLine_58 ?_
    refine X_puti hK fl_X10_15_11 hs_a0 (by decide) sl_11_1 (by omega) (by omega) dX10_addLine_59 (fun g11 hg11 => ?_)
    exact hret _ _ _ _ _ _ dX10_addLine_62 ⟨rfl, rfl, ((xs_s hg11).trans (by congr 2 <;> omega))⟩ (Nat.le_refl _) (Nat.le_refl _)

set_option maxHeartbeats 4000000 in
set_option maxRecDepth 100000 in
theorem c3_readLine (l : Launch) (D : va_G) (kA : Nat → ClassId) (b0 : Nat) (t0 : Nat → Nat) (S : xT) (g : xG) (a0 : Nat) (a1 : Nat) (na : Int) (no : Int) (nf : Int) (nq : Int) (wt : Nat) (wp : Nat) (nl : Int) (ow : Int) (tk : Int → Int) (tl : Int → Int) (cn : Int) (hs_a0 : S a0 = some (8, 0)) (hs_a1 : S a1 = some (11, 0)) (hna : 0 ≤ na ∧ na ≤ 300) (ena : g a0 2 = .int (iI na)) (hno : 0 ≤ no ∧ no ≤ 50) (eno : g a0 3 = .int (iI no)) (hnf : 0 ≤ nf ∧ nf ≤ 0) (enf : g a0 5 = .int (iI nf)) (hnq : 0 ≤ nq ∧ nq ≤ 300) (enq : g a0 6 = .int (iI nq)) (ewt : g a0 0 = .ref wt) (hs_wt : S wt = some (12900, 301)) (ewp : g a0 1 = .ref wp) (hs_wp : S wp = some (13000, 301)) (hnl : 0 ≤ nl ∧ nl ≤ 16) (enl : g a1 1 = .int (iI nl)) (how : 0 ≤ ow ∧ ow ≤ 1) (eow : g a0 4 = .int (iI ow)) (hp0 : xTB (xv g wt) (xv g wp) tk tl cn) (hp1 : na ≤ cn) (hp2 : cn ≤ 300) : xMt l yX7_readLine cX7_readLine 5 none 34 0 0 791 D kA b0 t0 [(8, 5), (8, 6), (8, 2), (8, 4), (13600, 0), (13700, 0), (13800, 0), (13900, 0), (11, 1), (8, 3), (14000, 0), (11, 2)] [.ref a0, .ref a1] S g (fun (r : Option Value) (S1 : xT) (g1 : xG) => S = S1 ∧ r = none ∧ (∃ F a o q : Int, g1 a0 5 = .int (iI F) ∧ -2147483648 ≤ F ∧ F ≤ 2147483647 ∧ g1 a0 2 = .int (iI a) ∧ 0 ≤ a ∧ a ≤ cn ∧ g1 a0 3 = .int (iI o) ∧ 0 ≤ o ∧ o ≤ 50 ∧ g1 a0 6 = .int (iI q) ∧ 0 ≤ q ∧ q ≤ 300 ∧ ∃ m w : Int, g1 a1 1 = .int (iI m) ∧ 0 ≤ m ∧ m ≤ 16 ∧ g1 a0 4 = .int (iI w) ∧ 0 ≤ w ∧ w ≤ 1 ∧ xLn tk tl na no nl ow F a o m w q)) := by
  refine xEnterV (by decide) (by simp [lg_sl, Value.category]) [(0, .ref a0), (1, .ref a1)] rfl ?_
  intro K E hK hret _ _ _
  refine X_aloadn hK (i := 0) 0 dX7_readLine_0 rfl rfl ?_
  refine X_callV hK [] [] lk_X7_47 (c3_now _ _ _ _ _ S g a0 na wt wp tk tl cn hs_a0 (by omega) ena ewt hs_wt ewp hs_wp hp0 (by omega) (by omega)) hs_a0 ⟨by decide, rfl⟩ dX7_readLine_1 rfl rfl (by simp [Value.category]) (by decide) (by decide) (by decide) (by decide) (fun r1 S3 g2 pr1 qr1 hg2 => ?_)
  obtain ⟨rfl, rfl, z4, rfl, lz4, uz4, k5⟩ := pr1
  refine X_st [.int (iI z4)] rfl ?_
  refine X_istoren hK (i := 2) [(2, .int (iI z4)), (0, .ref a0), (1, .ref a1)] dX7_readLine_4 rfl (by decide) rfl ?_
  refine X_iloadn hK (i := 2) 0 dX7_readLine_5 rfl rfl ?_
  refine X_bipush hK dX7_readLine_6 (by decide) ?_
  refine X_icmp_lt hK 19 (by omega) (by omega) dX7_readLine_8 (by decide) (fun c6 => ?_) (fun c6 => ?_)
  · refine X_aloadn hK (i := 1) 2 dX7_readLine_19 rfl rfl ?_
    refine X_getK hK fl_X7_39_11 hs_a1 enl dX7_readLine_20 ?_
    refine X_bipush hK dX7_readLine_23 (by decide) ?_
    refine X_icmp_ge hK 40 (by omega) (by omega) dX7_readLine_25 (by decide) (fun c7 => ?_) (fun c7 => ?_)
    · refine X_aloadn hK (i := 0) 1 dX7_readLine_40 rfl rfl ?_
      refine X_iconst hK dX7_readLine_41 ?_
      refine X_callV hK [.int (iI 3)] [] lk_X7_60 (c3_tell _ _ _ _ _ S g a0 3 na no nf nq wt wp tk tl cn hs_a0 (by omega) (by omega) ena (by omega) eno (by omega) enf (by omega) enq ewt hs_wt ewp hs_wp hp0 (by omega) (by omega)) hs_a0 ⟨by decide, rfl⟩ dX7_readLine_42 rfl rfl (by simp [Value.category]) (by decide) (by decide) (by decide) (by decide) (fun r8 S10 g9 pr8 qr8 hg9 => ?_)
      obtain ⟨rfl, rfl, k11⟩ := pr8
      refine X_st [] rfl ?_
      obtain ⟨Ft12, at12, ot12, qt12, eFt12, lFt12, uFt12, eat12, lat12, uat12, eot12, lot12, uot12, eqt12, lqt12, uqt12, kt12⟩ := k11
      have cat12 : at12 ≤ 300 := by have h9 := (show xTB (xv g9 wt) (xv g9 wp) tk tl cn from (by rw [(xv_m hg9 hs_wt (by decide) (by decide)), (xv_m hg9 hs_wp (by decide) (by decide))]; exact hp0)).2.2.2; omega
      refine X_goto hK 160 dX7_readLine_45 (by decide) ?_
      exact hret _ _ _ _ _ _ dX7_readLine_160 ⟨rfl, rfl, ⟨Ft12, at12, ot12, qt12, eFt12, by omega, by omega, eat12, by omega, by omega, eot12, by omega, by omega, eqt12, by omega, by omega, ⟨nl, ow, ((hg9 a1 11 0 1 hs_a1 (by decide)).trans enl), by omega, by omega, ((hg9 a0 8 0 4 hs_a0 (by decide)).trans eow), by omega, by omega, (by obtain ⟨h8, h7, h6⟩ := kt12; have h5 := h8.resolve_left (fun q9 => by omega); exact Or.inr (Or.inl ⟨by rw [← k5]; omega, by rw [← k5]; omega, h5.2.1, h5.2.2⟩))⟩⟩⟩ (Nat.le_refl _) (Nat.le_refl _)
    · refine X_iloadn hK (i := 2) 0 dX7_readLine_28 rfl rfl ?_
      refine X_iconst hK dX7_readLine_29 ?_
      refine X_icmp_ne hK 48 (by omega) (by omega) dX7_readLine_30 (by decide) (fun c13 => ?_) (fun c13 => ?_)
      · refine X_aloadn hK (i := 0) 1 dX7_readLine_48 rfl rfl ?_
        refine X_dup hK dX7_readLine_49 rfl ?_
        have hl14 := xTB.lt (a := na) (show xTB (xv g wt) (xv g wp) tk tl cn from hp0) (by omega) (by rw [← k5]; omega)
        refine X_getK hK fl_X7_18_8 hs_a0 ena dX7_readLine_50 ?_
        refine X_iconst hK dX7_readLine_53 ?_
        refine X_iadd hK dX7_readLine_54 ?_
        refine X_puti hK fl_X7_18_8 hs_a0 (by decide) sl_8_2 (by omega) (by omega) dX7_readLine_55 (fun g15 hg15 => ?_)
        refine X_iloadn hK (i := 2) 0 dX7_readLine_58 rfl rfl ?_
        refine X_iconst hK dX7_readLine_59 ?_
        refine X_icmp_ne hK 70 (by omega) (by omega) dX7_readLine_60 (by decide) (fun c16 => ?_) (fun c16 => ?_)
        · refine X_aloadn hK (i := 0) 1 dX7_readLine_70 rfl rfl ?_
          refine X_callV hK [] [] lk_X7_112 (c3_readNumber _ _ _ _ _ S g15 a0 (na + 1) no nf nq wt wp tk tl cn hs_a0 (by omega) (xs_s hg15) (by omega) ((xs_k hg15 (by decide)).trans eno) (by omega) ((xs_k hg15 (by decide)).trans enf) (by omega) ((xs_k hg15 (by decide)).trans enq) ((xs_k hg15 (by decide)).trans ewt) hs_wt ((xs_k hg15 (by decide)).trans ewp) hs_wp (by rw [(xv_a hg15 (xne hs_wt hs_a0 (by decide))), (xv_a hg15 (xne hs_wp hs_a0 (by decide)))]; exact hp0) (by omega) (by omega)) hs_a0 ⟨by decide, rfl⟩ dX7_readLine_71 rfl rfl (by simp [Value.category]) (by decide) (by decide) (by decide) (by decide) (fun r17 S19 g18 pr17 qr17 hg18 => ?_)
          obtain ⟨rfl, z20, rfl, lz20, uz20, k21⟩ := pr17
          refine X_st [.int (iI z20)] rfl ?_
          obtain ⟨Ft22, at22, ot22, qt22, eFt22, lFt22, uFt22, eat22, lat22, uat22, eot22, lot22, uot22, eqt22, lqt22, uqt22, kt22⟩ := k21
          have cat22 : at22 ≤ 300 := by have h9 := (show xTB (xv g18 wt) (xv g18 wp) tk tl cn from (by rw [(Eq.trans (xv_m hg18 hs_wt (by decide) (by decide)) (xv_a hg15 (xne hs_wt hs_a0 (by decide)))), (Eq.trans (xv_m hg18 hs_wp (by decide) (by decide)) (xv_a hg15 (xne hs_wp hs_a0 (by decide))))]; exact hp0)).2.2.2; omega
          refine X_istoren hK (i := 3) [(3, .int (iI z20)), (2, .int (iI z4)), (0, .ref a0), (1, .ref a1)] dX7_readLine_74 rfl (by decide) rfl ?_
          refine X_aloadn hK (i := 1) 3 dX7_readLine_75 rfl rfl ?_
          refine X_geti hK fl_X7_44_11 hs_a1 sl_11_2 dX7_readLine_76 (fun z23 ez23 lz23 uz23 => ?_)
          refine X_istore hK (i := 4) [(4, .int (iI z23)), (3, .int (iI z20)), (2, .int (iI z4)), (0, .ref a0), (1, .ref a1)] dX7_readLine_79 (by decide) rfl ?_
          refine X_aloadn hK (i := 0) 3 dX7_readLine_81 rfl rfl ?_
          refine X_getK hK fl_X7_29_8 hs_a0 eFt22 dX7_readLine_82 ?_
          refine X_if_ne hK 118 (by omega) dX7_readLine_85 (by decide) (fun c24 => ?_) (fun c24 => ?_)
          · refine X_aloadn hK (i := 0) 3 dX7_readLine_118 rfl rfl ?_
            refine X_getK hK fl_X7_29_8 hs_a0 eFt22 dX7_readLine_119 ?_
            refine X_if_ne hK 160 (by omega) dX7_readLine_122 (by decide) (fun c25 => ?_) (fun c25 => ?_)
            · exact hret _ _ _ _ _ _ dX7_readLine_160 ⟨rfl, rfl, ⟨Ft22, at22, ot22, qt22, eFt22, by omega, by omega, eat22, by omega, by omega, eot22, by omega, by omega, eqt22, by omega, by omega, ⟨nl, ow, ((hg18 a1 11 0 1 hs_a1 (by decide)).trans ((xs_k hg15 (by decide)).trans enl)), by omega, by omega, ((hg18 a0 8 0 4 hs_a0 (by decide)).trans ((xs_k hg15 (by decide)).trans eow)), by omega, by omega, (Or.inr (Or.inr ⟨by rw [← k5]; omega, by rw [← k5]; omega, (by obtain ⟨h8, h7, h6⟩ := kt22; rcases h6 with ⟨c1, c2, c3, c4⟩ | ⟨c1, c2, c3, c4⟩ | ⟨c1, c2, c3, c4, c5⟩; exact Or.inl ⟨by rw [← k5]; omega, by omega, c3, c4⟩; exact Or.inr (Or.inl ⟨by rw [← k5]; omega, by omega, c3, c4⟩); exact absurd c4 (by omega))⟩))⟩⟩⟩ (Nat.le_refl _) (Nat.le_refl _)
            · refine X_aloadn hK (i := 0) 3 dX7_readLine_125 rfl rfl ?_
              refine X_bipush hK dX7_readLine_126 (by decide) ?_
              refine X_callV hK [.int (iI 24)] [] lk_X7_119 (c3_expect _ _ _ _ _ S g18 a0 24 at22 ot22 Ft22 qt22 wt wp tk tl cn hs_a0 (by omega) (by omega) eat22 (by omega) eot22 (by omega) eFt22 (by omega) eqt22 ((hg18 a0 8 0 0 hs_a0 (by decide)).trans ((xs_k hg15 (by decide)).trans ewt)) hs_wt ((hg18 a0 8 0 1 hs_a0 (by decide)).trans ((xs_k hg15 (by decide)).trans ewp)) hs_wp (by rw [(Eq.trans (xv_m hg18 hs_wt (by decide) (by decide)) (xv_a hg15 (xne hs_wt hs_a0 (by decide)))), (Eq.trans (xv_m hg18 hs_wp (by decide) (by decide)) (xv_a hg15 (xne hs_wp hs_a0 (by decide))))]; exact hp0) (by omega) (by omega)) hs_a0 ⟨by decide, rfl⟩ dX7_readLine_128 rfl rfl (by simp [Value.category]) (by decide) (by decide) (by decide) (by decide) (fun r26 S28 g27 pr26 qr26 hg27 => ?_)
              obtain ⟨rfl, rfl, k29⟩ := pr26
              refine X_st [] rfl ?_
              obtain ⟨Ft30, at30, ot30, qt30, eFt30, lFt30, uFt30, eat30, lat30, uat30, eot30, lot30, uot30, eqt30, lqt30, uqt30, kt30⟩ := k29
              have cat30 : at30 ≤ 300 := by have h9 := (show xTB (xv g27 wt) (xv g27 wp) tk tl cn from (by rw [(Eq.trans (Eq.trans (xv_m hg27 hs_wt (by decide) (by decide)) (xv_m hg18 hs_wt (by decide) (by decide))) (xv_a hg15 (xne hs_wt hs_a0 (by decide)))), (Eq.trans (Eq.trans (xv_m hg27 hs_wp (by decide) (by decide)) (xv_m hg18 hs_wp (by decide) (by decide))) (xv_a hg15 (xne hs_wp hs_a0 (by decide))))]; exact hp0)).2.2.2; omega
              refine X_aloadn hK (i := 0) 3 dX7_readLine_131 rfl rfl ?_
              refine X_aloadn hK (i := 0) 3 dX7_readLine_132 rfl rfl ?_
              refine X_getK hK fl_X7_25_8 hs_a0 ((hg27 a0 8 0 4 hs_a0 (by decide)).trans ((hg18 a0 8 0 4 hs_a0 (by decide)).trans ((xs_k hg15 (by decide)).trans eow))) dX7_readLine_133 ?_
              refine X_if_ne hK 144 (by omega) dX7_readLine_136 (by decide) (fun c31 => ?_) (fun c31 => ?_)
              · refine X_iconst hK dX7_readLine_144 ?_
                refine X_goto hK 149 dX7_readLine_145 (by decide) ?_
                refine X_putz hK fl_X7_25_8 hs_a0 (by decide) sl_8_4 (by omega) (by omega) dX7_readLine_149 (fun g32 hg32 => ?_)
                refine X_aloadn hK (i := 1) 4 dX7_readLine_152 rfl rfl ?_
                refine X_iloadn hK (i := 2) 2 dX7_readLine_153 rfl rfl ?_
                refine X_iloadn hK (i := 3) 1 dX7_readLine_154 rfl rfl ?_
                refine X_iload hK (i := 4) 0 dX7_readLine_155 rfl ?_
                refine X_callV hK [.int (iI z4), .int (iI z20), .int (iI z23)] [] lk_X7_122 (c3_addLine _ _ _ _ _ S g32 a1 z4 z20 z23 nl hs_a1 (by omega) (by omega) (by omega) (by omega) ((xs_k hg32 (by decide)).trans ((hg27 a1 11 0 1 hs_a1 (by decide)).trans ((hg18 a1 11 0 1 hs_a1 (by decide)).trans ((xs_k hg15 (by decide)).trans enl))))) hs_a1 ⟨by decide, rfl⟩ dX7_readLine_157 rfl rfl (by simp [Value.category]) (by decide) (by decide) (by decide) (by decide) (fun r33 S35 g34 pr33 qr33 hg34 => ?_)
                obtain ⟨rfl, rfl, k36⟩ := pr33
                refine X_st [] rfl ?_
                exact hret _ _ _ _ _ _ dX7_readLine_160 ⟨rfl, rfl, ⟨Ft30, at30, ot30, qt30, ((hg34 a0 8 0 5 hs_a0 (by decide)).trans ((xs_k hg32 (by decide)).trans eFt30)), by omega, by omega, ((hg34 a0 8 0 2 hs_a0 (by decide)).trans ((xs_k hg32 (by decide)).trans eat30)), by omega, by omega, ((hg34 a0 8 0 3 hs_a0 (by decide)).trans ((xs_k hg32 (by decide)).trans eot30)), by omega, by omega, ((hg34 a0 8 0 6 hs_a0 (by decide)).trans ((xs_k hg32 (by decide)).trans eqt30)), by omega, by omega, ⟨(if nl < 16 then nl + 1 else nl), 1, k36, by omega, by omega, ((hg34 a0 8 0 4 hs_a0 (by decide)).trans (xs_s hg32)), by omega, by omega, (Or.inr (Or.inr ⟨by rw [← k5]; omega, by rw [← k5]; omega, (Or.inr (Or.inr ⟨at22, (by have h9 := kt22; have h8 := k5; unfold xLb; omega), 0, at22, no, 0, (Or.inr ⟨(fun q9 => by have h9 := q9.1; rw [← k5] at h9; omega), rfl, rfl, rfl⟩), (by obtain ⟨h8, h7⟩ := kt30; rcases h8 with ⟨c1, c2, c3, c4⟩ | ⟨c1, c2, c3⟩; (exact Or.inr (Or.inr ⟨by omega, c1, by omega, by omega, by omega, by rw [if_pos (by omega)], (by have h6 := k5; rw [← h6]; first | (rw [if_pos (by omega)] <;> omega) | (rw [if_neg (by omega)] <;> omega))⟩)); (have c4 := c3.resolve_left (fun q9 => by omega); exact Or.inr (Or.inl ⟨by omega, c1, c4.2.1, c4.2.2⟩)))⟩))⟩))⟩⟩⟩ (Nat.le_refl _) (Nat.le_refl _)
              · refine X_iloadn hK (i := 2) 2 dX7_readLine_139 rfl rfl ?_
                refine X_iconst hK dX7_readLine_140 ?_
                refine X_icmp_ne hK 148 (by omega) (by omega) dX7_readLine_141 (by decide) (fun c37 => ?_) (fun c37 => False.elim (by omega))
                refine X_iconst hK dX7_readLine_148 ?_
                refine X_putz hK fl_X7_25_8 hs_a0 (by decide) sl_8_4 (by omega) (by omega) dX7_readLine_149 (fun g38 hg38 => ?_)
                refine X_aloadn hK (i := 1) 4 dX7_readLine_152 rfl rfl ?_
                refine X_iloadn hK (i := 2) 2 dX7_readLine_153 rfl rfl ?_
                refine X_iloadn hK (i := 3) 1 dX7_readLine_154 rfl rfl ?_
                refine X_iload hK (i := 4) 0 dX7_readLine_155 rfl ?_
                refine X_callV hK [.int (iI z4), .int (iI z20), .int (iI z23)] [] lk_X7_122 (c3_addLine _ _ _ _ _ S g38 a1 z4 z20 z23 nl hs_a1 (by omega) (by omega) (by omega) (by omega) ((xs_k hg38 (by decide)).trans ((hg27 a1 11 0 1 hs_a1 (by decide)).trans ((hg18 a1 11 0 1 hs_a1 (by decide)).trans ((xs_k hg15 (by decide)).trans enl))))) hs_a1 ⟨by decide, rfl⟩ dX7_readLine_157 rfl rfl (by simp [Value.category]) (by decide) (by decide) (by decide) (by decide) (fun r39 S41 g40 pr39 qr39 hg40 => ?_)
                obtain ⟨rfl, rfl, k42⟩ := pr39
                refine X_st [] rfl ?_
                exact hret _ _ _ _ _ _ dX7_readLine_160 ⟨rfl, rfl, ⟨Ft30, at30, ot30, qt30, ((hg40 a0 8 0 5 hs_a0 (by decide)).trans ((xs_k hg38 (by decide)).trans eFt30)), by omega, by omega, ((hg40 a0 8 0 2 hs_a0 (by decide)).trans ((xs_k hg38 (by decide)).trans eat30)), by omega, by omega, ((hg40 a0 8 0 3 hs_a0 (by decide)).trans ((xs_k hg38 (by decide)).trans eot30)), by omega, by omega, ((hg40 a0 8 0 6 hs_a0 (by decide)).trans ((xs_k hg38 (by decide)).trans eqt30)), by omega, by omega, ⟨(if nl < 16 then nl + 1 else nl), 0, k42, by omega, by omega, ((hg40 a0 8 0 4 hs_a0 (by decide)).trans (xs_s hg38)), by omega, by omega, (Or.inr (Or.inr ⟨by rw [← k5]; omega, by rw [← k5]; omega, (Or.inr (Or.inr ⟨at22, (by have h9 := kt22; have h8 := k5; unfold xLb; omega), 0, at22, no, 0, (Or.inr ⟨(fun q9 => by have h9 := q9.1; rw [← k5] at h9; omega), rfl, rfl, rfl⟩), (by obtain ⟨h8, h7⟩ := kt30; rcases h8 with ⟨c1, c2, c3, c4⟩ | ⟨c1, c2, c3⟩; (exact Or.inr (Or.inr ⟨by omega, c1, by omega, by omega, by omega, by rw [if_pos (by omega)], (by have h6 := k5; rw [← h6]; first | (rw [if_pos (by omega)] <;> omega) | (rw [if_neg (by omega)] <;> omega))⟩)); (have c4 := c3.resolve_left (fun q9 => by omega); exact Or.inr (Or.inl ⟨by omega, c1, c4.2.1, c4.2.2⟩)))⟩))⟩))⟩⟩⟩ (Nat.le_refl _) (Nat.le_refl _)
          · refine X_iloadn hK (i := 2) 2 dX7_readLine_88 rfl rfl ?_
            refine X_iconst hK dX7_readLine_89 ?_
            refine X_icmp_eq hK 118 (by omega) (by omega) dX7_readLine_90 (by decide) (fun c43 => False.elim (by omega)) (fun c43 => ?_)
            refine X_aloadn hK (i := 0) 3 dX7_readLine_93 rfl rfl ?_
            refine X_callV hK [] [] lk_X7_47 (c3_now _ _ _ _ _ S g18 a0 at22 wt wp tk tl cn hs_a0 (by omega) eat22 ((hg18 a0 8 0 0 hs_a0 (by decide)).trans ((xs_k hg15 (by decide)).trans ewt)) hs_wt ((hg18 a0 8 0 1 hs_a0 (by decide)).trans ((xs_k hg15 (by decide)).trans ewp)) hs_wp (by rw [(Eq.trans (xv_m hg18 hs_wt (by decide) (by decide)) (xv_a hg15 (xne hs_wt hs_a0 (by decide)))), (Eq.trans (xv_m hg18 hs_wp (by decide) (by decide)) (xv_a hg15 (xne hs_wp hs_a0 (by decide))))]; exact hp0) (by omega) (by omega)) hs_a0 ⟨by decide, rfl⟩ dX7_readLine_94 rfl rfl (by simp [Value.category]) (by decide) (by decide) (by decide) (by decide) (fun r44 S46 g45 pr44 qr44 hg45 => ?_)
            obtain ⟨rfl, rfl, z47, rfl, lz47, uz47, k48⟩ := pr44
            refine X_st [.int (iI z47)] rfl ?_
            refine X_bipush hK dX7_readLine_97 (by decide) ?_
            refine X_icmp_ne hK 118 (by omega) (by omega) dX7_readLine_99 (by decide) (fun c49 => ?_) (fun c49 => ?_)
            · refine X_aloadn hK (i := 0) 3 dX7_readLine_118 rfl rfl ?_
              refine X_getK hK fl_X7_29_8 hs_a0 eFt22 dX7_readLine_119 ?_
              refine X_if_ne hK 160 (by omega) dX7_readLine_122 (by decide) (fun c50 => False.elim (by omega)) (fun c50 => ?_)
              refine X_aloadn hK (i := 0) 3 dX7_readLine_125 rfl rfl ?_
              refine X_bipush hK dX7_readLine_126 (by decide) ?_
              refine X_callV hK [.int (iI 24)] [] lk_X7_119 (c3_expect _ _ _ _ _ S g18 a0 24 at22 ot22 Ft22 qt22 wt wp tk tl cn hs_a0 (by omega) (by omega) eat22 (by omega) eot22 (by omega) eFt22 (by omega) eqt22 ((hg18 a0 8 0 0 hs_a0 (by decide)).trans ((xs_k hg15 (by decide)).trans ewt)) hs_wt ((hg18 a0 8 0 1 hs_a0 (by decide)).trans ((xs_k hg15 (by decide)).trans ewp)) hs_wp (by rw [(Eq.trans (xv_m hg18 hs_wt (by decide) (by decide)) (xv_a hg15 (xne hs_wt hs_a0 (by decide)))), (Eq.trans (xv_m hg18 hs_wp (by decide) (by decide)) (xv_a hg15 (xne hs_wp hs_a0 (by decide))))]; exact hp0) (by omega) (by omega)) hs_a0 ⟨by decide, rfl⟩ dX7_readLine_128 rfl rfl (by simp [Value.category]) (by decide) (by decide) (by decide) (by decide) (fun r51 S53 g52 pr51 qr51 hg52 => ?_)
              obtain ⟨rfl, rfl, k54⟩ := pr51
              refine X_st [] rfl ?_
              obtain ⟨Ft55, at55, ot55, qt55, eFt55, lFt55, uFt55, eat55, lat55, uat55, eot55, lot55, uot55, eqt55, lqt55, uqt55, kt55⟩ := k54
              have cat55 : at55 ≤ 300 := by have h9 := (show xTB (xv g52 wt) (xv g52 wp) tk tl cn from (by rw [(Eq.trans (Eq.trans (xv_m hg52 hs_wt (by decide) (by decide)) (xv_m hg18 hs_wt (by decide) (by decide))) (xv_a hg15 (xne hs_wt hs_a0 (by decide)))), (Eq.trans (Eq.trans (xv_m hg52 hs_wp (by decide) (by decide)) (xv_m hg18 hs_wp (by decide) (by decide))) (xv_a hg15 (xne hs_wp hs_a0 (by decide))))]; exact hp0)).2.2.2; omega
              refine X_aloadn hK (i := 0) 3 dX7_readLine_131 rfl rfl ?_
              refine X_aloadn hK (i := 0) 3 dX7_readLine_132 rfl rfl ?_
              refine X_getK hK fl_X7_25_8 hs_a0 ((hg52 a0 8 0 4 hs_a0 (by decide)).trans ((hg18 a0 8 0 4 hs_a0 (by decide)).trans ((xs_k hg15 (by decide)).trans eow))) dX7_readLine_133 ?_
              refine X_if_ne hK 144 (by omega) dX7_readLine_136 (by decide) (fun c56 => ?_) (fun c56 => ?_)
              · refine X_iconst hK dX7_readLine_144 ?_
                refine X_goto hK 149 dX7_readLine_145 (by decide) ?_
                refine X_putz hK fl_X7_25_8 hs_a0 (by decide) sl_8_4 (by omega) (by omega) dX7_readLine_149 (fun g57 hg57 => ?_)
                refine X_aloadn hK (i := 1) 4 dX7_readLine_152 rfl rfl ?_
                refine X_iloadn hK (i := 2) 2 dX7_readLine_153 rfl rfl ?_
                refine X_iloadn hK (i := 3) 1 dX7_readLine_154 rfl rfl ?_
                refine X_iload hK (i := 4) 0 dX7_readLine_155 rfl ?_
                refine X_callV hK [.int (iI z4), .int (iI z20), .int (iI z23)] [] lk_X7_122 (c3_addLine _ _ _ _ _ S g57 a1 z4 z20 z23 nl hs_a1 (by omega) (by omega) (by omega) (by omega) ((xs_k hg57 (by decide)).trans ((hg52 a1 11 0 1 hs_a1 (by decide)).trans ((hg18 a1 11 0 1 hs_a1 (by decide)).trans ((xs_k hg15 (by decide)).trans enl))))) hs_a1 ⟨by decide, rfl⟩ dX7_readLine_157 rfl rfl (by simp [Value.category]) (by decide) (by decide) (by decide) (by decide) (fun r58 S60 g59 pr58 qr58 hg59 => ?_)
                obtain ⟨rfl, rfl, k61⟩ := pr58
                refine X_st [] rfl ?_
                exact hret _ _ _ _ _ _ dX7_readLine_160 ⟨rfl, rfl, ⟨Ft55, at55, ot55, qt55, ((hg59 a0 8 0 5 hs_a0 (by decide)).trans ((xs_k hg57 (by decide)).trans eFt55)), by omega, by omega, ((hg59 a0 8 0 2 hs_a0 (by decide)).trans ((xs_k hg57 (by decide)).trans eat55)), by omega, by omega, ((hg59 a0 8 0 3 hs_a0 (by decide)).trans ((xs_k hg57 (by decide)).trans eot55)), by omega, by omega, ((hg59 a0 8 0 6 hs_a0 (by decide)).trans ((xs_k hg57 (by decide)).trans eqt55)), by omega, by omega, ⟨(if nl < 16 then nl + 1 else nl), 1, k61, by omega, by omega, ((hg59 a0 8 0 4 hs_a0 (by decide)).trans (xs_s hg57)), by omega, by omega, (Or.inr (Or.inr ⟨by rw [← k5]; omega, by rw [← k5]; omega, (Or.inr (Or.inr ⟨at22, (by have h9 := kt22; have h8 := k5; unfold xLb; omega), 0, at22, no, 0, (Or.inr ⟨(fun q9 => by have h9 := q9.2; rw [← k48] at h9; omega), rfl, rfl, rfl⟩), (by obtain ⟨h8, h7⟩ := kt55; rcases h8 with ⟨c1, c2, c3, c4⟩ | ⟨c1, c2, c3⟩; (exact Or.inr (Or.inr ⟨by omega, c1, by omega, by omega, by omega, by rw [if_pos (by omega)], (by have h6 := k5; rw [← h6]; first | (rw [if_pos (by omega)] <;> omega) | (rw [if_neg (by omega)] <;> omega))⟩)); (have c4 := c3.resolve_left (fun q9 => by omega); exact Or.inr (Or.inl ⟨by omega, c1, c4.2.1, c4.2.2⟩)))⟩))⟩))⟩⟩⟩ (Nat.le_refl _) (Nat.le_refl _)
              · refine X_iloadn hK (i := 2) 2 dX7_readLine_139 rfl rfl ?_
                refine X_iconst hK dX7_readLine_140 ?_
                refine X_icmp_ne hK 148 (by omega) (by omega) dX7_readLine_141 (by decide) (fun c62 => ?_) (fun c62 => False.elim (by omega))
                refine X_iconst hK dX7_readLine_148 ?_
                refine X_putz hK fl_X7_25_8 hs_a0 (by decide) sl_8_4 (by omega) (by omega) dX7_readLine_149 (fun g63 hg63 => ?_)
                refine X_aloadn hK (i := 1) 4 dX7_readLine_152 rfl rfl ?_
                refine X_iloadn hK (i := 2) 2 dX7_readLine_153 rfl rfl ?_
                refine X_iloadn hK (i := 3) 1 dX7_readLine_154 rfl rfl ?_
                refine X_iload hK (i := 4) 0 dX7_readLine_155 rfl ?_
                refine X_callV hK [.int (iI z4), .int (iI z20), .int (iI z23)] [] lk_X7_122 (c3_addLine _ _ _ _ _ S g63 a1 z4 z20 z23 nl hs_a1 (by omega) (by omega) (by omega) (by omega) ((xs_k hg63 (by decide)).trans ((hg52 a1 11 0 1 hs_a1 (by decide)).trans ((hg18 a1 11 0 1 hs_a1 (by decide)).trans ((xs_k hg15 (by decide)).trans enl))))) hs_a1 ⟨by decide, rfl⟩ dX7_readLine_157 rfl rfl (by simp [Value.category]) (by decide) (by decide) (by decide) (by decide) (fun r64 S66 g65 pr64 qr64 hg65 => ?_)
                obtain ⟨rfl, rfl, k67⟩ := pr64
                refine X_st [] rfl ?_
                exact hret _ _ _ _ _ _ dX7_readLine_160 ⟨rfl, rfl, ⟨Ft55, at55, ot55, qt55, ((hg65 a0 8 0 5 hs_a0 (by decide)).trans ((xs_k hg63 (by decide)).trans eFt55)), by omega, by omega, ((hg65 a0 8 0 2 hs_a0 (by decide)).trans ((xs_k hg63 (by decide)).trans eat55)), by omega, by omega, ((hg65 a0 8 0 3 hs_a0 (by decide)).trans ((xs_k hg63 (by decide)).trans eot55)), by omega, by omega, ((hg65 a0 8 0 6 hs_a0 (by decide)).trans ((xs_k hg63 (by decide)).trans eqt55)), by omega, by omega, ⟨(if nl < 16 then nl + 1 else nl), 0, k67, by omega, by omega, ((hg65 a0 8 0 4 hs_a0 (by decide)).trans (xs_s hg63)), by omega, by omega, (Or.inr (Or.inr ⟨by rw [← k5]; omega, by rw [← k5]; omega, (Or.inr (Or.inr ⟨at22, (by have h9 := kt22; have h8 := k5; unfold xLb; omega), 0, at22, no, 0, (Or.inr ⟨(fun q9 => by have h9 := q9.2; rw [← k48] at h9; omega), rfl, rfl, rfl⟩), (by obtain ⟨h8, h7⟩ := kt55; rcases h8 with ⟨c1, c2, c3, c4⟩ | ⟨c1, c2, c3⟩; (exact Or.inr (Or.inr ⟨by omega, c1, by omega, by omega, by omega, by rw [if_pos (by omega)], (by have h6 := k5; rw [← h6]; first | (rw [if_pos (by omega)] <;> omega) | (rw [if_neg (by omega)] <;> omega))⟩)); (have c4 := c3.resolve_left (fun q9 => by omega); exact Or.inr (Or.inl ⟨by omega, c1, c4.2.1, c4.2.2⟩)))⟩))⟩))⟩⟩⟩ (Nat.le_refl _) (Nat.le_refl _)
            · refine X_aloadn hK (i := 0) 3 dX7_readLine_102 rfl rfl ?_
              refine X_dup hK dX7_readLine_103 rfl ?_
              have hl68 := xTB.lt (a := at22) (show xTB (xv g18 wt) (xv g18 wp) tk tl cn from (by rw [(Eq.trans (xv_m hg18 hs_wt (by decide) (by decide)) (xv_a hg15 (xne hs_wt hs_a0 (by decide)))), (Eq.trans (xv_m hg18 hs_wp (by decide) (by decide)) (xv_a hg15 (xne hs_wp hs_a0 (by decide))))]; exact hp0)) (by omega) (by rw [← k48]; omega)
              refine X_getK hK fl_X7_18_8 hs_a0 eat22 dX7_readLine_104 ?_
              refine X_iconst hK dX7_readLine_107 ?_
              refine X_iadd hK dX7_readLine_108 ?_
              refine X_puti hK fl_X7_18_8 hs_a0 (by decide) sl_8_2 (by omega) (by omega) dX7_readLine_109 (fun g69 hg69 => ?_)
              refine X_aloadn hK (i := 0) 3 dX7_readLine_112 rfl rfl ?_
              refine X_aloadn hK (i := 1) 4 dX7_readLine_113 rfl rfl ?_
              refine X_iconst hK dX7_readLine_114 ?_
              refine X_callV hK [.ref a1, .int (iI 1)] [] lk_X7_115 (c3_readCond_1 _ _ _ _ _ S g69 a0 a1 1 (at22 + 1) ot22 Ft22 qt22 wt wp tk tl cn hs_a0 hs_a1 (by omega) (by omega) (xs_s hg69) (by omega) ((xs_k hg69 (by decide)).trans eot22) (by omega) ((xs_k hg69 (by decide)).trans eFt22) (by omega) ((xs_k hg69 (by decide)).trans eqt22) ((xs_k hg69 (by decide)).trans ((hg18 a0 8 0 0 hs_a0 (by decide)).trans ((xs_k hg15 (by decide)).trans ewt))) hs_wt ((xs_k hg69 (by decide)).trans ((hg18 a0 8 0 1 hs_a0 (by decide)).trans ((xs_k hg15 (by decide)).trans ewp))) hs_wp (by rw [(Eq.trans (Eq.trans (xv_a hg69 (xne hs_wt hs_a0 (by decide))) (xv_m hg18 hs_wt (by decide) (by decide))) (xv_a hg15 (xne hs_wt hs_a0 (by decide)))), (Eq.trans (Eq.trans (xv_a hg69 (xne hs_wp hs_a0 (by decide))) (xv_m hg18 hs_wp (by decide) (by decide))) (xv_a hg15 (xne hs_wp hs_a0 (by decide))))]; exact hp0) (by omega) (by omega)) hs_a0 ⟨by decide, rfl⟩ dX7_readLine_115 rfl rfl (by simp [Value.category]) (by decide) (by decide) (by decide) (by decide) (fun r70 S72 g71 pr70 qr70 hg71 => ?_)
              obtain ⟨rfl, rfl, k73⟩ := pr70
              refine X_st [] rfl ?_
              obtain ⟨Ft74, at74, ot74, qt74, eFt74, lFt74, uFt74, eat74, lat74, uat74, eot74, lot74, uot74, eqt74, lqt74, uqt74, kt74⟩ := k73
              have cat74 : at74 ≤ 300 := by have h9 := (show xTB (xv g71 wt) (xv g71 wp) tk tl cn from (by rw [(Eq.trans (Eq.trans (Eq.trans (xv_m hg71 hs_wt (by decide) (by decide)) (xv_a hg69 (xne hs_wt hs_a0 (by decide)))) (xv_m hg18 hs_wt (by decide) (by decide))) (xv_a hg15 (xne hs_wt hs_a0 (by decide)))), (Eq.trans (Eq.trans (Eq.trans (xv_m hg71 hs_wp (by decide) (by decide)) (xv_a hg69 (xne hs_wp hs_a0 (by decide)))) (xv_m hg18 hs_wp (by decide) (by decide))) (xv_a hg15 (xne hs_wp hs_a0 (by decide))))]; exact hp0)).2.2.2; omega
              refine X_aloadn hK (i := 0) 3 dX7_readLine_118 rfl rfl ?_
              refine X_getK hK fl_X7_29_8 hs_a0 eFt74 dX7_readLine_119 ?_
              refine X_if_ne hK 160 (by omega) dX7_readLine_122 (by decide) (fun c75 => ?_) (fun c75 => ?_)
              · exact hret _ _ _ _ _ _ dX7_readLine_160 ⟨rfl, rfl, ⟨Ft74, at74, ot74, qt74, eFt74, by omega, by omega, eat74, by omega, by omega, eot74, by omega, by omega, eqt74, by omega, by omega, ⟨nl, ow, ((hg71 a1 11 0 1 hs_a1 (by decide)).trans ((xs_k hg69 (by decide)).trans ((hg18 a1 11 0 1 hs_a1 (by decide)).trans ((xs_k hg15 (by decide)).trans enl)))), by omega, by omega, ((hg71 a0 8 0 4 hs_a0 (by decide)).trans ((xs_k hg69 (by decide)).trans ((hg18 a0 8 0 4 hs_a0 (by decide)).trans ((xs_k hg15 (by decide)).trans eow)))), by omega, by omega, (Or.inr (Or.inr ⟨by rw [← k5]; omega, by rw [← k5]; omega, (Or.inr (Or.inr ⟨at22, (by have h9 := kt22; have h8 := k5; unfold xLb; omega), Ft74, at74, ot74, qt74, (Or.inl ⟨by rw [← k5]; omega, by rw [← k48]; omega, xRR.rs (by have h9 := kt74; rw [show ot22 = no by omega] at h9; exact h9)⟩), Or.inl ⟨by omega, rfl, rfl⟩⟩))⟩))⟩⟩⟩ (Nat.le_refl _) (Nat.le_refl _)
              · refine X_aloadn hK (i := 0) 3 dX7_readLine_125 rfl rfl ?_
                refine X_bipush hK dX7_readLine_126 (by decide) ?_
                refine X_callV hK [.int (iI 24)] [] lk_X7_119 (c3_expect _ _ _ _ _ S g71 a0 24 at74 ot74 Ft74 qt74 wt wp tk tl cn hs_a0 (by omega) (by omega) eat74 (by omega) eot74 (by omega) eFt74 (by omega) eqt74 ((hg71 a0 8 0 0 hs_a0 (by decide)).trans ((xs_k hg69 (by decide)).trans ((hg18 a0 8 0 0 hs_a0 (by decide)).trans ((xs_k hg15 (by decide)).trans ewt)))) hs_wt ((hg71 a0 8 0 1 hs_a0 (by decide)).trans ((xs_k hg69 (by decide)).trans ((hg18 a0 8 0 1 hs_a0 (by decide)).trans ((xs_k hg15 (by decide)).trans ewp)))) hs_wp (by rw [(Eq.trans (Eq.trans (Eq.trans (xv_m hg71 hs_wt (by decide) (by decide)) (xv_a hg69 (xne hs_wt hs_a0 (by decide)))) (xv_m hg18 hs_wt (by decide) (by decide))) (xv_a hg15 (xne hs_wt hs_a0 (by decide)))), (Eq.trans (Eq.trans (Eq.trans (xv_m hg71 hs_wp (by decide) (by decide)) (xv_a hg69 (xne hs_wp hs_a0 (by decide)))) (xv_m hg18 hs_wp (by decide) (by decide))) (xv_a hg15 (xne hs_wp hs_a0 (by decide))))]; exact hp0) (by omega) (by omega)) hs_a0 ⟨by decide, rfl⟩ dX7_readLine_128 rfl rfl (by simp [Value.category]) (by decide) (by decide) (by decide) (by decide) (fun r76 S78 g77 pr76 qr76 hg77 => ?_)
                obtain ⟨rfl, rfl, k79⟩ := pr76
                refine X_st [] rfl ?_
                obtain ⟨Ft80, at80, ot80, qt80, eFt80, lFt80, uFt80, eat80, lat80, uat80, eot80, lot80, uot80, eqt80, lqt80, uqt80, kt80⟩ := k79
                have cat80 : at80 ≤ 300 := by have h9 := (show xTB (xv g77 wt) (xv g77 wp) tk tl cn from (by rw [(Eq.trans (Eq.trans (Eq.trans (Eq.trans (xv_m hg77 hs_wt (by decide) (by decide)) (xv_m hg71 hs_wt (by decide) (by decide))) (xv_a hg69 (xne hs_wt hs_a0 (by decide)))) (xv_m hg18 hs_wt (by decide) (by decide))) (xv_a hg15 (xne hs_wt hs_a0 (by decide)))), (Eq.trans (Eq.trans (Eq.trans (Eq.trans (xv_m hg77 hs_wp (by decide) (by decide)) (xv_m hg71 hs_wp (by decide) (by decide))) (xv_a hg69 (xne hs_wp hs_a0 (by decide)))) (xv_m hg18 hs_wp (by decide) (by decide))) (xv_a hg15 (xne hs_wp hs_a0 (by decide))))]; exact hp0)).2.2.2; omega
                refine X_aloadn hK (i := 0) 3 dX7_readLine_131 rfl rfl ?_
                refine X_aloadn hK (i := 0) 3 dX7_readLine_132 rfl rfl ?_
                refine X_getK hK fl_X7_25_8 hs_a0 ((hg77 a0 8 0 4 hs_a0 (by decide)).trans ((hg71 a0 8 0 4 hs_a0 (by decide)).trans ((xs_k hg69 (by decide)).trans ((hg18 a0 8 0 4 hs_a0 (by decide)).trans ((xs_k hg15 (by decide)).trans eow))))) dX7_readLine_133 ?_
                refine X_if_ne hK 144 (by omega) dX7_readLine_136 (by decide) (fun c81 => ?_) (fun c81 => ?_)
                · refine X_iconst hK dX7_readLine_144 ?_
                  refine X_goto hK 149 dX7_readLine_145 (by decide) ?_
                  refine X_putz hK fl_X7_25_8 hs_a0 (by decide) sl_8_4 (by omega) (by omega) dX7_readLine_149 (fun g82 hg82 => ?_)
                  refine X_aloadn hK (i := 1) 4 dX7_readLine_152 rfl rfl ?_
                  refine X_iloadn hK (i := 2) 2 dX7_readLine_153 rfl rfl ?_
                  refine X_iloadn hK (i := 3) 1 dX7_readLine_154 rfl rfl ?_
                  refine X_iload hK (i := 4) 0 dX7_readLine_155 rfl ?_
                  refine X_callV hK [.int (iI z4), .int (iI z20), .int (iI z23)] [] lk_X7_122 (c3_addLine _ _ _ _ _ S g82 a1 z4 z20 z23 nl hs_a1 (by omega) (by omega) (by omega) (by omega) ((xs_k hg82 (by decide)).trans ((hg77 a1 11 0 1 hs_a1 (by decide)).trans ((hg71 a1 11 0 1 hs_a1 (by decide)).trans ((xs_k hg69 (by decide)).trans ((hg18 a1 11 0 1 hs_a1 (by decide)).trans ((xs_k hg15 (by decide)).trans enl))))))) hs_a1 ⟨by decide, rfl⟩ dX7_readLine_157 rfl rfl (by simp [Value.category]) (by decide) (by decide) (by decide) (by decide) (fun r83 S85 g84 pr83 qr83 hg84 => ?_)
                  obtain ⟨rfl, rfl, k86⟩ := pr83
                  refine X_st [] rfl ?_
                  exact hret _ _ _ _ _ _ dX7_readLine_160 ⟨rfl, rfl, ⟨Ft80, at80, ot80, qt80, ((hg84 a0 8 0 5 hs_a0 (by decide)).trans ((xs_k hg82 (by decide)).trans eFt80)), by omega, by omega, ((hg84 a0 8 0 2 hs_a0 (by decide)).trans ((xs_k hg82 (by decide)).trans eat80)), by omega, by omega, ((hg84 a0 8 0 3 hs_a0 (by decide)).trans ((xs_k hg82 (by decide)).trans eot80)), by omega, by omega, ((hg84 a0 8 0 6 hs_a0 (by decide)).trans ((xs_k hg82 (by decide)).trans eqt80)), by omega, by omega, ⟨(if nl < 16 then nl + 1 else nl), 1, k86, by omega, by omega, ((hg84 a0 8 0 4 hs_a0 (by decide)).trans (xs_s hg82)), by omega, by omega, (Or.inr (Or.inr ⟨by rw [← k5]; omega, by rw [← k5]; omega, (Or.inr (Or.inr ⟨at22, (by have h9 := kt22; have h8 := k5; unfold xLb; omega), Ft74, at74, ot74, qt74, (Or.inl ⟨by rw [← k5]; omega, by rw [← k48]; omega, xRR.rs (by have h9 := kt74; rw [show ot22 = no by omega] at h9; exact h9)⟩), (by obtain ⟨h8, h7⟩ := kt80; rcases h8 with ⟨c1, c2, c3, c4⟩ | ⟨c1, c2, c3⟩; (exact Or.inr (Or.inr ⟨by omega, c1, by omega, by omega, by omega, by rw [if_pos (by omega)], (by have h6 := k5; rw [← h6]; first | (rw [if_pos (by omega)] <;> omega) | (rw [if_neg (by omega)] <;> omega))⟩)); (have c4 := c3.resolve_left (fun q9 => by omega); exact Or.inr (Or.inl ⟨by omega, c1, c4.2.1, c4.2.2⟩)))⟩))⟩))⟩⟩⟩ (Nat.le_refl _) (Nat.le_refl _)
                · refine X_iloadn hK (i := 2) 2 dX7_readLine_139 rfl rfl ?_
                  refine X_iconst hK dX7_readLine_140 ?_
                  refine X_icmp_ne hK 148 (by omega) (by omega) dX7_readLine_141 (by decide) (fun c87 => ?_) (fun c87 => False.elim (by omega))
                  refine X_iconst hK dX7_readLine_148 ?_
                  refine X_putz hK fl_X7_25_8 hs_a0 (by decide) sl_8_4 (by omega) (by omega) dX7_readLine_149 (fun g88 hg88 => ?_)
                  refine X_aloadn hK (i := 1) 4 dX7_readLine_152 rfl rfl ?_
                  refine X_iloadn hK (i := 2) 2 dX7_readLine_153 rfl rfl ?_
                  refine X_iloadn hK (i := 3) 1 dX7_readLine_154 rfl rfl ?_
                  refine X_iload hK (i := 4) 0 dX7_readLine_155 rfl ?_
                  refine X_callV hK [.int (iI z4), .int (iI z20), .int (iI z23)] [] lk_X7_122 (c3_addLine _ _ _ _ _ S g88 a1 z4 z20 z23 nl hs_a1 (by omega) (by omega) (by omega) (by omega) ((xs_k hg88 (by decide)).trans ((hg77 a1 11 0 1 hs_a1 (by decide)).trans ((hg71 a1 11 0 1 hs_a1 (by decide)).trans ((xs_k hg69 (by decide)).trans ((hg18 a1 11 0 1 hs_a1 (by decide)).trans ((xs_k hg15 (by decide)).trans enl))))))) hs_a1 ⟨by decide, rfl⟩ dX7_readLine_157 rfl rfl (by simp [Value.category]) (by decide) (by decide) (by decide) (by decide) (fun r89 S91 g90 pr89 qr89 hg90 => ?_)
                  obtain ⟨rfl, rfl, k92⟩ := pr89
                  refine X_st [] rfl ?_
                  exact hret _ _ _ _ _ _ dX7_readLine_160 ⟨rfl, rfl, ⟨Ft80, at80, ot80, qt80, ((hg90 a0 8 0 5 hs_a0 (by decide)).trans ((xs_k hg88 (by decide)).trans eFt80)), by omega, by omega, ((hg90 a0 8 0 2 hs_a0 (by decide)).trans ((xs_k hg88 (by decide)).trans eat80)), by omega, by omega, ((hg90 a0 8 0 3 hs_a0 (by decide)).trans ((xs_k hg88 (by decide)).trans eot80)), by omega, by omega, ((hg90 a0 8 0 6 hs_a0 (by decide)).trans ((xs_k hg88 (by decide)).trans eqt80)), by omega, by omega, ⟨(if nl < 16 then nl + 1 else nl), 0, k92, by omega, by omega, ((hg90 a0 8 0 4 hs_a0 (by decide)).trans (xs_s hg88)), by omega, by omega, (Or.inr (Or.inr ⟨by rw [← k5]; omega, by rw [← k5]; omega, (Or.inr (Or.inr ⟨at22, (by have h9 := kt22; have h8 := k5; unfold xLb; omega), Ft74, at74, ot74, qt74, (Or.inl ⟨by rw [← k5]; omega, by rw [← k48]; omega, xRR.rs (by have h9 := kt74; rw [show ot22 = no by omega] at h9; exact h9)⟩), (by obtain ⟨h8, h7⟩ := kt80; rcases h8 with ⟨c1, c2, c3, c4⟩ | ⟨c1, c2, c3⟩; (exact Or.inr (Or.inr ⟨by omega, c1, by omega, by omega, by omega, by rw [if_pos (by omega)], (by have h6 := k5; rw [← h6]; first | (rw [if_pos (by omega)] <;> omega) | (rw [if_neg (by omega)] <;> omega))⟩)); (have c4 := c3.resolve_left (fun q9 => by omega); exact Or.inr (Or.inl ⟨by omega, c1, c4.2.1, c4.2.2⟩)))⟩))⟩))⟩⟩⟩ (Nat.le_refl _) (Nat.le_refl _)
        · refine X_aloadn hK (i := 0) 1 dX7_readLine_63 rfl rfl ?_
          refine X_callV hK [] [] lk_X7_109 (c3_readMay _ _ _ _ _ S g15 a0 (na + 1) no nf nq wt wp tk tl cn hs_a0 (by omega) (xs_s hg15) (by omega) ((xs_k hg15 (by decide)).trans eno) (by omega) ((xs_k hg15 (by decide)).trans enf) (by omega) ((xs_k hg15 (by decide)).trans enq) ((xs_k hg15 (by decide)).trans ewt) hs_wt ((xs_k hg15 (by decide)).trans ewp) hs_wp (by rw [(xv_a hg15 (xne hs_wt hs_a0 (by decide))), (xv_a hg15 (xne hs_wp hs_a0 (by decide)))]; exact hp0) (by omega) (by omega)) hs_a0 ⟨by decide, rfl⟩ dX7_readLine_64 rfl rfl (by simp [Value.category]) (by decide) (by decide) (by decide) (by decide) (fun r93 S95 g94 pr93 qr93 hg94 => ?_)
          obtain ⟨rfl, z96, rfl, lz96, uz96, k97⟩ := pr93
          refine X_st [.int (iI z96)] rfl ?_
          obtain ⟨Ft98, at98, ot98, qt98, eFt98, lFt98, uFt98, eat98, lat98, uat98, eot98, lot98, uot98, eqt98, lqt98, uqt98, kt98⟩ := k97
          have cat98 : at98 ≤ 300 := by have h9 := (show xTB (xv g94 wt) (xv g94 wp) tk tl cn from (by rw [(Eq.trans (xv_m hg94 hs_wt (by decide) (by decide)) (xv_a hg15 (xne hs_wt hs_a0 (by decide)))), (Eq.trans (xv_m hg94 hs_wp (by decide) (by decide)) (xv_a hg15 (xne hs_wp hs_a0 (by decide))))]; exact hp0)).2.2.2; omega
          refine X_goto hK 74 dX7_readLine_67 (by decide) ?_
          refine X_istoren hK (i := 3) [(3, .int (iI z96)), (2, .int (iI z4)), (0, .ref a0), (1, .ref a1)] dX7_readLine_74 rfl (by decide) rfl ?_
          refine X_aloadn hK (i := 1) 3 dX7_readLine_75 rfl rfl ?_
          refine X_geti hK fl_X7_44_11 hs_a1 sl_11_2 dX7_readLine_76 (fun z99 ez99 lz99 uz99 => ?_)
          refine X_istore hK (i := 4) [(4, .int (iI z99)), (3, .int (iI z96)), (2, .int (iI z4)), (0, .ref a0), (1, .ref a1)] dX7_readLine_79 (by decide) rfl ?_
          refine X_aloadn hK (i := 0) 3 dX7_readLine_81 rfl rfl ?_
          refine X_getK hK fl_X7_29_8 hs_a0 eFt98 dX7_readLine_82 ?_
          refine X_if_ne hK 118 (by omega) dX7_readLine_85 (by decide) (fun c100 => ?_) (fun c100 => ?_)
          · refine X_aloadn hK (i := 0) 3 dX7_readLine_118 rfl rfl ?_
            refine X_getK hK fl_X7_29_8 hs_a0 eFt98 dX7_readLine_119 ?_
            refine X_if_ne hK 160 (by omega) dX7_readLine_122 (by decide) (fun c101 => ?_) (fun c101 => ?_)
            · exact hret _ _ _ _ _ _ dX7_readLine_160 ⟨rfl, rfl, ⟨Ft98, at98, ot98, qt98, eFt98, by omega, by omega, eat98, by omega, by omega, eot98, by omega, by omega, eqt98, by omega, by omega, ⟨nl, ow, ((hg94 a1 11 0 1 hs_a1 (by decide)).trans ((xs_k hg15 (by decide)).trans enl)), by omega, by omega, ((hg94 a0 8 0 4 hs_a0 (by decide)).trans ((xs_k hg15 (by decide)).trans eow)), by omega, by omega, (Or.inr (Or.inr ⟨by rw [← k5]; omega, by rw [← k5]; omega, (False.elim (by have h9 := kt98; omega))⟩))⟩⟩⟩ (Nat.le_refl _) (Nat.le_refl _)
            · refine X_aloadn hK (i := 0) 3 dX7_readLine_125 rfl rfl ?_
              refine X_bipush hK dX7_readLine_126 (by decide) ?_
              refine X_callV hK [.int (iI 24)] [] lk_X7_119 (c3_expect _ _ _ _ _ S g94 a0 24 at98 ot98 Ft98 qt98 wt wp tk tl cn hs_a0 (by omega) (by omega) eat98 (by omega) eot98 (by omega) eFt98 (by omega) eqt98 ((hg94 a0 8 0 0 hs_a0 (by decide)).trans ((xs_k hg15 (by decide)).trans ewt)) hs_wt ((hg94 a0 8 0 1 hs_a0 (by decide)).trans ((xs_k hg15 (by decide)).trans ewp)) hs_wp (by rw [(Eq.trans (xv_m hg94 hs_wt (by decide) (by decide)) (xv_a hg15 (xne hs_wt hs_a0 (by decide)))), (Eq.trans (xv_m hg94 hs_wp (by decide) (by decide)) (xv_a hg15 (xne hs_wp hs_a0 (by decide))))]; exact hp0) (by omega) (by omega)) hs_a0 ⟨by decide, rfl⟩ dX7_readLine_128 rfl rfl (by simp [Value.category]) (by decide) (by decide) (by decide) (by decide) (fun r102 S104 g103 pr102 qr102 hg103 => ?_)
              obtain ⟨rfl, rfl, k105⟩ := pr102
              refine X_st [] rfl ?_
              obtain ⟨Ft106, at106, ot106, qt106, eFt106, lFt106, uFt106, eat106, lat106, uat106, eot106, lot106, uot106, eqt106, lqt106, uqt106, kt106⟩ := k105
              have cat106 : at106 ≤ 300 := by have h9 := (show xTB (xv g103 wt) (xv g103 wp) tk tl cn from (by rw [(Eq.trans (Eq.trans (xv_m hg103 hs_wt (by decide) (by decide)) (xv_m hg94 hs_wt (by decide) (by decide))) (xv_a hg15 (xne hs_wt hs_a0 (by decide)))), (Eq.trans (Eq.trans (xv_m hg103 hs_wp (by decide) (by decide)) (xv_m hg94 hs_wp (by decide) (by decide))) (xv_a hg15 (xne hs_wp hs_a0 (by decide))))]; exact hp0)).2.2.2; omega
              refine X_aloadn hK (i := 0) 3 dX7_readLine_131 rfl rfl ?_
              refine X_aloadn hK (i := 0) 3 dX7_readLine_132 rfl rfl ?_
              refine X_getK hK fl_X7_25_8 hs_a0 ((hg103 a0 8 0 4 hs_a0 (by decide)).trans ((hg94 a0 8 0 4 hs_a0 (by decide)).trans ((xs_k hg15 (by decide)).trans eow))) dX7_readLine_133 ?_
              refine X_if_ne hK 144 (by omega) dX7_readLine_136 (by decide) (fun c107 => ?_) (fun c107 => ?_)
              · refine X_iconst hK dX7_readLine_144 ?_
                refine X_goto hK 149 dX7_readLine_145 (by decide) ?_
                refine X_putz hK fl_X7_25_8 hs_a0 (by decide) sl_8_4 (by omega) (by omega) dX7_readLine_149 (fun g108 hg108 => ?_)
                refine X_aloadn hK (i := 1) 4 dX7_readLine_152 rfl rfl ?_
                refine X_iloadn hK (i := 2) 2 dX7_readLine_153 rfl rfl ?_
                refine X_iloadn hK (i := 3) 1 dX7_readLine_154 rfl rfl ?_
                refine X_iload hK (i := 4) 0 dX7_readLine_155 rfl ?_
                refine X_callV hK [.int (iI z4), .int (iI z96), .int (iI z99)] [] lk_X7_122 (c3_addLine _ _ _ _ _ S g108 a1 z4 z96 z99 nl hs_a1 (by omega) (by omega) (by omega) (by omega) ((xs_k hg108 (by decide)).trans ((hg103 a1 11 0 1 hs_a1 (by decide)).trans ((hg94 a1 11 0 1 hs_a1 (by decide)).trans ((xs_k hg15 (by decide)).trans enl))))) hs_a1 ⟨by decide, rfl⟩ dX7_readLine_157 rfl rfl (by simp [Value.category]) (by decide) (by decide) (by decide) (by decide) (fun r109 S111 g110 pr109 qr109 hg110 => ?_)
                obtain ⟨rfl, rfl, k112⟩ := pr109
                refine X_st [] rfl ?_
                exact hret _ _ _ _ _ _ dX7_readLine_160 ⟨rfl, rfl, ⟨Ft106, at106, ot106, qt106, ((hg110 a0 8 0 5 hs_a0 (by decide)).trans ((xs_k hg108 (by decide)).trans eFt106)), by omega, by omega, ((hg110 a0 8 0 2 hs_a0 (by decide)).trans ((xs_k hg108 (by decide)).trans eat106)), by omega, by omega, ((hg110 a0 8 0 3 hs_a0 (by decide)).trans ((xs_k hg108 (by decide)).trans eot106)), by omega, by omega, ((hg110 a0 8 0 6 hs_a0 (by decide)).trans ((xs_k hg108 (by decide)).trans eqt106)), by omega, by omega, ⟨(if nl < 16 then nl + 1 else nl), 1, k112, by omega, by omega, ((hg110 a0 8 0 4 hs_a0 (by decide)).trans (xs_s hg108)), by omega, by omega, (Or.inr (Or.inr ⟨by rw [← k5]; omega, by rw [← k5]; omega, (Or.inr (Or.inr ⟨at98, (by have h9 := kt98; have h8 := k5; unfold xLb; omega), 0, at98, no, 0, (Or.inr ⟨(fun q9 => by have h9 := q9.1; rw [← k5] at h9; omega), rfl, rfl, rfl⟩), (by obtain ⟨h8, h7⟩ := kt106; rcases h8 with ⟨c1, c2, c3, c4⟩ | ⟨c1, c2, c3⟩; (exact Or.inr (Or.inr ⟨by omega, c1, by omega, by omega, by omega, by rw [if_pos (by omega)], (by have h6 := k5; rw [← h6]; first | (rw [if_pos (by omega)] <;> omega) | (rw [if_neg (by omega)] <;> omega))⟩)); (have c4 := c3.resolve_left (fun q9 => by omega); exact Or.inr (Or.inl ⟨by omega, c1, c4.2.1, c4.2.2⟩)))⟩))⟩))⟩⟩⟩ (Nat.le_refl _) (Nat.le_refl _)
              · refine X_iloadn hK (i := 2) 2 dX7_readLine_139 rfl rfl ?_
                refine X_iconst hK dX7_readLine_140 ?_
                refine X_icmp_ne hK 148 (by omega) (by omega) dX7_readLine_141 (by decide) (fun c113 => ?_) (fun c113 => False.elim (by omega))
                refine X_iconst hK dX7_readLine_148 ?_
                refine X_putz hK fl_X7_25_8 hs_a0 (by decide) sl_8_4 (by omega) (by omega) dX7_readLine_149 (fun g114 hg114 => ?_)
                refine X_aloadn hK (i := 1) 4 dX7_readLine_152 rfl rfl ?_
                refine X_iloadn hK (i := 2) 2 dX7_readLine_153 rfl rfl ?_
                refine X_iloadn hK (i := 3) 1 dX7_readLine_154 rfl rfl ?_
                refine X_iload hK (i := 4) 0 dX7_readLine_155 rfl ?_
                refine X_callV hK [.int (iI z4), .int (iI z96), .int (iI z99)] [] lk_X7_122 (c3_addLine _ _ _ _ _ S g114 a1 z4 z96 z99 nl hs_a1 (by omega) (by omega) (by omega) (by omega) ((xs_k hg114 (by decide)).trans ((hg103 a1 11 0 1 hs_a1 (by decide)).trans ((hg94 a1 11 0 1 hs_a1 (by decide)).trans ((xs_k hg15 (by decide)).trans enl))))) hs_a1 ⟨by decide, rfl⟩ dX7_readLine_157 rfl rfl (by simp [Value.category]) (by decide) (by decide) (by decide) (by decide) (fun r115 S117 g116 pr115 qr115 hg116 => ?_)
                obtain ⟨rfl, rfl, k118⟩ := pr115
                refine X_st [] rfl ?_
                exact hret _ _ _ _ _ _ dX7_readLine_160 ⟨rfl, rfl, ⟨Ft106, at106, ot106, qt106, ((hg116 a0 8 0 5 hs_a0 (by decide)).trans ((xs_k hg114 (by decide)).trans eFt106)), by omega, by omega, ((hg116 a0 8 0 2 hs_a0 (by decide)).trans ((xs_k hg114 (by decide)).trans eat106)), by omega, by omega, ((hg116 a0 8 0 3 hs_a0 (by decide)).trans ((xs_k hg114 (by decide)).trans eot106)), by omega, by omega, ((hg116 a0 8 0 6 hs_a0 (by decide)).trans ((xs_k hg114 (by decide)).trans eqt106)), by omega, by omega, ⟨(if nl < 16 then nl + 1 else nl), 0, k118, by omega, by omega, ((hg116 a0 8 0 4 hs_a0 (by decide)).trans (xs_s hg114)), by omega, by omega, (Or.inr (Or.inr ⟨by rw [← k5]; omega, by rw [← k5]; omega, (Or.inr (Or.inr ⟨at98, (by have h9 := kt98; have h8 := k5; unfold xLb; omega), 0, at98, no, 0, (Or.inr ⟨(fun q9 => by have h9 := q9.1; rw [← k5] at h9; omega), rfl, rfl, rfl⟩), (by obtain ⟨h8, h7⟩ := kt106; rcases h8 with ⟨c1, c2, c3, c4⟩ | ⟨c1, c2, c3⟩; (exact Or.inr (Or.inr ⟨by omega, c1, by omega, by omega, by omega, by rw [if_pos (by omega)], (by have h6 := k5; rw [← h6]; first | (rw [if_pos (by omega)] <;> omega) | (rw [if_neg (by omega)] <;> omega))⟩)); (have c4 := c3.resolve_left (fun q9 => by omega); exact Or.inr (Or.inl ⟨by omega, c1, c4.2.1, c4.2.2⟩)))⟩))⟩))⟩⟩⟩ (Nat.le_refl _) (Nat.le_refl _)
          · refine X_iloadn hK (i := 2) 2 dX7_readLine_88 rfl rfl ?_
            refine X_iconst hK dX7_readLine_89 ?_
            refine X_icmp_eq hK 118 (by omega) (by omega) dX7_readLine_90 (by decide) (fun c119 => False.elim (by omega)) (fun c119 => ?_)
            refine X_aloadn hK (i := 0) 3 dX7_readLine_93 rfl rfl ?_
            refine X_callV hK [] [] lk_X7_47 (c3_now _ _ _ _ _ S g94 a0 at98 wt wp tk tl cn hs_a0 (by omega) eat98 ((hg94 a0 8 0 0 hs_a0 (by decide)).trans ((xs_k hg15 (by decide)).trans ewt)) hs_wt ((hg94 a0 8 0 1 hs_a0 (by decide)).trans ((xs_k hg15 (by decide)).trans ewp)) hs_wp (by rw [(Eq.trans (xv_m hg94 hs_wt (by decide) (by decide)) (xv_a hg15 (xne hs_wt hs_a0 (by decide)))), (Eq.trans (xv_m hg94 hs_wp (by decide) (by decide)) (xv_a hg15 (xne hs_wp hs_a0 (by decide))))]; exact hp0) (by omega) (by omega)) hs_a0 ⟨by decide, rfl⟩ dX7_readLine_94 rfl rfl (by simp [Value.category]) (by decide) (by decide) (by decide) (by decide) (fun r120 S122 g121 pr120 qr120 hg121 => ?_)
            obtain ⟨rfl, rfl, z123, rfl, lz123, uz123, k124⟩ := pr120
            refine X_st [.int (iI z123)] rfl ?_
            refine X_bipush hK dX7_readLine_97 (by decide) ?_
            refine X_icmp_ne hK 118 (by omega) (by omega) dX7_readLine_99 (by decide) (fun c125 => ?_) (fun c125 => ?_)
            · refine X_aloadn hK (i := 0) 3 dX7_readLine_118 rfl rfl ?_
              refine X_getK hK fl_X7_29_8 hs_a0 eFt98 dX7_readLine_119 ?_
              refine X_if_ne hK 160 (by omega) dX7_readLine_122 (by decide) (fun c126 => False.elim (by omega)) (fun c126 => ?_)
              refine X_aloadn hK (i := 0) 3 dX7_readLine_125 rfl rfl ?_
              refine X_bipush hK dX7_readLine_126 (by decide) ?_
              refine X_callV hK [.int (iI 24)] [] lk_X7_119 (c3_expect _ _ _ _ _ S g94 a0 24 at98 ot98 Ft98 qt98 wt wp tk tl cn hs_a0 (by omega) (by omega) eat98 (by omega) eot98 (by omega) eFt98 (by omega) eqt98 ((hg94 a0 8 0 0 hs_a0 (by decide)).trans ((xs_k hg15 (by decide)).trans ewt)) hs_wt ((hg94 a0 8 0 1 hs_a0 (by decide)).trans ((xs_k hg15 (by decide)).trans ewp)) hs_wp (by rw [(Eq.trans (xv_m hg94 hs_wt (by decide) (by decide)) (xv_a hg15 (xne hs_wt hs_a0 (by decide)))), (Eq.trans (xv_m hg94 hs_wp (by decide) (by decide)) (xv_a hg15 (xne hs_wp hs_a0 (by decide))))]; exact hp0) (by omega) (by omega)) hs_a0 ⟨by decide, rfl⟩ dX7_readLine_128 rfl rfl (by simp [Value.category]) (by decide) (by decide) (by decide) (by decide) (fun r127 S129 g128 pr127 qr127 hg128 => ?_)
              obtain ⟨rfl, rfl, k130⟩ := pr127
              refine X_st [] rfl ?_
              obtain ⟨Ft131, at131, ot131, qt131, eFt131, lFt131, uFt131, eat131, lat131, uat131, eot131, lot131, uot131, eqt131, lqt131, uqt131, kt131⟩ := k130
              have cat131 : at131 ≤ 300 := by have h9 := (show xTB (xv g128 wt) (xv g128 wp) tk tl cn from (by rw [(Eq.trans (Eq.trans (xv_m hg128 hs_wt (by decide) (by decide)) (xv_m hg94 hs_wt (by decide) (by decide))) (xv_a hg15 (xne hs_wt hs_a0 (by decide)))), (Eq.trans (Eq.trans (xv_m hg128 hs_wp (by decide) (by decide)) (xv_m hg94 hs_wp (by decide) (by decide))) (xv_a hg15 (xne hs_wp hs_a0 (by decide))))]; exact hp0)).2.2.2; omega
              refine X_aloadn hK (i := 0) 3 dX7_readLine_131 rfl rfl ?_
              refine X_aloadn hK (i := 0) 3 dX7_readLine_132 rfl rfl ?_
              refine X_getK hK fl_X7_25_8 hs_a0 ((hg128 a0 8 0 4 hs_a0 (by decide)).trans ((hg94 a0 8 0 4 hs_a0 (by decide)).trans ((xs_k hg15 (by decide)).trans eow))) dX7_readLine_133 ?_
              refine X_if_ne hK 144 (by omega) dX7_readLine_136 (by decide) (fun c132 => ?_) (fun c132 => ?_)
              · refine X_iconst hK dX7_readLine_144 ?_
                refine X_goto hK 149 dX7_readLine_145 (by decide) ?_
                refine X_putz hK fl_X7_25_8 hs_a0 (by decide) sl_8_4 (by omega) (by omega) dX7_readLine_149 (fun g133 hg133 => ?_)
                refine X_aloadn hK (i := 1) 4 dX7_readLine_152 rfl rfl ?_
                refine X_iloadn hK (i := 2) 2 dX7_readLine_153 rfl rfl ?_
                refine X_iloadn hK (i := 3) 1 dX7_readLine_154 rfl rfl ?_
                refine X_iload hK (i := 4) 0 dX7_readLine_155 rfl ?_
                refine X_callV hK [.int (iI z4), .int (iI z96), .int (iI z99)] [] lk_X7_122 (c3_addLine _ _ _ _ _ S g133 a1 z4 z96 z99 nl hs_a1 (by omega) (by omega) (by omega) (by omega) ((xs_k hg133 (by decide)).trans ((hg128 a1 11 0 1 hs_a1 (by decide)).trans ((hg94 a1 11 0 1 hs_a1 (by decide)).trans ((xs_k hg15 (by decide)).trans enl))))) hs_a1 ⟨by decide, rfl⟩ dX7_readLine_157 rfl rfl (by simp [Value.category]) (by decide) (by decide) (by decide) (by decide) (fun r134 S136 g135 pr134 qr134 hg135 => ?_)
                obtain ⟨rfl, rfl, k137⟩ := pr134
                refine X_st [] rfl ?_
                exact hret _ _ _ _ _ _ dX7_readLine_160 ⟨rfl, rfl, ⟨Ft131, at131, ot131, qt131, ((hg135 a0 8 0 5 hs_a0 (by decide)).trans ((xs_k hg133 (by decide)).trans eFt131)), by omega, by omega, ((hg135 a0 8 0 2 hs_a0 (by decide)).trans ((xs_k hg133 (by decide)).trans eat131)), by omega, by omega, ((hg135 a0 8 0 3 hs_a0 (by decide)).trans ((xs_k hg133 (by decide)).trans eot131)), by omega, by omega, ((hg135 a0 8 0 6 hs_a0 (by decide)).trans ((xs_k hg133 (by decide)).trans eqt131)), by omega, by omega, ⟨(if nl < 16 then nl + 1 else nl), 1, k137, by omega, by omega, ((hg135 a0 8 0 4 hs_a0 (by decide)).trans (xs_s hg133)), by omega, by omega, (Or.inr (Or.inr ⟨by rw [← k5]; omega, by rw [← k5]; omega, (Or.inr (Or.inr ⟨at98, (by have h9 := kt98; have h8 := k5; unfold xLb; omega), 0, at98, no, 0, (Or.inr ⟨(fun q9 => by have h9 := q9.2; rw [← k124] at h9; omega), rfl, rfl, rfl⟩), (by obtain ⟨h8, h7⟩ := kt131; rcases h8 with ⟨c1, c2, c3, c4⟩ | ⟨c1, c2, c3⟩; (exact Or.inr (Or.inr ⟨by omega, c1, by omega, by omega, by omega, by rw [if_pos (by omega)], (by have h6 := k5; rw [← h6]; first | (rw [if_pos (by omega)] <;> omega) | (rw [if_neg (by omega)] <;> omega))⟩)); (have c4 := c3.resolve_left (fun q9 => by omega); exact Or.inr (Or.inl ⟨by omega, c1, c4.2.1, c4.2.2⟩)))⟩))⟩))⟩⟩⟩ (Nat.le_refl _) (Nat.le_refl _)
              · refine X_iloadn hK (i := 2) 2 dX7_readLine_139 rfl rfl ?_
                refine X_iconst hK dX7_readLine_140 ?_
                refine X_icmp_ne hK 148 (by omega) (by omega) dX7_readLine_141 (by decide) (fun c138 => ?_) (fun c138 => False.elim (by omega))
                refine X_iconst hK dX7_readLine_148 ?_
                refine X_putz hK fl_X7_25_8 hs_a0 (by decide) sl_8_4 (by omega) (by omega) dX7_readLine_149 (fun g139 hg139 => ?_)
                refine X_aloadn hK (i := 1) 4 dX7_readLine_152 rfl rfl ?_
                refine X_iloadn hK (i := 2) 2 dX7_readLine_153 rfl rfl ?_
                refine X_iloadn hK (i := 3) 1 dX7_readLine_154 rfl rfl ?_
                refine X_iload hK (i := 4) 0 dX7_readLine_155 rfl ?_
                refine X_callV hK [.int (iI z4), .int (iI z96), .int (iI z99)] [] lk_X7_122 (c3_addLine _ _ _ _ _ S g139 a1 z4 z96 z99 nl hs_a1 (by omega) (by omega) (by omega) (by omega) ((xs_k hg139 (by decide)).trans ((hg128 a1 11 0 1 hs_a1 (by decide)).trans ((hg94 a1 11 0 1 hs_a1 (by decide)).trans ((xs_k hg15 (by decide)).trans enl))))) hs_a1 ⟨by decide, rfl⟩ dX7_readLine_157 rfl rfl (by simp [Value.category]) (by decide) (by decide) (by decide) (by decide) (fun r140 S142 g141 pr140 qr140 hg141 => ?_)
                obtain ⟨rfl, rfl, k143⟩ := pr140
                refine X_st [] rfl ?_
                exact hret _ _ _ _ _ _ dX7_readLine_160 ⟨rfl, rfl, ⟨Ft131, at131, ot131, qt131, ((hg141 a0 8 0 5 hs_a0 (by decide)).trans ((xs_k hg139 (by decide)).trans eFt131)), by omega, by omega, ((hg141 a0 8 0 2 hs_a0 (by decide)).trans ((xs_k hg139 (by decide)).trans eat131)), by omega, by omega, ((hg141 a0 8 0 3 hs_a0 (by decide)).trans ((xs_k hg139 (by decide)).trans eot131)), by omega, by omega, ((hg141 a0 8 0 6 hs_a0 (by decide)).trans ((xs_k hg139 (by decide)).trans eqt131)), by omega, by omega, ⟨(if nl < 16 then nl + 1 else nl), 0, k143, by omega, by omega, ((hg141 a0 8 0 4 hs_a0 (by decide)).trans (xs_s hg139)), by omega, by omega, (Or.inr (Or.inr ⟨by rw [← k5]; omega, by rw [← k5]; omega, (Or.inr (Or.inr ⟨at98, (by have h9 := kt98; have h8 := k5; unfold xLb; omega), 0, at98, no, 0, (Or.inr ⟨(fun q9 => by have h9 := q9.2; rw [← k124] at h9; omega), rfl, rfl, rfl⟩), (by obtain ⟨h8, h7⟩ := kt131; rcases h8 with ⟨c1, c2, c3, c4⟩ | ⟨c1, c2, c3⟩; (exact Or.inr (Or.inr ⟨by omega, c1, by omega, by omega, by omega, by rw [if_pos (by omega)], (by have h6 := k5; rw [← h6]; first | (rw [if_pos (by omega)] <;> omega) | (rw [if_neg (by omega)] <;> omega))⟩)); (have c4 := c3.resolve_left (fun q9 => by omega); exact Or.inr (Or.inl ⟨by omega, c1, c4.2.1, c4.2.2⟩)))⟩))⟩))⟩⟩⟩ (Nat.le_refl _) (Nat.le_refl _)
            · refine X_aloadn hK (i := 0) 3 dX7_readLine_102 rfl rfl ?_
              refine X_dup hK dX7_readLine_103 rfl ?_
              have hl144 := xTB.lt (a := at98) (show xTB (xv g94 wt) (xv g94 wp) tk tl cn from (by rw [(Eq.trans (xv_m hg94 hs_wt (by decide) (by decide)) (xv_a hg15 (xne hs_wt hs_a0 (by decide)))), (Eq.trans (xv_m hg94 hs_wp (by decide) (by decide)) (xv_a hg15 (xne hs_wp hs_a0 (by decide))))]; exact hp0)) (by omega) (by rw [← k124]; omega)
              refine X_getK hK fl_X7_18_8 hs_a0 eat98 dX7_readLine_104 ?_
              refine X_iconst hK dX7_readLine_107 ?_
              refine X_iadd hK dX7_readLine_108 ?_
              refine X_puti hK fl_X7_18_8 hs_a0 (by decide) sl_8_2 (by omega) (by omega) dX7_readLine_109 (fun g145 hg145 => ?_)
              refine X_aloadn hK (i := 0) 3 dX7_readLine_112 rfl rfl ?_
              refine X_aloadn hK (i := 1) 4 dX7_readLine_113 rfl rfl ?_
              refine X_iconst hK dX7_readLine_114 ?_
              refine X_callV hK [.ref a1, .int (iI 1)] [] lk_X7_115 (c3_readCond_1 _ _ _ _ _ S g145 a0 a1 1 (at98 + 1) ot98 Ft98 qt98 wt wp tk tl cn hs_a0 hs_a1 (by omega) (by omega) (xs_s hg145) (by omega) ((xs_k hg145 (by decide)).trans eot98) (by omega) ((xs_k hg145 (by decide)).trans eFt98) (by omega) ((xs_k hg145 (by decide)).trans eqt98) ((xs_k hg145 (by decide)).trans ((hg94 a0 8 0 0 hs_a0 (by decide)).trans ((xs_k hg15 (by decide)).trans ewt))) hs_wt ((xs_k hg145 (by decide)).trans ((hg94 a0 8 0 1 hs_a0 (by decide)).trans ((xs_k hg15 (by decide)).trans ewp))) hs_wp (by rw [(Eq.trans (Eq.trans (xv_a hg145 (xne hs_wt hs_a0 (by decide))) (xv_m hg94 hs_wt (by decide) (by decide))) (xv_a hg15 (xne hs_wt hs_a0 (by decide)))), (Eq.trans (Eq.trans (xv_a hg145 (xne hs_wp hs_a0 (by decide))) (xv_m hg94 hs_wp (by decide) (by decide))) (xv_a hg15 (xne hs_wp hs_a0 (by decide))))]; exact hp0) (by omega) (by omega)) hs_a0 ⟨by decide, rfl⟩ dX7_readLine_115 rfl rfl (by simp [Value.category]) (by decide) (by decide) (by decide) (by decide) (fun r146 S148 g147 pr146 qr146 hg147 => ?_)
              obtain ⟨rfl, rfl, k149⟩ := pr146
              refine X_st [] rfl ?_
              obtain ⟨Ft150, at150, ot150, qt150, eFt150, lFt150, uFt150, eat150, lat150, uat150, eot150, lot150, uot150, eqt150, lqt150, uqt150, kt150⟩ := k149
              have cat150 : at150 ≤ 300 := by have h9 := (show xTB (xv g147 wt) (xv g147 wp) tk tl cn from (by rw [(Eq.trans (Eq.trans (Eq.trans (xv_m hg147 hs_wt (by decide) (by decide)) (xv_a hg145 (xne hs_wt hs_a0 (by decide)))) (xv_m hg94 hs_wt (by decide) (by decide))) (xv_a hg15 (xne hs_wt hs_a0 (by decide)))), (Eq.trans (Eq.trans (Eq.trans (xv_m hg147 hs_wp (by decide) (by decide)) (xv_a hg145 (xne hs_wp hs_a0 (by decide)))) (xv_m hg94 hs_wp (by decide) (by decide))) (xv_a hg15 (xne hs_wp hs_a0 (by decide))))]; exact hp0)).2.2.2; omega
              refine X_aloadn hK (i := 0) 3 dX7_readLine_118 rfl rfl ?_
              refine X_getK hK fl_X7_29_8 hs_a0 eFt150 dX7_readLine_119 ?_
              refine X_if_ne hK 160 (by omega) dX7_readLine_122 (by decide) (fun c151 => ?_) (fun c151 => ?_)
              · exact hret _ _ _ _ _ _ dX7_readLine_160 ⟨rfl, rfl, ⟨Ft150, at150, ot150, qt150, eFt150, by omega, by omega, eat150, by omega, by omega, eot150, by omega, by omega, eqt150, by omega, by omega, ⟨nl, ow, ((hg147 a1 11 0 1 hs_a1 (by decide)).trans ((xs_k hg145 (by decide)).trans ((hg94 a1 11 0 1 hs_a1 (by decide)).trans ((xs_k hg15 (by decide)).trans enl)))), by omega, by omega, ((hg147 a0 8 0 4 hs_a0 (by decide)).trans ((xs_k hg145 (by decide)).trans ((hg94 a0 8 0 4 hs_a0 (by decide)).trans ((xs_k hg15 (by decide)).trans eow)))), by omega, by omega, (Or.inr (Or.inr ⟨by rw [← k5]; omega, by rw [← k5]; omega, (Or.inr (Or.inr ⟨at98, (by have h9 := kt98; have h8 := k5; unfold xLb; omega), Ft150, at150, ot150, qt150, (Or.inl ⟨by rw [← k5]; omega, by rw [← k124]; omega, xRR.rs (by have h9 := kt150; rw [show ot98 = no by omega] at h9; exact h9)⟩), Or.inl ⟨by omega, rfl, rfl⟩⟩))⟩))⟩⟩⟩ (Nat.le_refl _) (Nat.le_refl _)
              · refine X_aloadn hK (i := 0) 3 dX7_readLine_125 rfl rfl ?_
                refine X_bipush hK dX7_readLine_126 (by decide) ?_
                refine X_callV hK [.int (iI 24)] [] lk_X7_119 (c3_expect _ _ _ _ _ S g147 a0 24 at150 ot150 Ft150 qt150 wt wp tk tl cn hs_a0 (by omega) (by omega) eat150 (by omega) eot150 (by omega) eFt150 (by omega) eqt150 ((hg147 a0 8 0 0 hs_a0 (by decide)).trans ((xs_k hg145 (by decide)).trans ((hg94 a0 8 0 0 hs_a0 (by decide)).trans ((xs_k hg15 (by decide)).trans ewt)))) hs_wt ((hg147 a0 8 0 1 hs_a0 (by decide)).trans ((xs_k hg145 (by decide)).trans ((hg94 a0 8 0 1 hs_a0 (by decide)).trans ((xs_k hg15 (by decide)).trans ewp)))) hs_wp (by rw [(Eq.trans (Eq.trans (Eq.trans (xv_m hg147 hs_wt (by decide) (by decide)) (xv_a hg145 (xne hs_wt hs_a0 (by decide)))) (xv_m hg94 hs_wt (by decide) (by decide))) (xv_a hg15 (xne hs_wt hs_a0 (by decide)))), (Eq.trans (Eq.trans (Eq.trans (xv_m hg147 hs_wp (by decide) (by decide)) (xv_a hg145 (xne hs_wp hs_a0 (by decide)))) (xv_m hg94 hs_wp (by decide) (by decide))) (xv_a hg15 (xne hs_wp hs_a0 (by decide))))]; exact hp0) (by omega) (by omega)) hs_a0 ⟨by decide, rfl⟩ dX7_readLine_128 rfl rfl (by simp [Value.category]) (by decide) (by decide) (by decide) (by decide) (fun r152 S154 g153 pr152 qr152 hg153 => ?_)
                obtain ⟨rfl, rfl, k155⟩ := pr152
                refine X_st [] rfl ?_
                obtain ⟨Ft156, at156, ot156, qt156, eFt156, lFt156, uFt156, eat156, lat156, uat156, eot156, lot156, uot156, eqt156, lqt156, uqt156, kt156⟩ := k155
                have cat156 : at156 ≤ 300 := by have h9 := (show xTB (xv g153 wt) (xv g153 wp) tk tl cn from (by rw [(Eq.trans (Eq.trans (Eq.trans (Eq.trans (xv_m hg153 hs_wt (by decide) (by decide)) (xv_m hg147 hs_wt (by decide) (by decide))) (xv_a hg145 (xne hs_wt hs_a0 (by decide)))) (xv_m hg94 hs_wt (by decide) (by decide))) (xv_a hg15 (xne hs_wt hs_a0 (by decide)))), (Eq.trans (Eq.trans (Eq.trans (Eq.trans (xv_m hg153 hs_wp (by decide) (by decide)) (xv_m hg147 hs_wp (by decide) (by decide))) (xv_a hg145 (xne hs_wp hs_a0 (by decide)))) (xv_m hg94 hs_wp (by decide) (by decide))) (xv_a hg15 (xne hs_wp hs_a0 (by decide))))]; exact hp0)).2.2.2; omega
                refine X_aloadn hK (i := 0) 3 dX7_readLine_131 rfl rfl ?_
                refine X_aloadn hK (i := 0) 3 dX7_readLine_132 rfl rfl ?_
                refine X_getK hK fl_X7_25_8 hs_a0 ((hg153 a0 8 0 4 hs_a0 (by decide)).trans ((hg147 a0 8 0 4 hs_a0 (by decide)).trans ((xs_k hg145 (by decide)).trans ((hg94 a0 8 0 4 hs_a0 (by decide)).trans ((xs_k hg15 (by decide)).trans eow))))) dX7_readLine_133 ?_
                refine X_if_ne hK 144 (by omega) dX7_readLine_136 (by decide) (fun c157 => ?_) (fun c157 => ?_)
                · refine X_iconst hK dX7_readLine_144 ?_
                  refine X_goto hK 149 dX7_readLine_145 (by decide) ?_
                  refine X_putz hK fl_X7_25_8 hs_a0 (by decide) sl_8_4 (by omega) (by omega) dX7_readLine_149 (fun g158 hg158 => ?_)
                  refine X_aloadn hK (i := 1) 4 dX7_readLine_152 rfl rfl ?_
                  refine X_iloadn hK (i := 2) 2 dX7_readLine_153 rfl rfl ?_
                  refine X_iloadn hK (i := 3) 1 dX7_readLine_154 rfl rfl ?_
                  refine X_iload hK (i := 4) 0 dX7_readLine_155 rfl ?_
                  refine X_callV hK [.int (iI z4), .int (iI z96), .int (iI z99)] [] lk_X7_122 (c3_addLine _ _ _ _ _ S g158 a1 z4 z96 z99 nl hs_a1 (by omega) (by omega) (by omega) (by omega) ((xs_k hg158 (by decide)).trans ((hg153 a1 11 0 1 hs_a1 (by decide)).trans ((hg147 a1 11 0 1 hs_a1 (by decide)).trans ((xs_k hg145 (by decide)).trans ((hg94 a1 11 0 1 hs_a1 (by decide)).trans ((xs_k hg15 (by decide)).trans enl))))))) hs_a1 ⟨by decide, rfl⟩ dX7_readLine_157 rfl rfl (by simp [Value.category]) (by decide) (by decide) (by decide) (by decide) (fun r159 S161 g160 pr159 qr159 hg160 => ?_)
                  obtain ⟨rfl, rfl, k162⟩ := pr159
                  refine X_st [] rfl ?_
                  exact hret _ _ _ _ _ _ dX7_readLine_160 ⟨rfl, rfl, ⟨Ft156, at156, ot156, qt156, ((hg160 a0 8 0 5 hs_a0 (by decide)).trans ((xs_k hg158 (by decide)).trans eFt156)), by omega, by omega, ((hg160 a0 8 0 2 hs_a0 (by decide)).trans ((xs_k hg158 (by decide)).trans eat156)), by omega, by omega, ((hg160 a0 8 0 3 hs_a0 (by decide)).trans ((xs_k hg158 (by decide)).trans eot156)), by omega, by omega, ((hg160 a0 8 0 6 hs_a0 (by decide)).trans ((xs_k hg158 (by decide)).trans eqt156)), by omega, by omega, ⟨(if nl < 16 then nl + 1 else nl), 1, k162, by omega, by omega, ((hg160 a0 8 0 4 hs_a0 (by decide)).trans (xs_s hg158)), by omega, by omega, (Or.inr (Or.inr ⟨by rw [← k5]; omega, by rw [← k5]; omega, (Or.inr (Or.inr ⟨at98, (by have h9 := kt98; have h8 := k5; unfold xLb; omega), Ft150, at150, ot150, qt150, (Or.inl ⟨by rw [← k5]; omega, by rw [← k124]; omega, xRR.rs (by have h9 := kt150; rw [show ot98 = no by omega] at h9; exact h9)⟩), (by obtain ⟨h8, h7⟩ := kt156; rcases h8 with ⟨c1, c2, c3, c4⟩ | ⟨c1, c2, c3⟩; (exact Or.inr (Or.inr ⟨by omega, c1, by omega, by omega, by omega, by rw [if_pos (by omega)], (by have h6 := k5; rw [← h6]; first | (rw [if_pos (by omega)] <;> omega) | (rw [if_neg (by omega)] <;> omega))⟩)); (have c4 := c3.resolve_left (fun q9 => by omega); exact Or.inr (Or.inl ⟨by omega, c1, c4.2.1, c4.2.2⟩)))⟩))⟩))⟩⟩⟩ (Nat.le_refl _) (Nat.le_refl _)
                · refine X_iloadn hK (i := 2) 2 dX7_readLine_139 rfl rfl ?_
                  refine X_iconst hK dX7_readLine_140 ?_
                  refine X_icmp_ne hK 148 (by omega) (by omega) dX7_readLine_141 (by decide) (fun c163 => ?_) (fun c163 => False.elim (by omega))
                  refine X_iconst hK dX7_readLine_148 ?_
                  refine X_putz hK fl_X7_25_8 hs_a0 (by decide) sl_8_4 (by omega) (by omega) dX7_readLine_149 (fun g164 hg164 => ?_)
                  refine X_aloadn hK (i := 1) 4 dX7_readLine_152 rfl rfl ?_
                  refine X_iloadn hK (i := 2) 2 dX7_readLine_153 rfl rfl ?_
                  refine X_iloadn hK (i := 3) 1 dX7_readLine_154 rfl rfl ?_
                  refine X_iload hK (i := 4) 0 dX7_readLine_155 rfl ?_
                  refine X_callV hK [.int (iI z4), .int (iI z96), .int (iI z99)] [] lk_X7_122 (c3_addLine _ _ _ _ _ S g164 a1 z4 z96 z99 nl hs_a1 (by omega) (by omega) (by omega) (by omega) ((xs_k hg164 (by decide)).trans ((hg153 a1 11 0 1 hs_a1 (by decide)).trans ((hg147 a1 11 0 1 hs_a1 (by decide)).trans ((xs_k hg145 (by decide)).trans ((hg94 a1 11 0 1 hs_a1 (by decide)).trans ((xs_k hg15 (by decide)).trans enl))))))) hs_a1 ⟨by decide, rfl⟩ dX7_readLine_157 rfl rfl (by simp [Value.category]) (by decide) (by decide) (by decide) (by decide) (fun r165 S167 g166 pr165 qr165 hg166 => ?_)
                  obtain ⟨rfl, rfl, k168⟩ := pr165
                  refine X_st [] rfl ?_
                  exact hret _ _ _ _ _ _ dX7_readLine_160 ⟨rfl, rfl, ⟨Ft156, at156, ot156, qt156, ((hg166 a0 8 0 5 hs_a0 (by decide)).trans ((xs_k hg164 (by decide)).trans eFt156)), by omega, by omega, ((hg166 a0 8 0 2 hs_a0 (by decide)).trans ((xs_k hg164 (by decide)).trans eat156)), by omega, by omega, ((hg166 a0 8 0 3 hs_a0 (by decide)).trans ((xs_k hg164 (by decide)).trans eot156)), by omega, by omega, ((hg166 a0 8 0 6 hs_a0 (by decide)).trans ((xs_k hg164 (by decide)).trans eqt156)), by omega, by omega, ⟨(if nl < 16 then nl + 1 else nl), 0, k168, by omega, by omega, ((hg166 a0 8 0 4 hs_a0 (by decide)).trans (xs_s hg164)), by omega, by omega, (Or.inr (Or.inr ⟨by rw [← k5]; omega, by rw [← k5]; omega, (Or.inr (Or.inr ⟨at98, (by have h9 := kt98; have h8 := k5; unfold xLb; omega), Ft150, at150, ot150, qt150, (Or.inl ⟨by rw [← k5]; omega, by rw [← k124]; omega, xRR.rs (by have h9 := kt150; rw [show ot98 = no by omega] at h9; exact h9)⟩), (by obtain ⟨h8, h7⟩ := kt156; rcases h8 with ⟨c1, c2, c3, c4⟩ | ⟨c1, c2, c3⟩; (exact Or.inr (Or.inr ⟨by omega, c1, by omega, by omega, by omega, by rw [if_pos (by omega)], (by have h6 := k5; rw [← h6]; first | (rw [if_pos (by omega)] <;> omega) | (rw [if_neg (by omega)] <;> omega))⟩)); (have c4 := c3.resolve_left (fun q9 => by omega); exact Or.inr (Or.inl ⟨by omega, c1, c4.2.1, c4.2.2⟩)))⟩))⟩))⟩⟩⟩ (Nat.le_refl _) (Nat.le_refl _)
      · refine X_aloadn hK (i := 0) 1 dX7_readLine_33 rfl rfl ?_
        refine X_getK hK fl_X7_25_8 hs_a0 eow dX7_readLine_34 ?_
        refine X_if_eq hK 48 (by omega) dX7_readLine_37 (by decide) (fun c169 => ?_) (fun c169 => ?_)
        · refine X_aloadn hK (i := 0) 1 dX7_readLine_48 rfl rfl ?_
          refine X_dup hK dX7_readLine_49 rfl ?_
          have hl170 := xTB.lt (a := na) (show xTB (xv g wt) (xv g wp) tk tl cn from hp0) (by omega) (by rw [← k5]; omega)
          refine X_getK hK fl_X7_18_8 hs_a0 ena dX7_readLine_50 ?_
          refine X_iconst hK dX7_readLine_53 ?_
          refine X_iadd hK dX7_readLine_54 ?_
          refine X_puti hK fl_X7_18_8 hs_a0 (by decide) sl_8_2 (by omega) (by omega) dX7_readLine_55 (fun g171 hg171 => ?_)
          refine X_iloadn hK (i := 2) 0 dX7_readLine_58 rfl rfl ?_
          refine X_iconst hK dX7_readLine_59 ?_
          refine X_icmp_ne hK 70 (by omega) (by omega) dX7_readLine_60 (by decide) (fun c172 => ?_) (fun c172 => False.elim (by omega))
          refine X_aloadn hK (i := 0) 1 dX7_readLine_70 rfl rfl ?_
          refine X_callV hK [] [] lk_X7_112 (c3_readNumber _ _ _ _ _ S g171 a0 (na + 1) no nf nq wt wp tk tl cn hs_a0 (by omega) (xs_s hg171) (by omega) ((xs_k hg171 (by decide)).trans eno) (by omega) ((xs_k hg171 (by decide)).trans enf) (by omega) ((xs_k hg171 (by decide)).trans enq) ((xs_k hg171 (by decide)).trans ewt) hs_wt ((xs_k hg171 (by decide)).trans ewp) hs_wp (by rw [(xv_a hg171 (xne hs_wt hs_a0 (by decide))), (xv_a hg171 (xne hs_wp hs_a0 (by decide)))]; exact hp0) (by omega) (by omega)) hs_a0 ⟨by decide, rfl⟩ dX7_readLine_71 rfl rfl (by simp [Value.category]) (by decide) (by decide) (by decide) (by decide) (fun r173 S175 g174 pr173 qr173 hg174 => ?_)
          obtain ⟨rfl, z176, rfl, lz176, uz176, k177⟩ := pr173
          refine X_st [.int (iI z176)] rfl ?_
          obtain ⟨Ft178, at178, ot178, qt178, eFt178, lFt178, uFt178, eat178, lat178, uat178, eot178, lot178, uot178, eqt178, lqt178, uqt178, kt178⟩ := k177
          have cat178 : at178 ≤ 300 := by have h9 := (show xTB (xv g174 wt) (xv g174 wp) tk tl cn from (by rw [(Eq.trans (xv_m hg174 hs_wt (by decide) (by decide)) (xv_a hg171 (xne hs_wt hs_a0 (by decide)))), (Eq.trans (xv_m hg174 hs_wp (by decide) (by decide)) (xv_a hg171 (xne hs_wp hs_a0 (by decide))))]; exact hp0)).2.2.2; omega
          refine X_istoren hK (i := 3) [(3, .int (iI z176)), (2, .int (iI z4)), (0, .ref a0), (1, .ref a1)] dX7_readLine_74 rfl (by decide) rfl ?_
          refine X_aloadn hK (i := 1) 3 dX7_readLine_75 rfl rfl ?_
          refine X_geti hK fl_X7_44_11 hs_a1 sl_11_2 dX7_readLine_76 (fun z179 ez179 lz179 uz179 => ?_)
          refine X_istore hK (i := 4) [(4, .int (iI z179)), (3, .int (iI z176)), (2, .int (iI z4)), (0, .ref a0), (1, .ref a1)] dX7_readLine_79 (by decide) rfl ?_
          refine X_aloadn hK (i := 0) 3 dX7_readLine_81 rfl rfl ?_
          refine X_getK hK fl_X7_29_8 hs_a0 eFt178 dX7_readLine_82 ?_
          refine X_if_ne hK 118 (by omega) dX7_readLine_85 (by decide) (fun c180 => ?_) (fun c180 => ?_)
          · refine X_aloadn hK (i := 0) 3 dX7_readLine_118 rfl rfl ?_
            refine X_getK hK fl_X7_29_8 hs_a0 eFt178 dX7_readLine_119 ?_
            refine X_if_ne hK 160 (by omega) dX7_readLine_122 (by decide) (fun c181 => ?_) (fun c181 => ?_)
            · exact hret _ _ _ _ _ _ dX7_readLine_160 ⟨rfl, rfl, ⟨Ft178, at178, ot178, qt178, eFt178, by omega, by omega, eat178, by omega, by omega, eot178, by omega, by omega, eqt178, by omega, by omega, ⟨nl, ow, ((hg174 a1 11 0 1 hs_a1 (by decide)).trans ((xs_k hg171 (by decide)).trans enl)), by omega, by omega, ((hg174 a0 8 0 4 hs_a0 (by decide)).trans ((xs_k hg171 (by decide)).trans eow)), by omega, by omega, (Or.inr (Or.inr ⟨by rw [← k5]; omega, by rw [← k5]; omega, (by obtain ⟨h8, h7, h6⟩ := kt178; rcases h6 with ⟨c1, c2, c3, c4⟩ | ⟨c1, c2, c3, c4⟩ | ⟨c1, c2, c3, c4, c5⟩; exact Or.inl ⟨by rw [← k5]; omega, by omega, c3, c4⟩; exact Or.inr (Or.inl ⟨by rw [← k5]; omega, by omega, c3, c4⟩); exact absurd c4 (by omega))⟩))⟩⟩⟩ (Nat.le_refl _) (Nat.le_refl _)
            · refine X_aloadn hK (i := 0) 3 dX7_readLine_125 rfl rfl ?_
              refine X_bipush hK dX7_readLine_126 (by decide) ?_
              refine X_callV hK [.int (iI 24)] [] lk_X7_119 (c3_expect _ _ _ _ _ S g174 a0 24 at178 ot178 Ft178 qt178 wt wp tk tl cn hs_a0 (by omega) (by omega) eat178 (by omega) eot178 (by omega) eFt178 (by omega) eqt178 ((hg174 a0 8 0 0 hs_a0 (by decide)).trans ((xs_k hg171 (by decide)).trans ewt)) hs_wt ((hg174 a0 8 0 1 hs_a0 (by decide)).trans ((xs_k hg171 (by decide)).trans ewp)) hs_wp (by rw [(Eq.trans (xv_m hg174 hs_wt (by decide) (by decide)) (xv_a hg171 (xne hs_wt hs_a0 (by decide)))), (Eq.trans (xv_m hg174 hs_wp (by decide) (by decide)) (xv_a hg171 (xne hs_wp hs_a0 (by decide))))]; exact hp0) (by omega) (by omega)) hs_a0 ⟨by decide, rfl⟩ dX7_readLine_128 rfl rfl (by simp [Value.category]) (by decide) (by decide) (by decide) (by decide) (fun r182 S184 g183 pr182 qr182 hg183 => ?_)
              obtain ⟨rfl, rfl, k185⟩ := pr182
              refine X_st [] rfl ?_
              obtain ⟨Ft186, at186, ot186, qt186, eFt186, lFt186, uFt186, eat186, lat186, uat186, eot186, lot186, uot186, eqt186, lqt186, uqt186, kt186⟩ := k185
              have cat186 : at186 ≤ 300 := by have h9 := (show xTB (xv g183 wt) (xv g183 wp) tk tl cn from (by rw [(Eq.trans (Eq.trans (xv_m hg183 hs_wt (by decide) (by decide)) (xv_m hg174 hs_wt (by decide) (by decide))) (xv_a hg171 (xne hs_wt hs_a0 (by decide)))), (Eq.trans (Eq.trans (xv_m hg183 hs_wp (by decide) (by decide)) (xv_m hg174 hs_wp (by decide) (by decide))) (xv_a hg171 (xne hs_wp hs_a0 (by decide))))]; exact hp0)).2.2.2; omega
              refine X_aloadn hK (i := 0) 3 dX7_readLine_131 rfl rfl ?_
              refine X_aloadn hK (i := 0) 3 dX7_readLine_132 rfl rfl ?_
              refine X_getK hK fl_X7_25_8 hs_a0 ((hg183 a0 8 0 4 hs_a0 (by decide)).trans ((hg174 a0 8 0 4 hs_a0 (by decide)).trans ((xs_k hg171 (by decide)).trans eow))) dX7_readLine_133 ?_
              refine X_if_ne hK 144 (by omega) dX7_readLine_136 (by decide) (fun c187 => False.elim (by omega)) (fun c187 => ?_)
              refine X_iloadn hK (i := 2) 2 dX7_readLine_139 rfl rfl ?_
              refine X_iconst hK dX7_readLine_140 ?_
              refine X_icmp_ne hK 148 (by omega) (by omega) dX7_readLine_141 (by decide) (fun c188 => False.elim (by omega)) (fun c188 => ?_)
              refine X_iconst hK dX7_readLine_144 ?_
              refine X_goto hK 149 dX7_readLine_145 (by decide) ?_
              refine X_putz hK fl_X7_25_8 hs_a0 (by decide) sl_8_4 (by omega) (by omega) dX7_readLine_149 (fun g189 hg189 => ?_)
              refine X_aloadn hK (i := 1) 4 dX7_readLine_152 rfl rfl ?_
              refine X_iloadn hK (i := 2) 2 dX7_readLine_153 rfl rfl ?_
              refine X_iloadn hK (i := 3) 1 dX7_readLine_154 rfl rfl ?_
              refine X_iload hK (i := 4) 0 dX7_readLine_155 rfl ?_
              refine X_callV hK [.int (iI z4), .int (iI z176), .int (iI z179)] [] lk_X7_122 (c3_addLine _ _ _ _ _ S g189 a1 z4 z176 z179 nl hs_a1 (by omega) (by omega) (by omega) (by omega) ((xs_k hg189 (by decide)).trans ((hg183 a1 11 0 1 hs_a1 (by decide)).trans ((hg174 a1 11 0 1 hs_a1 (by decide)).trans ((xs_k hg171 (by decide)).trans enl))))) hs_a1 ⟨by decide, rfl⟩ dX7_readLine_157 rfl rfl (by simp [Value.category]) (by decide) (by decide) (by decide) (by decide) (fun r190 S192 g191 pr190 qr190 hg191 => ?_)
              obtain ⟨rfl, rfl, k193⟩ := pr190
              refine X_st [] rfl ?_
              exact hret _ _ _ _ _ _ dX7_readLine_160 ⟨rfl, rfl, ⟨Ft186, at186, ot186, qt186, ((hg191 a0 8 0 5 hs_a0 (by decide)).trans ((xs_k hg189 (by decide)).trans eFt186)), by omega, by omega, ((hg191 a0 8 0 2 hs_a0 (by decide)).trans ((xs_k hg189 (by decide)).trans eat186)), by omega, by omega, ((hg191 a0 8 0 3 hs_a0 (by decide)).trans ((xs_k hg189 (by decide)).trans eot186)), by omega, by omega, ((hg191 a0 8 0 6 hs_a0 (by decide)).trans ((xs_k hg189 (by decide)).trans eqt186)), by omega, by omega, ⟨(if nl < 16 then nl + 1 else nl), 1, k193, by omega, by omega, ((hg191 a0 8 0 4 hs_a0 (by decide)).trans (xs_s hg189)), by omega, by omega, (Or.inr (Or.inr ⟨by rw [← k5]; omega, by rw [← k5]; omega, (Or.inr (Or.inr ⟨at178, (by have h9 := kt178; have h8 := k5; unfold xLb; omega), 0, at178, no, 0, (Or.inr ⟨(fun q9 => by have h9 := q9.1; rw [← k5] at h9; omega), rfl, rfl, rfl⟩), (by obtain ⟨h8, h7⟩ := kt186; rcases h8 with ⟨c1, c2, c3, c4⟩ | ⟨c1, c2, c3⟩; (exact Or.inr (Or.inr ⟨by omega, c1, by omega, by omega, by omega, by rw [if_pos (by omega)], (by have h6 := k5; rw [← h6]; first | (rw [if_pos (by omega)] <;> omega) | (rw [if_neg (by omega)] <;> omega))⟩)); (have c4 := c3.resolve_left (fun q9 => by omega); exact Or.inr (Or.inl ⟨by omega, c1, c4.2.1, c4.2.2⟩)))⟩))⟩))⟩⟩⟩ (Nat.le_refl _) (Nat.le_refl _)
          · refine X_iloadn hK (i := 2) 2 dX7_readLine_88 rfl rfl ?_
            refine X_iconst hK dX7_readLine_89 ?_
            refine X_icmp_eq hK 118 (by omega) (by omega) dX7_readLine_90 (by decide) (fun c194 => ?_) (fun c194 => False.elim (by omega))
            refine X_aloadn hK (i := 0) 3 dX7_readLine_118 rfl rfl ?_
            refine X_getK hK fl_X7_29_8 hs_a0 eFt178 dX7_readLine_119 ?_
            refine X_if_ne hK 160 (by omega) dX7_readLine_122 (by decide) (fun c195 => False.elim (by omega)) (fun c195 => ?_)
            refine X_aloadn hK (i := 0) 3 dX7_readLine_125 rfl rfl ?_
            refine X_bipush hK dX7_readLine_126 (by decide) ?_
            refine X_callV hK [.int (iI 24)] [] lk_X7_119 (c3_expect _ _ _ _ _ S g174 a0 24 at178 ot178 Ft178 qt178 wt wp tk tl cn hs_a0 (by omega) (by omega) eat178 (by omega) eot178 (by omega) eFt178 (by omega) eqt178 ((hg174 a0 8 0 0 hs_a0 (by decide)).trans ((xs_k hg171 (by decide)).trans ewt)) hs_wt ((hg174 a0 8 0 1 hs_a0 (by decide)).trans ((xs_k hg171 (by decide)).trans ewp)) hs_wp (by rw [(Eq.trans (xv_m hg174 hs_wt (by decide) (by decide)) (xv_a hg171 (xne hs_wt hs_a0 (by decide)))), (Eq.trans (xv_m hg174 hs_wp (by decide) (by decide)) (xv_a hg171 (xne hs_wp hs_a0 (by decide))))]; exact hp0) (by omega) (by omega)) hs_a0 ⟨by decide, rfl⟩ dX7_readLine_128 rfl rfl (by simp [Value.category]) (by decide) (by decide) (by decide) (by decide) (fun r196 S198 g197 pr196 qr196 hg197 => ?_)
            obtain ⟨rfl, rfl, k199⟩ := pr196
            refine X_st [] rfl ?_
            obtain ⟨Ft200, at200, ot200, qt200, eFt200, lFt200, uFt200, eat200, lat200, uat200, eot200, lot200, uot200, eqt200, lqt200, uqt200, kt200⟩ := k199
            have cat200 : at200 ≤ 300 := by have h9 := (show xTB (xv g197 wt) (xv g197 wp) tk tl cn from (by rw [(Eq.trans (Eq.trans (xv_m hg197 hs_wt (by decide) (by decide)) (xv_m hg174 hs_wt (by decide) (by decide))) (xv_a hg171 (xne hs_wt hs_a0 (by decide)))), (Eq.trans (Eq.trans (xv_m hg197 hs_wp (by decide) (by decide)) (xv_m hg174 hs_wp (by decide) (by decide))) (xv_a hg171 (xne hs_wp hs_a0 (by decide))))]; exact hp0)).2.2.2; omega
            refine X_aloadn hK (i := 0) 3 dX7_readLine_131 rfl rfl ?_
            refine X_aloadn hK (i := 0) 3 dX7_readLine_132 rfl rfl ?_
            refine X_getK hK fl_X7_25_8 hs_a0 ((hg197 a0 8 0 4 hs_a0 (by decide)).trans ((hg174 a0 8 0 4 hs_a0 (by decide)).trans ((xs_k hg171 (by decide)).trans eow))) dX7_readLine_133 ?_
            refine X_if_ne hK 144 (by omega) dX7_readLine_136 (by decide) (fun c201 => False.elim (by omega)) (fun c201 => ?_)
            refine X_iloadn hK (i := 2) 2 dX7_readLine_139 rfl rfl ?_
            refine X_iconst hK dX7_readLine_140 ?_
            refine X_icmp_ne hK 148 (by omega) (by omega) dX7_readLine_141 (by decide) (fun c202 => False.elim (by omega)) (fun c202 => ?_)
            refine X_iconst hK dX7_readLine_144 ?_
            refine X_goto hK 149 dX7_readLine_145 (by decide) ?_
            refine X_putz hK fl_X7_25_8 hs_a0 (by decide) sl_8_4 (by omega) (by omega) dX7_readLine_149 (fun g203 hg203 => ?_)
            refine X_aloadn hK (i := 1) 4 dX7_readLine_152 rfl rfl ?_
            refine X_iloadn hK (i := 2) 2 dX7_readLine_153 rfl rfl ?_
            refine X_iloadn hK (i := 3) 1 dX7_readLine_154 rfl rfl ?_
            refine X_iload hK (i := 4) 0 dX7_readLine_155 rfl ?_
            refine X_callV hK [.int (iI z4), .int (iI z176), .int (iI z179)] [] lk_X7_122 (c3_addLine _ _ _ _ _ S g203 a1 z4 z176 z179 nl hs_a1 (by omega) (by omega) (by omega) (by omega) ((xs_k hg203 (by decide)).trans ((hg197 a1 11 0 1 hs_a1 (by decide)).trans ((hg174 a1 11 0 1 hs_a1 (by decide)).trans ((xs_k hg171 (by decide)).trans enl))))) hs_a1 ⟨by decide, rfl⟩ dX7_readLine_157 rfl rfl (by simp [Value.category]) (by decide) (by decide) (by decide) (by decide) (fun r204 S206 g205 pr204 qr204 hg205 => ?_)
            obtain ⟨rfl, rfl, k207⟩ := pr204
            refine X_st [] rfl ?_
            exact hret _ _ _ _ _ _ dX7_readLine_160 ⟨rfl, rfl, ⟨Ft200, at200, ot200, qt200, ((hg205 a0 8 0 5 hs_a0 (by decide)).trans ((xs_k hg203 (by decide)).trans eFt200)), by omega, by omega, ((hg205 a0 8 0 2 hs_a0 (by decide)).trans ((xs_k hg203 (by decide)).trans eat200)), by omega, by omega, ((hg205 a0 8 0 3 hs_a0 (by decide)).trans ((xs_k hg203 (by decide)).trans eot200)), by omega, by omega, ((hg205 a0 8 0 6 hs_a0 (by decide)).trans ((xs_k hg203 (by decide)).trans eqt200)), by omega, by omega, ⟨(if nl < 16 then nl + 1 else nl), 1, k207, by omega, by omega, ((hg205 a0 8 0 4 hs_a0 (by decide)).trans (xs_s hg203)), by omega, by omega, (Or.inr (Or.inr ⟨by rw [← k5]; omega, by rw [← k5]; omega, (Or.inr (Or.inr ⟨at178, (by have h9 := kt178; have h8 := k5; unfold xLb; omega), 0, at178, no, 0, (Or.inr ⟨(fun q9 => by have h9 := q9.1; rw [← k5] at h9; omega), rfl, rfl, rfl⟩), (by obtain ⟨h8, h7⟩ := kt200; rcases h8 with ⟨c1, c2, c3, c4⟩ | ⟨c1, c2, c3⟩; (exact Or.inr (Or.inr ⟨by omega, c1, by omega, by omega, by omega, by rw [if_pos (by omega)], (by have h6 := k5; rw [← h6]; first | (rw [if_pos (by omega)] <;> omega) | (rw [if_neg (by omega)] <;> omega))⟩)); (have c4 := c3.resolve_left (fun q9 => by omega); exact Or.inr (Or.inl ⟨by omega, c1, c4.2.1, c4.2.2⟩)))⟩))⟩))⟩⟩⟩ (Nat.le_refl _) (Nat.le_refl _)
        · refine X_aloadn hK (i := 0) 1 dX7_readLine_40 rfl rfl ?_
          refine X_iconst hK dX7_readLine_41 ?_
          refine X_callV hK [.int (iI 3)] [] lk_X7_60 (c3_tell _ _ _ _ _ S g a0 3 na no nf nq wt wp tk tl cn hs_a0 (by omega) (by omega) ena (by omega) eno (by omega) enf (by omega) enq ewt hs_wt ewp hs_wp hp0 (by omega) (by omega)) hs_a0 ⟨by decide, rfl⟩ dX7_readLine_42 rfl rfl (by simp [Value.category]) (by decide) (by decide) (by decide) (by decide) (fun r208 S210 g209 pr208 qr208 hg209 => ?_)
          obtain ⟨rfl, rfl, k211⟩ := pr208
          refine X_st [] rfl ?_
          obtain ⟨Ft212, at212, ot212, qt212, eFt212, lFt212, uFt212, eat212, lat212, uat212, eot212, lot212, uot212, eqt212, lqt212, uqt212, kt212⟩ := k211
          have cat212 : at212 ≤ 300 := by have h9 := (show xTB (xv g209 wt) (xv g209 wp) tk tl cn from (by rw [(xv_m hg209 hs_wt (by decide) (by decide)), (xv_m hg209 hs_wp (by decide) (by decide))]; exact hp0)).2.2.2; omega
          refine X_goto hK 160 dX7_readLine_45 (by decide) ?_
          exact hret _ _ _ _ _ _ dX7_readLine_160 ⟨rfl, rfl, ⟨Ft212, at212, ot212, qt212, eFt212, by omega, by omega, eat212, by omega, by omega, eot212, by omega, by omega, eqt212, by omega, by omega, ⟨nl, ow, ((hg209 a1 11 0 1 hs_a1 (by decide)).trans enl), by omega, by omega, ((hg209 a0 8 0 4 hs_a0 (by decide)).trans eow), by omega, by omega, (by obtain ⟨h8, h7, h6⟩ := kt212; have h5 := h8.resolve_left (fun q9 => by omega); exact Or.inr (Or.inl ⟨by rw [← k5]; omega, by rw [← k5]; omega, h5.2.1, h5.2.2⟩))⟩⟩⟩ (Nat.le_refl _) (Nat.le_refl _)
  · refine X_aloadn hK (i := 0) 1 dX7_readLine_11 rfl rfl ?_
    refine X_iconst hK dX7_readLine_12 ?_
    refine X_callV hK [.int (iI 1)] [] lk_X7_60 (c3_tell _ _ _ _ _ S g a0 1 na no nf nq wt wp tk tl cn hs_a0 (by omega) (by omega) ena (by omega) eno (by omega) enf (by omega) enq ewt hs_wt ewp hs_wp hp0 (by omega) (by omega)) hs_a0 ⟨by decide, rfl⟩ dX7_readLine_13 rfl rfl (by simp [Value.category]) (by decide) (by decide) (by decide) (by decide) (fun r213 S215 g214 pr213 qr213 hg214 => ?_)
    obtain ⟨rfl, rfl, k216⟩ := pr213
    refine X_st [] rfl ?_
    obtain ⟨Ft217, at217, ot217, qt217, eFt217, lFt217, uFt217, eat217, lat217, uat217, eot217, lot217, uot217, eqt217, lqt217, uqt217, kt217⟩ := k216
    have cat217 : at217 ≤ 300 := by have h9 := (show xTB (xv g214 wt) (xv g214 wp) tk tl cn from (by rw [(xv_m hg214 hs_wt (by decide) (by decide)), (xv_m hg214 hs_wp (by decide) (by decide))]; exact hp0)).2.2.2; omega
    refine X_goto hK 160 dX7_readLine_16 (by decide) ?_
    exact hret _ _ _ _ _ _ dX7_readLine_160 ⟨rfl, rfl, ⟨Ft217, at217, ot217, qt217, eFt217, by omega, by omega, eat217, by omega, by omega, eot217, by omega, by omega, eqt217, by omega, by omega, ⟨nl, ow, ((hg214 a1 11 0 1 hs_a1 (by decide)).trans enl), by omega, by omega, ((hg214 a0 8 0 4 hs_a0 (by decide)).trans eow), by omega, by omega, (by obtain ⟨h8, h7, h6⟩ := kt217; have h5 := h8.resolve_left (fun q9 => by omega); exact Or.inl ⟨by rw [← k5]; omega, h5.2.1, h5.2.2⟩)⟩⟩⟩ (Nat.le_refl _) (Nat.le_refl _)

set_option maxHeartbeats 4000000 in
set_option maxRecDepth 100000 in
theorem c3_read (l : Launch) (D : va_G) (kA : Nat → ClassId) (b0 : Nat) (t0 : Nat → Nat) (S : xT) (g : xG) (a0 : Nat) (a1 : Nat) (a2 : Nat) (wt : Nat) (wp : Nat) (fb : Nat) (tn : Int) (hs_a0 : S a0 = some (8, 0)) (hs_a1 : S a1 = some (10, 0)) (hs_a2 : S a2 = some (11, 0)) (ewt : g a0 0 = .ref wt) (hs_wt : S wt = some (12900, 301)) (ewp : g a0 1 = .ref wp) (hs_wp : S wp = some (13000, 301)) (efb : g a1 0 = .ref fb) (hs_fb : S fb = some (13500, 420)) (htn : 0 ≤ tn ∧ tn ≤ 420) (etn : g a1 1 = .int (iI tn)) : xMt l yX7_read cX7_read 4 none 35 0 0 815 D kA b0 t0 [(12900, 0), (13000, 0), (8, 2), (8, 3), (8, 4), (8, 5), (8, 6), (11, 1), (11, 2), (13600, 0), (13700, 0), (13800, 0), (13900, 0), (14000, 0)] [.ref a0, .ref a1, .ref a2] S g (fun (r : Option Value) (S1 : xT) (g1 : xG) => S = S1 ∧ r = none ∧ (∃ F m q : Int, g1 a0 5 = .int (iI F) ∧ -2147483648 ≤ F ∧ F ≤ 2147483647 ∧ g1 a2 1 = .int (iI m) ∧ 0 ≤ m ∧ m ≤ 16 ∧ g1 a0 6 = .int (iI q) ∧ 0 ≤ q ∧ q ≤ 300 ∧ xTX (xv g fb) tn F m q)) := by
  refine xEnterV (by decide) (by simp [lg_sl, Value.category]) [(0, .ref a0), (1, .ref a1), (2, .ref a2)] rfl ?_
  intro K E hK hret _ _ _
  refine X_aloadn hK (i := 0) 0 dX7_read_0 rfl rfl ?_
  refine X_aloadn hK (i := 1) 1 dX7_read_1 rfl rfl ?_
  refine X_callV hK [.ref a1] [] lk_X7_35 (c3_scan _ _ _ _ _ S g a0 a1 wt wp fb tn hs_a0 hs_a1 ewt hs_wt ewp hs_wp efb hs_fb (by omega) etn) hs_a0 ⟨by decide, rfl⟩ dX7_read_2 rfl rfl (by simp [Value.category]) (by decide) (by decide) (by decide) (by decide) (fun r1 S3 g2 pr1 qr1 hg2 => ?_)
  obtain ⟨rfl, rfl, k4⟩ := pr1
  refine X_st [] rfl ?_
  obtain ⟨c9, hc1, hc2, hc3, hc4⟩ := k4
  have htb := xTA.tb hc4 ⟨hc1, hc2⟩ hc3
  refine X_aloadn hK (i := 0) 0 dX7_read_5 rfl rfl ?_
  refine X_iconst hK dX7_read_6 ?_
  refine X_puti hK fl_X7_18_8 hs_a0 (by decide) sl_8_2 (by omega) (by omega) dX7_read_7 (fun g5 hg5 => ?_)
  refine X_aloadn hK (i := 0) 0 dX7_read_10 rfl rfl ?_
  refine X_iconst hK dX7_read_11 ?_
  refine X_puti hK fl_X7_22_8 hs_a0 (by decide) sl_8_3 (by omega) (by omega) dX7_read_12 (fun g6 hg6 => ?_)
  refine X_aloadn hK (i := 0) 0 dX7_read_15 rfl rfl ?_
  refine X_iconst hK dX7_read_16 ?_
  refine X_putz hK fl_X7_25_8 hs_a0 (by decide) sl_8_4 (by omega) (by omega) dX7_read_17 (fun g7 hg7 => ?_)
  refine X_aloadn hK (i := 0) 0 dX7_read_20 rfl rfl ?_
  refine X_iconst hK dX7_read_21 ?_
  refine X_puti hK fl_X7_29_8 hs_a0 (by decide) sl_8_5 (by omega) (by omega) dX7_read_22 (fun g8 hg8 => ?_)
  refine X_aloadn hK (i := 0) 0 dX7_read_25 rfl rfl ?_
  refine X_iconst hK dX7_read_26 ?_
  refine X_puti hK fl_X7_32_8 hs_a0 (by decide) sl_8_6 (by omega) (by omega) dX7_read_27 (fun g9 hg9 => ?_)
  refine X_aloadn hK (i := 2) 2 dX7_read_30 rfl rfl ?_
  refine X_iconst hK dX7_read_31 ?_
  refine X_puti hK fl_X7_39_11 hs_a2 (by decide) sl_11_1 (by omega) (by omega) dX7_read_32 (fun g10 hg10 => ?_)
  refine X_aloadn hK (i := 2) 2 dX7_read_35 rfl rfl ?_
  refine X_iconst hK dX7_read_36 ?_
  refine X_puti hK fl_X7_44_11 hs_a2 (by decide) sl_11_2 (by omega) (by omega) dX7_read_37 (fun g11 hg11 => ?_)
  refine X_iconst hK dX7_read_40 ?_
  refine X_istoren hK (i := 3) [(3, .int (iI 0)), (0, .ref a0), (1, .ref a1), (2, .ref a2)] dX7_read_41 rfl (by decide) rfl ?_
  have P206 : ∀ (nP206 : Nat) (g168 : xG) (_ : xM [(8, 5), (8, 6), (8, 2), (8, 4), (13600, 0), (13700, 0), (13800, 0), (13900, 0), (11, 1), (8, 3), (14000, 0), (11, 2)] S g11 g168) (z167 : Int) (_ : 0 ≤ z167) (_ : z167 ≤ 17) (q169 : Int) (_ : 0 ≤ q169) (_ : q169 ≤ 300) (_ : g168 a0 2 = .int (iI q169)) (q170 : Int) (_ : 0 ≤ q170) (_ : q170 ≤ 50) (_ : g168 a0 3 = .int (iI q170)) (q171 : Int) (_ : (-2147483648) ≤ q171) (_ : q171 ≤ 2147483647) (_ : g168 a0 5 = .int (iI q171)) (q172 : Int) (_ : 0 ≤ q172) (_ : q172 ≤ 300) (_ : g168 a0 6 = .int (iI q172)) (q173 : Int) (_ : 0 ≤ q173) (_ : q173 ≤ 1) (_ : g168 a0 4 = .int (iI q173)) (q174 : Int) (_ : 0 ≤ q174) (_ : q174 ≤ 16) (_ : g168 a2 1 = .int (iI q174)) (_ : xTi (xtk (xv g fb) tn) (xtl (xv g fb) tn) q171 q169 q170 q174 q173 q172) (_ : q171 = 0 → z167 = q174) (_ : q169 ≤ c9) (_ : 60 - z167 < (nP206 : Int)), X K E 42 [(3, .int (iI z167)), (0, .ref a0), (1, .ref a1), (2, .ref a2)] [] S g168 0 0 := by
    intro nP206
    induction nP206 with
    | zero => intro g168 hg168 z167 lz167 uz167 q169 lq169 uq169 eq169 q170 lq170 uq170 eq170 q171 lq171 uq171 eq171 q172 lq172 uq172 eq172 q173 lq173 uq173 eq173 q174 lq174 uq174 eq174 v207 v208 v209 mP206; exact False.elim (by omega)
    | succ nP206 ihP206 =>
      intro g168 hg168 z167 lz167 uz167 q169 lq169 uq169 eq169 q170 lq170 uq170 eq170 q171 lq171 uq171 eq171 q172 lq172 uq172 eq172 q173 lq173 uq173 eq173 q174 lq174 uq174 eq174 v207 v208 v209 mP206
      refine X_iloadn hK (i := 3) 0 dX7_read_42 rfl rfl ?_
      refine X_bipush hK dX7_read_43 (by decide) ?_
      refine X_icmp_gt hK 75 (by omega) (by omega) dX7_read_45 (by decide) (fun c210 => ?_) (fun c210 => ?_)
      · refine X_aloadn hK (i := 1) 2 dX7_read_75 rfl rfl ?_
        refine X_getK hK fl_X7_55_10 hs_a1 ((hg168 a1 10 0 1 hs_a1 (by decide)).trans ((xs_k hg11 (by decide)).trans ((xs_a hg10 (xne hs_a1 hs_a2 (by decide))).trans ((xs_k hg9 (by decide)).trans ((xs_k hg8 (by decide)).trans ((xs_k hg7 (by decide)).trans ((xs_k hg6 (by decide)).trans ((xs_k hg5 (by decide)).trans ((hg2 a1 10 0 1 hs_a1 (by decide)).trans etn))))))))) dX7_read_76 ?_
        refine X_sipush hK dX7_read_79 (by decide) ?_
        refine X_icmp_le hK 90 (by omega) (by omega) dX7_read_82 (by decide) (fun c211 => ?_) (fun c211 => ?_)
        · exact hret _ _ _ _ _ _ dX7_read_90 ⟨rfl, rfl, ⟨q171, q174, q172, eq171, by omega, by omega, eq174, by omega, by omega, eq172, by omega, by omega, _, _, (xTi.e v207 (fun h9 => False.elim (by have h8 := v208 h9; omega))), (Or.inl ⟨fun q9 => by omega, rfl, fun f9 => by rw [if_neg f9]⟩)⟩⟩ (Nat.le_refl _) (Nat.le_refl _)
        · refine X_aloadn hK (i := 0) 1 dX7_read_85 rfl rfl ?_
          refine X_iconst hK dX7_read_86 ?_
          refine X_callV hK [.int (iI 1)] [] lk_X7_60 (c3_tell _ _ _ _ _ S g168 a0 1 q169 q170 q171 q172 wt wp (xtk (xv g fb) tn) (xtl (xv g fb) tn) c9 hs_a0 (by omega) (by omega) eq169 (by omega) eq170 (by omega) eq171 (by omega) eq172 ((hg168 a0 8 0 0 hs_a0 (by decide)).trans ((xs_k hg11 (by decide)).trans ((xs_k hg10 (by decide)).trans ((xs_k hg9 (by decide)).trans ((xs_k hg8 (by decide)).trans ((xs_k hg7 (by decide)).trans ((xs_k hg6 (by decide)).trans ((xs_k hg5 (by decide)).trans ((hg2 a0 8 0 0 hs_a0 (by decide)).trans ewt))))))))) hs_wt ((hg168 a0 8 0 1 hs_a0 (by decide)).trans ((xs_k hg11 (by decide)).trans ((xs_a hg10 (xne hs_a0 hs_a2 (by decide))).trans ((xs_k hg9 (by decide)).trans ((xs_k hg8 (by decide)).trans ((xs_k hg7 (by decide)).trans ((xs_k hg6 (by decide)).trans ((xs_k hg5 (by decide)).trans ((hg2 a0 8 0 1 hs_a0 (by decide)).trans ewp))))))))) hs_wp (by rw [(Eq.trans (Eq.trans (Eq.trans (Eq.trans (Eq.trans (Eq.trans (Eq.trans (xv_m hg168 hs_wt (by decide) (by decide)) (xv_a hg11 (xne hs_wt hs_a2 (by decide)))) (xv_a hg10 (xne hs_wt hs_a2 (by decide)))) (xv_a hg9 (xne hs_wt hs_a0 (by decide)))) (xv_a hg8 (xne hs_wt hs_a0 (by decide)))) (xv_a hg7 (xne hs_wt hs_a0 (by decide)))) (xv_a hg6 (xne hs_wt hs_a0 (by decide)))) (xv_a hg5 (xne hs_wt hs_a0 (by decide)))), (Eq.trans (Eq.trans (Eq.trans (Eq.trans (Eq.trans (Eq.trans (Eq.trans (xv_m hg168 hs_wp (by decide) (by decide)) (xv_a hg11 (xne hs_wp hs_a2 (by decide)))) (xv_a hg10 (xne hs_wp hs_a2 (by decide)))) (xv_a hg9 (xne hs_wp hs_a0 (by decide)))) (xv_a hg8 (xne hs_wp hs_a0 (by decide)))) (xv_a hg7 (xne hs_wp hs_a0 (by decide)))) (xv_a hg6 (xne hs_wp hs_a0 (by decide)))) (xv_a hg5 (xne hs_wp hs_a0 (by decide))))]; exact htb) (by omega) (by omega)) hs_a0 ⟨by decide, rfl⟩ dX7_read_87 rfl rfl (by simp [Value.category]) (by decide) (by decide) (by decide) (by decide) (fun r212 S214 g213 pr212 qr212 hg213 => ?_)
          obtain ⟨rfl, rfl, k215⟩ := pr212
          refine X_st [] rfl ?_
          obtain ⟨Ft216, at216, ot216, qt216, eFt216, lFt216, uFt216, eat216, lat216, uat216, eot216, lot216, uot216, eqt216, lqt216, uqt216, kt216⟩ := k215
          have cat216 : at216 ≤ 300 := by have h9 := (show xTB (xv g213 wt) (xv g213 wp) (xtk (xv g fb) tn) (xtl (xv g fb) tn) c9 from (by rw [(Eq.trans (Eq.trans (Eq.trans (Eq.trans (Eq.trans (Eq.trans (Eq.trans (Eq.trans (xv_m hg213 hs_wt (by decide) (by decide)) (xv_m hg168 hs_wt (by decide) (by decide))) (xv_a hg11 (xne hs_wt hs_a2 (by decide)))) (xv_a hg10 (xne hs_wt hs_a2 (by decide)))) (xv_a hg9 (xne hs_wt hs_a0 (by decide)))) (xv_a hg8 (xne hs_wt hs_a0 (by decide)))) (xv_a hg7 (xne hs_wt hs_a0 (by decide)))) (xv_a hg6 (xne hs_wt hs_a0 (by decide)))) (xv_a hg5 (xne hs_wt hs_a0 (by decide)))), (Eq.trans (Eq.trans (Eq.trans (Eq.trans (Eq.trans (Eq.trans (Eq.trans (Eq.trans (xv_m hg213 hs_wp (by decide) (by decide)) (xv_m hg168 hs_wp (by decide) (by decide))) (xv_a hg11 (xne hs_wp hs_a2 (by decide)))) (xv_a hg10 (xne hs_wp hs_a2 (by decide)))) (xv_a hg9 (xne hs_wp hs_a0 (by decide)))) (xv_a hg8 (xne hs_wp hs_a0 (by decide)))) (xv_a hg7 (xne hs_wp hs_a0 (by decide)))) (xv_a hg6 (xne hs_wp hs_a0 (by decide)))) (xv_a hg5 (xne hs_wp hs_a0 (by decide))))]; exact htb)).2.2.2; omega
          exact hret _ _ _ _ _ _ dX7_read_90 ⟨rfl, rfl, ⟨Ft216, q174, qt216, eFt216, by omega, by omega, ((hg213 a2 11 0 1 hs_a2 (by decide)).trans eq174), by omega, by omega, eqt216, by omega, by omega, _, _, (xTi.e v207 (fun h9 => False.elim (by have h8 := v208 h9; omega))), (by obtain ⟨h8, h7, h6⟩ := kt216; by_cases f9 : q171 = 0; (have h5 := h8.resolve_left (fun q9 => q9.1 f9); exact Or.inr ⟨⟨by omega, f9⟩, h5.2.1, by rw [if_pos f9]; exact h5.2.2⟩); (have h5 := h8.resolve_right (fun q9 => f9 q9.1); exact Or.inl ⟨fun q9 => f9 q9.2, h5.2.1, fun _ => by rw [if_neg f9]; exact h5.2.2⟩))⟩⟩ (Nat.le_refl _) (Nat.le_refl _)
      · refine X_aloadn hK (i := 0) 1 dX7_read_48 rfl rfl ?_
        refine X_getK hK fl_X7_29_8 hs_a0 eq171 dX7_read_49 ?_
        refine X_if_ne hK 75 (by omega) dX7_read_52 (by decide) (fun c217 => ?_) (fun c217 => ?_)
        · refine X_aloadn hK (i := 1) 2 dX7_read_75 rfl rfl ?_
          refine X_getK hK fl_X7_55_10 hs_a1 ((hg168 a1 10 0 1 hs_a1 (by decide)).trans ((xs_k hg11 (by decide)).trans ((xs_a hg10 (xne hs_a1 hs_a2 (by decide))).trans ((xs_k hg9 (by decide)).trans ((xs_k hg8 (by decide)).trans ((xs_k hg7 (by decide)).trans ((xs_k hg6 (by decide)).trans ((xs_k hg5 (by decide)).trans ((hg2 a1 10 0 1 hs_a1 (by decide)).trans etn))))))))) dX7_read_76 ?_
          refine X_sipush hK dX7_read_79 (by decide) ?_
          refine X_icmp_le hK 90 (by omega) (by omega) dX7_read_82 (by decide) (fun c218 => ?_) (fun c218 => ?_)
          · exact hret _ _ _ _ _ _ dX7_read_90 ⟨rfl, rfl, ⟨q171, q174, q172, eq171, by omega, by omega, eq174, by omega, by omega, eq172, by omega, by omega, _, _, (xTi.e v207 (fun h9 => False.elim (by have h8 := v208 h9; omega))), (Or.inl ⟨fun q9 => by omega, rfl, fun f9 => by rw [if_neg f9]⟩)⟩⟩ (Nat.le_refl _) (Nat.le_refl _)
          · refine X_aloadn hK (i := 0) 1 dX7_read_85 rfl rfl ?_
            refine X_iconst hK dX7_read_86 ?_
            refine X_callV hK [.int (iI 1)] [] lk_X7_60 (c3_tell _ _ _ _ _ S g168 a0 1 q169 q170 q171 q172 wt wp (xtk (xv g fb) tn) (xtl (xv g fb) tn) c9 hs_a0 (by omega) (by omega) eq169 (by omega) eq170 (by omega) eq171 (by omega) eq172 ((hg168 a0 8 0 0 hs_a0 (by decide)).trans ((xs_k hg11 (by decide)).trans ((xs_k hg10 (by decide)).trans ((xs_k hg9 (by decide)).trans ((xs_k hg8 (by decide)).trans ((xs_k hg7 (by decide)).trans ((xs_k hg6 (by decide)).trans ((xs_k hg5 (by decide)).trans ((hg2 a0 8 0 0 hs_a0 (by decide)).trans ewt))))))))) hs_wt ((hg168 a0 8 0 1 hs_a0 (by decide)).trans ((xs_k hg11 (by decide)).trans ((xs_a hg10 (xne hs_a0 hs_a2 (by decide))).trans ((xs_k hg9 (by decide)).trans ((xs_k hg8 (by decide)).trans ((xs_k hg7 (by decide)).trans ((xs_k hg6 (by decide)).trans ((xs_k hg5 (by decide)).trans ((hg2 a0 8 0 1 hs_a0 (by decide)).trans ewp))))))))) hs_wp (by rw [(Eq.trans (Eq.trans (Eq.trans (Eq.trans (Eq.trans (Eq.trans (Eq.trans (xv_m hg168 hs_wt (by decide) (by decide)) (xv_a hg11 (xne hs_wt hs_a2 (by decide)))) (xv_a hg10 (xne hs_wt hs_a2 (by decide)))) (xv_a hg9 (xne hs_wt hs_a0 (by decide)))) (xv_a hg8 (xne hs_wt hs_a0 (by decide)))) (xv_a hg7 (xne hs_wt hs_a0 (by decide)))) (xv_a hg6 (xne hs_wt hs_a0 (by decide)))) (xv_a hg5 (xne hs_wt hs_a0 (by decide)))), (Eq.trans (Eq.trans (Eq.trans (Eq.trans (Eq.trans (Eq.trans (Eq.trans (xv_m hg168 hs_wp (by decide) (by decide)) (xv_a hg11 (xne hs_wp hs_a2 (by decide)))) (xv_a hg10 (xne hs_wp hs_a2 (by decide)))) (xv_a hg9 (xne hs_wp hs_a0 (by decide)))) (xv_a hg8 (xne hs_wp hs_a0 (by decide)))) (xv_a hg7 (xne hs_wp hs_a0 (by decide)))) (xv_a hg6 (xne hs_wp hs_a0 (by decide)))) (xv_a hg5 (xne hs_wp hs_a0 (by decide))))]; exact htb) (by omega) (by omega)) hs_a0 ⟨by decide, rfl⟩ dX7_read_87 rfl rfl (by simp [Value.category]) (by decide) (by decide) (by decide) (by decide) (fun r219 S221 g220 pr219 qr219 hg220 => ?_)
            obtain ⟨rfl, rfl, k222⟩ := pr219
            refine X_st [] rfl ?_
            obtain ⟨Ft223, at223, ot223, qt223, eFt223, lFt223, uFt223, eat223, lat223, uat223, eot223, lot223, uot223, eqt223, lqt223, uqt223, kt223⟩ := k222
            have cat223 : at223 ≤ 300 := by have h9 := (show xTB (xv g220 wt) (xv g220 wp) (xtk (xv g fb) tn) (xtl (xv g fb) tn) c9 from (by rw [(Eq.trans (Eq.trans (Eq.trans (Eq.trans (Eq.trans (Eq.trans (Eq.trans (Eq.trans (xv_m hg220 hs_wt (by decide) (by decide)) (xv_m hg168 hs_wt (by decide) (by decide))) (xv_a hg11 (xne hs_wt hs_a2 (by decide)))) (xv_a hg10 (xne hs_wt hs_a2 (by decide)))) (xv_a hg9 (xne hs_wt hs_a0 (by decide)))) (xv_a hg8 (xne hs_wt hs_a0 (by decide)))) (xv_a hg7 (xne hs_wt hs_a0 (by decide)))) (xv_a hg6 (xne hs_wt hs_a0 (by decide)))) (xv_a hg5 (xne hs_wt hs_a0 (by decide)))), (Eq.trans (Eq.trans (Eq.trans (Eq.trans (Eq.trans (Eq.trans (Eq.trans (Eq.trans (xv_m hg220 hs_wp (by decide) (by decide)) (xv_m hg168 hs_wp (by decide) (by decide))) (xv_a hg11 (xne hs_wp hs_a2 (by decide)))) (xv_a hg10 (xne hs_wp hs_a2 (by decide)))) (xv_a hg9 (xne hs_wp hs_a0 (by decide)))) (xv_a hg8 (xne hs_wp hs_a0 (by decide)))) (xv_a hg7 (xne hs_wp hs_a0 (by decide)))) (xv_a hg6 (xne hs_wp hs_a0 (by decide)))) (xv_a hg5 (xne hs_wp hs_a0 (by decide))))]; exact htb)).2.2.2; omega
            exact hret _ _ _ _ _ _ dX7_read_90 ⟨rfl, rfl, ⟨Ft223, q174, qt223, eFt223, by omega, by omega, ((hg220 a2 11 0 1 hs_a2 (by decide)).trans eq174), by omega, by omega, eqt223, by omega, by omega, _, _, (xTi.e v207 (fun h9 => False.elim (by have h8 := v208 h9; omega))), (by obtain ⟨h8, h7, h6⟩ := kt223; by_cases f9 : q171 = 0; (have h5 := h8.resolve_left (fun q9 => q9.1 f9); exact Or.inr ⟨⟨by omega, f9⟩, h5.2.1, by rw [if_pos f9]; exact h5.2.2⟩); (have h5 := h8.resolve_right (fun q9 => f9 q9.1); exact Or.inl ⟨fun q9 => f9 q9.2, h5.2.1, fun _ => by rw [if_neg f9]; exact h5.2.2⟩))⟩⟩ (Nat.le_refl _) (Nat.le_refl _)
        · refine X_aloadn hK (i := 0) 1 dX7_read_55 rfl rfl ?_
          refine X_callV hK [] [] lk_X7_47 (c3_now _ _ _ _ _ S g168 a0 q169 wt wp (xtk (xv g fb) tn) (xtl (xv g fb) tn) c9 hs_a0 (by omega) eq169 ((hg168 a0 8 0 0 hs_a0 (by decide)).trans ((xs_k hg11 (by decide)).trans ((xs_k hg10 (by decide)).trans ((xs_k hg9 (by decide)).trans ((xs_k hg8 (by decide)).trans ((xs_k hg7 (by decide)).trans ((xs_k hg6 (by decide)).trans ((xs_k hg5 (by decide)).trans ((hg2 a0 8 0 0 hs_a0 (by decide)).trans ewt))))))))) hs_wt ((hg168 a0 8 0 1 hs_a0 (by decide)).trans ((xs_k hg11 (by decide)).trans ((xs_a hg10 (xne hs_a0 hs_a2 (by decide))).trans ((xs_k hg9 (by decide)).trans ((xs_k hg8 (by decide)).trans ((xs_k hg7 (by decide)).trans ((xs_k hg6 (by decide)).trans ((xs_k hg5 (by decide)).trans ((hg2 a0 8 0 1 hs_a0 (by decide)).trans ewp))))))))) hs_wp (by rw [(Eq.trans (Eq.trans (Eq.trans (Eq.trans (Eq.trans (Eq.trans (Eq.trans (xv_m hg168 hs_wt (by decide) (by decide)) (xv_a hg11 (xne hs_wt hs_a2 (by decide)))) (xv_a hg10 (xne hs_wt hs_a2 (by decide)))) (xv_a hg9 (xne hs_wt hs_a0 (by decide)))) (xv_a hg8 (xne hs_wt hs_a0 (by decide)))) (xv_a hg7 (xne hs_wt hs_a0 (by decide)))) (xv_a hg6 (xne hs_wt hs_a0 (by decide)))) (xv_a hg5 (xne hs_wt hs_a0 (by decide)))), (Eq.trans (Eq.trans (Eq.trans (Eq.trans (Eq.trans (Eq.trans (Eq.trans (xv_m hg168 hs_wp (by decide) (by decide)) (xv_a hg11 (xne hs_wp hs_a2 (by decide)))) (xv_a hg10 (xne hs_wp hs_a2 (by decide)))) (xv_a hg9 (xne hs_wp hs_a0 (by decide)))) (xv_a hg8 (xne hs_wp hs_a0 (by decide)))) (xv_a hg7 (xne hs_wp hs_a0 (by decide)))) (xv_a hg6 (xne hs_wp hs_a0 (by decide)))) (xv_a hg5 (xne hs_wp hs_a0 (by decide))))]; exact htb) (by omega) (by omega)) hs_a0 ⟨by decide, rfl⟩ dX7_read_56 rfl rfl (by simp [Value.category]) (by decide) (by decide) (by decide) (by decide) (fun r224 S226 g225 pr224 qr224 hg225 => ?_)
          obtain ⟨rfl, rfl, z227, rfl, lz227, uz227, k228⟩ := pr224
          refine X_st [.int (iI z227)] rfl ?_
          refine X_bipush hK dX7_read_59 (by decide) ?_
          refine X_icmp_eq hK 75 (by omega) (by omega) dX7_read_61 (by decide) (fun c229 => ?_) (fun c229 => ?_)
          · refine X_aloadn hK (i := 1) 2 dX7_read_75 rfl rfl ?_
            refine X_getK hK fl_X7_55_10 hs_a1 ((hg168 a1 10 0 1 hs_a1 (by decide)).trans ((xs_k hg11 (by decide)).trans ((xs_a hg10 (xne hs_a1 hs_a2 (by decide))).trans ((xs_k hg9 (by decide)).trans ((xs_k hg8 (by decide)).trans ((xs_k hg7 (by decide)).trans ((xs_k hg6 (by decide)).trans ((xs_k hg5 (by decide)).trans ((hg2 a1 10 0 1 hs_a1 (by decide)).trans etn))))))))) dX7_read_76 ?_
            refine X_sipush hK dX7_read_79 (by decide) ?_
            refine X_icmp_le hK 90 (by omega) (by omega) dX7_read_82 (by decide) (fun c230 => ?_) (fun c230 => ?_)
            · exact hret _ _ _ _ _ _ dX7_read_90 ⟨rfl, rfl, ⟨q171, q174, q172, eq171, by omega, by omega, eq174, by omega, by omega, eq172, by omega, by omega, _, _, (xTi.e v207 (fun h9 => by rw [← k228]; omega)), (Or.inl ⟨fun q9 => by omega, rfl, fun f9 => by rw [if_neg f9]⟩)⟩⟩ (Nat.le_refl _) (Nat.le_refl _)
            · refine X_aloadn hK (i := 0) 1 dX7_read_85 rfl rfl ?_
              refine X_iconst hK dX7_read_86 ?_
              refine X_callV hK [.int (iI 1)] [] lk_X7_60 (c3_tell _ _ _ _ _ S g168 a0 1 q169 q170 q171 q172 wt wp (xtk (xv g fb) tn) (xtl (xv g fb) tn) c9 hs_a0 (by omega) (by omega) eq169 (by omega) eq170 (by omega) eq171 (by omega) eq172 ((hg168 a0 8 0 0 hs_a0 (by decide)).trans ((xs_k hg11 (by decide)).trans ((xs_k hg10 (by decide)).trans ((xs_k hg9 (by decide)).trans ((xs_k hg8 (by decide)).trans ((xs_k hg7 (by decide)).trans ((xs_k hg6 (by decide)).trans ((xs_k hg5 (by decide)).trans ((hg2 a0 8 0 0 hs_a0 (by decide)).trans ewt))))))))) hs_wt ((hg168 a0 8 0 1 hs_a0 (by decide)).trans ((xs_k hg11 (by decide)).trans ((xs_a hg10 (xne hs_a0 hs_a2 (by decide))).trans ((xs_k hg9 (by decide)).trans ((xs_k hg8 (by decide)).trans ((xs_k hg7 (by decide)).trans ((xs_k hg6 (by decide)).trans ((xs_k hg5 (by decide)).trans ((hg2 a0 8 0 1 hs_a0 (by decide)).trans ewp))))))))) hs_wp (by rw [(Eq.trans (Eq.trans (Eq.trans (Eq.trans (Eq.trans (Eq.trans (Eq.trans (xv_m hg168 hs_wt (by decide) (by decide)) (xv_a hg11 (xne hs_wt hs_a2 (by decide)))) (xv_a hg10 (xne hs_wt hs_a2 (by decide)))) (xv_a hg9 (xne hs_wt hs_a0 (by decide)))) (xv_a hg8 (xne hs_wt hs_a0 (by decide)))) (xv_a hg7 (xne hs_wt hs_a0 (by decide)))) (xv_a hg6 (xne hs_wt hs_a0 (by decide)))) (xv_a hg5 (xne hs_wt hs_a0 (by decide)))), (Eq.trans (Eq.trans (Eq.trans (Eq.trans (Eq.trans (Eq.trans (Eq.trans (xv_m hg168 hs_wp (by decide) (by decide)) (xv_a hg11 (xne hs_wp hs_a2 (by decide)))) (xv_a hg10 (xne hs_wp hs_a2 (by decide)))) (xv_a hg9 (xne hs_wp hs_a0 (by decide)))) (xv_a hg8 (xne hs_wp hs_a0 (by decide)))) (xv_a hg7 (xne hs_wp hs_a0 (by decide)))) (xv_a hg6 (xne hs_wp hs_a0 (by decide)))) (xv_a hg5 (xne hs_wp hs_a0 (by decide))))]; exact htb) (by omega) (by omega)) hs_a0 ⟨by decide, rfl⟩ dX7_read_87 rfl rfl (by simp [Value.category]) (by decide) (by decide) (by decide) (by decide) (fun r231 S233 g232 pr231 qr231 hg232 => ?_)
              obtain ⟨rfl, rfl, k234⟩ := pr231
              refine X_st [] rfl ?_
              obtain ⟨Ft235, at235, ot235, qt235, eFt235, lFt235, uFt235, eat235, lat235, uat235, eot235, lot235, uot235, eqt235, lqt235, uqt235, kt235⟩ := k234
              have cat235 : at235 ≤ 300 := by have h9 := (show xTB (xv g232 wt) (xv g232 wp) (xtk (xv g fb) tn) (xtl (xv g fb) tn) c9 from (by rw [(Eq.trans (Eq.trans (Eq.trans (Eq.trans (Eq.trans (Eq.trans (Eq.trans (Eq.trans (xv_m hg232 hs_wt (by decide) (by decide)) (xv_m hg168 hs_wt (by decide) (by decide))) (xv_a hg11 (xne hs_wt hs_a2 (by decide)))) (xv_a hg10 (xne hs_wt hs_a2 (by decide)))) (xv_a hg9 (xne hs_wt hs_a0 (by decide)))) (xv_a hg8 (xne hs_wt hs_a0 (by decide)))) (xv_a hg7 (xne hs_wt hs_a0 (by decide)))) (xv_a hg6 (xne hs_wt hs_a0 (by decide)))) (xv_a hg5 (xne hs_wt hs_a0 (by decide)))), (Eq.trans (Eq.trans (Eq.trans (Eq.trans (Eq.trans (Eq.trans (Eq.trans (Eq.trans (xv_m hg232 hs_wp (by decide) (by decide)) (xv_m hg168 hs_wp (by decide) (by decide))) (xv_a hg11 (xne hs_wp hs_a2 (by decide)))) (xv_a hg10 (xne hs_wp hs_a2 (by decide)))) (xv_a hg9 (xne hs_wp hs_a0 (by decide)))) (xv_a hg8 (xne hs_wp hs_a0 (by decide)))) (xv_a hg7 (xne hs_wp hs_a0 (by decide)))) (xv_a hg6 (xne hs_wp hs_a0 (by decide)))) (xv_a hg5 (xne hs_wp hs_a0 (by decide))))]; exact htb)).2.2.2; omega
              exact hret _ _ _ _ _ _ dX7_read_90 ⟨rfl, rfl, ⟨Ft235, q174, qt235, eFt235, by omega, by omega, ((hg232 a2 11 0 1 hs_a2 (by decide)).trans eq174), by omega, by omega, eqt235, by omega, by omega, _, _, (xTi.e v207 (fun h9 => by rw [← k228]; omega)), (by obtain ⟨h8, h7, h6⟩ := kt235; by_cases f9 : q171 = 0; (have h5 := h8.resolve_left (fun q9 => q9.1 f9); exact Or.inr ⟨⟨by omega, f9⟩, h5.2.1, by rw [if_pos f9]; exact h5.2.2⟩); (have h5 := h8.resolve_right (fun q9 => f9 q9.1); exact Or.inl ⟨fun q9 => f9 q9.2, h5.2.1, fun _ => by rw [if_neg f9]; exact h5.2.2⟩))⟩⟩ (Nat.le_refl _) (Nat.le_refl _)
          · refine X_aloadn hK (i := 0) 1 dX7_read_64 rfl rfl ?_
            refine X_aloadn hK (i := 2) 3 dX7_read_65 rfl rfl ?_
            refine X_callV hK [.ref a2] [] lk_X7_51 (c3_readLine _ _ _ _ _ S g168 a0 a2 q169 q170 q171 q172 wt wp q174 q173 (xtk (xv g fb) tn) (xtl (xv g fb) tn) c9 hs_a0 hs_a2 (by omega) eq169 (by omega) eq170 (by omega) eq171 (by omega) eq172 ((hg168 a0 8 0 0 hs_a0 (by decide)).trans ((xs_k hg11 (by decide)).trans ((xs_k hg10 (by decide)).trans ((xs_k hg9 (by decide)).trans ((xs_k hg8 (by decide)).trans ((xs_k hg7 (by decide)).trans ((xs_k hg6 (by decide)).trans ((xs_k hg5 (by decide)).trans ((hg2 a0 8 0 0 hs_a0 (by decide)).trans ewt))))))))) hs_wt ((hg168 a0 8 0 1 hs_a0 (by decide)).trans ((xs_k hg11 (by decide)).trans ((xs_a hg10 (xne hs_a0 hs_a2 (by decide))).trans ((xs_k hg9 (by decide)).trans ((xs_k hg8 (by decide)).trans ((xs_k hg7 (by decide)).trans ((xs_k hg6 (by decide)).trans ((xs_k hg5 (by decide)).trans ((hg2 a0 8 0 1 hs_a0 (by decide)).trans ewp))))))))) hs_wp (by omega) eq174 (by omega) eq173 (by rw [(Eq.trans (Eq.trans (Eq.trans (Eq.trans (Eq.trans (Eq.trans (Eq.trans (xv_m hg168 hs_wt (by decide) (by decide)) (xv_a hg11 (xne hs_wt hs_a2 (by decide)))) (xv_a hg10 (xne hs_wt hs_a2 (by decide)))) (xv_a hg9 (xne hs_wt hs_a0 (by decide)))) (xv_a hg8 (xne hs_wt hs_a0 (by decide)))) (xv_a hg7 (xne hs_wt hs_a0 (by decide)))) (xv_a hg6 (xne hs_wt hs_a0 (by decide)))) (xv_a hg5 (xne hs_wt hs_a0 (by decide)))), (Eq.trans (Eq.trans (Eq.trans (Eq.trans (Eq.trans (Eq.trans (Eq.trans (xv_m hg168 hs_wp (by decide) (by decide)) (xv_a hg11 (xne hs_wp hs_a2 (by decide)))) (xv_a hg10 (xne hs_wp hs_a2 (by decide)))) (xv_a hg9 (xne hs_wp hs_a0 (by decide)))) (xv_a hg8 (xne hs_wp hs_a0 (by decide)))) (xv_a hg7 (xne hs_wp hs_a0 (by decide)))) (xv_a hg6 (xne hs_wp hs_a0 (by decide)))) (xv_a hg5 (xne hs_wp hs_a0 (by decide))))]; exact htb) (by omega) (by omega)) hs_a0 ⟨by decide, rfl⟩ dX7_read_66 rfl rfl (by simp [Value.category]) (by decide) (by decide) (by decide) (by decide) (fun r236 S238 g237 pr236 qr236 hg237 => ?_)
            obtain ⟨rfl, rfl, k239⟩ := pr236
            refine X_st [] rfl ?_
            obtain ⟨Ft240, at240, ot240, qt240, eFt240, lFt240, uFt240, eat240, lat240, uat240, eot240, lot240, uot240, eqt240, lqt240, uqt240, mt240, wt240, emt240, lmt240, umt240, ewt240, lwt240, uwt240, kt240⟩ := k239
            have cat240 : at240 ≤ 300 := by have h9 := (show xTB (xv g237 wt) (xv g237 wp) (xtk (xv g fb) tn) (xtl (xv g fb) tn) c9 from (by rw [(Eq.trans (Eq.trans (Eq.trans (Eq.trans (Eq.trans (Eq.trans (Eq.trans (Eq.trans (xv_m hg237 hs_wt (by decide) (by decide)) (xv_m hg168 hs_wt (by decide) (by decide))) (xv_a hg11 (xne hs_wt hs_a2 (by decide)))) (xv_a hg10 (xne hs_wt hs_a2 (by decide)))) (xv_a hg9 (xne hs_wt hs_a0 (by decide)))) (xv_a hg8 (xne hs_wt hs_a0 (by decide)))) (xv_a hg7 (xne hs_wt hs_a0 (by decide)))) (xv_a hg6 (xne hs_wt hs_a0 (by decide)))) (xv_a hg5 (xne hs_wt hs_a0 (by decide)))), (Eq.trans (Eq.trans (Eq.trans (Eq.trans (Eq.trans (Eq.trans (Eq.trans (Eq.trans (xv_m hg237 hs_wp (by decide) (by decide)) (xv_m hg168 hs_wp (by decide) (by decide))) (xv_a hg11 (xne hs_wp hs_a2 (by decide)))) (xv_a hg10 (xne hs_wp hs_a2 (by decide)))) (xv_a hg9 (xne hs_wp hs_a0 (by decide)))) (xv_a hg8 (xne hs_wp hs_a0 (by decide)))) (xv_a hg7 (xne hs_wp hs_a0 (by decide)))) (xv_a hg6 (xne hs_wp hs_a0 (by decide)))) (xv_a hg5 (xne hs_wp hs_a0 (by decide))))]; exact htb)).2.2.2; omega
            refine X_iinc hK (i := 3) (z := z167) (n := 1) 0 [(3, .int (iI (z167 + 1))), (0, .ref a0), (1, .ref a1), (2, .ref a2)] dX7_read_69 rfl (by decide) rfl ?_
            refine X_goto hK 42 dX7_read_72 (by decide) ?_
            exact ihP206  g237 (xM.tr (xM.tr xM.rf xLe.rf hg168 (by decide)) xLe.rf hg237 (by decide)) (z167 + 1) (by omega) (by omega) at240 (by omega) (by omega) eat240 ot240 (by omega) (by omega) eot240 Ft240 (by omega) (by omega) eFt240 qt240 (by omega) (by omega) eqt240 wt240 (by omega) (by omega) ewt240 mt240 (by omega) (by omega) emt240 (xTi.s v207 (by omega) (by rw [← k228]; omega) kt240) (fun h9 => by have h8 := xLn.ok kt240 h9; omega) (by omega) (by omega)
  exact P206 ((60 - 0 : Int).toNat + 1) g11 xM.rf 0 (by omega) (by omega) 0 (by omega) (by omega) ((xs_a hg11 (xne hs_a0 hs_a2 (by decide))).trans ((xs_k hg10 (by decide)).trans ((xs_k hg9 (by decide)).trans ((xs_k hg8 (by decide)).trans ((xs_k hg7 (by decide)).trans ((xs_k hg6 (by decide)).trans (xs_s hg5))))))) 0 (by omega) (by omega) ((xs_k hg11 (by decide)).trans ((xs_k hg10 (by decide)).trans ((xs_k hg9 (by decide)).trans ((xs_k hg8 (by decide)).trans ((xs_k hg7 (by decide)).trans (xs_s hg6)))))) 0 (by omega) (by omega) ((xs_k hg11 (by decide)).trans ((xs_k hg10 (by decide)).trans ((xs_k hg9 (by decide)).trans (xs_s hg8)))) 0 (by omega) (by omega) ((xs_k hg11 (by decide)).trans ((xs_k hg10 (by decide)).trans (xs_s hg9))) 0 (by omega) (by omega) ((xs_k hg11 (by decide)).trans ((xs_k hg10 (by decide)).trans ((xs_k hg9 (by decide)).trans ((xs_k hg8 (by decide)).trans (xs_s hg7))))) 0 (by omega) (by omega) ((xs_k hg11 (by decide)).trans (xs_s hg10)) xTi.z (by omega) (by omega) (by omega)
