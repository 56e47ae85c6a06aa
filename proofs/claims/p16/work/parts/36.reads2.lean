
set_option maxHeartbeats 4000000 in
set_option maxRecDepth 100000 in
theorem c3_now (l : Launch) (D : va_G) (kA : Nat → ClassId) (b0 : Nat) (t0 : Nat → Nat) (S : xT) (g : xG) (a0 : Nat) (na : Int) (wt : Nat) (wp : Nat) (tk : Int → Int) (tl : Int → Int) (cn : Int) (hs_a0 : S a0 = some (8, 0)) (hna : 0 ≤ na ∧ na ≤ 300) (ena : g a0 2 = .int (iI na)) (ewt : g a0 0 = .ref wt) (hs_wt : S wt = some (12900, 301)) (ewp : g a0 1 = .ref wp) (hs_wp : S wp = some (13000, 301)) (hp0 : xTB (xv g wt) (xv g wp) tk tl cn) (hp1 : na ≤ cn) (hp2 : cn ≤ 300) : xMt l yX7_now cX7_now 1 (some .int) 0 0 0 0 D kA b0 t0 [] [.ref a0] S g (fun (r : Option Value) (S1 : xT) (g1 : xG) => S = S1 ∧ g = g1 ∧ ∃ z : Int, r = some (.int (iI z)) ∧ 0 ≤ z ∧ z ≤ 10099 ∧ (z = tk na)) := by
  refine xEnterI (by decide) (by simp [lg_sl, Value.category]) [(0, .ref a0)] rfl ?_
  intro K E hK hret _ _ _
  refine X_aloadn hK (i := 0) 0 dX7_now_0 rfl rfl ?_
  refine X_getK hK fl_X7_18_8 hs_a0 ena dX7_now_1 ?_
  refine X_aloadn hK (i := 0) 0 dX7_now_4 rfl rfl ?_
  refine X_getK hK fl_X7_9_8 hs_a0 ewt dX7_now_5 ?_
  refine X_alen hK (i := 0) (ty := .int) hs_wt (by decide) (by decide) (fun _ => rfl) dX7_now_8 ?_
  refine X_icmp_ge hK 24 (by omega) (by omega) dX7_now_9 (by decide) (fun c1 => False.elim (by omega)) (fun c1 => ?_)
  refine X_aloadn hK (i := 0) 0 dX7_now_12 rfl rfl ?_
  refine X_getK hK fl_X7_9_8 hs_a0 ewt dX7_now_13 ?_
  refine X_aloadn hK (i := 0) 0 dX7_now_16 rfl rfl ?_
  refine X_getK hK fl_X7_18_8 hs_a0 ena dX7_now_17 ?_
  refine X_iald hK hs_wt (by decide) sl_12900 (by omega) (by omega) dX7_now_20 (fun z2 ez2 lz2 uz2 => ?_)
  have hw3 : xv g wt na = z2 := xv_e (j := na) ez2 (by omega)
  refine X_goto hK 26 dX7_now_21 (by decide) ?_
  exact hret _ _ _ _ _ _ _ dX7_now_26 ⟨rfl, rfl, z2, rfl, (by omega), (by omega), (by have h9 := (hp0.1 na (by omega) (by omega)).1; rw [hw3] at h9; exact h9)⟩ (Nat.le_refl _) (Nat.le_refl _)

set_option maxHeartbeats 4000000 in
set_option maxRecDepth 100000 in
theorem c3_tell (l : Launch) (D : va_G) (kA : Nat → ClassId) (b0 : Nat) (t0 : Nat → Nat) (S : xT) (g : xG) (a0 : Nat) (x1 : Int) (na : Int) (no : Int) (nf : Int) (nq : Int) (wt : Nat) (wp : Nat) (tk : Int → Int) (tl : Int → Int) (cn : Int) (hs_a0 : S a0 = some (8, 0)) (hx1 : 1 ≤ x1 ∧ x1 ≤ 4) (hna : 0 ≤ na ∧ na ≤ 300) (ena : g a0 2 = .int (iI na)) (hno : 0 ≤ no ∧ no ≤ 50) (eno : g a0 3 = .int (iI no)) (hnf : (-2147483648) ≤ nf ∧ nf ≤ 2147483647) (enf : g a0 5 = .int (iI nf)) (hnq : 0 ≤ nq ∧ nq ≤ 300) (enq : g a0 6 = .int (iI nq)) (ewt : g a0 0 = .ref wt) (hs_wt : S wt = some (12900, 301)) (ewp : g a0 1 = .ref wp) (hs_wp : S wp = some (13000, 301)) (hp0 : xTB (xv g wt) (xv g wp) tk tl cn) (hp1 : na ≤ cn) (hp2 : cn ≤ 300) : xMt l yX7_tell cX7_tell 2 none 0 0 0 0 D kA b0 t0 [(8, 5), (8, 6)] [.ref a0, .int (iI x1)] S g (fun (r : Option Value) (S1 : xT) (g1 : xG) => S = S1 ∧ r = none ∧ (∃ F a o q : Int, g1 a0 5 = .int (iI F) ∧ -2147483648 ≤ F ∧ F ≤ 2147483647 ∧ g1 a0 2 = .int (iI a) ∧ 0 ≤ a ∧ a ≤ cn ∧ g1 a0 3 = .int (iI o) ∧ 0 ≤ o ∧ o ≤ 50 ∧ g1 a0 6 = .int (iI q) ∧ 0 ≤ q ∧ q ≤ 300 ∧ ((nf ≠ 0 ∧ F = nf ∧ q = nq) ∨ (nf = 0 ∧ F = x1 ∧ q = tl na)) ∧ a = na ∧ o = no)) := by
  refine xEnterV (by decide) (by simp [lg_sl, Value.category]) [(0, .ref a0), (1, .int (iI x1))] rfl ?_
  intro K E hK hret _ _ _
  refine X_aloadn hK (i := 0) 0 dX7_tell_0 rfl rfl ?_
  refine X_getK hK fl_X7_29_8 hs_a0 enf dX7_tell_1 ?_
  refine X_if_ne hK 43 (by omega) dX7_tell_4 (by decide) (fun c1 => ?_) (fun c1 => ?_)
  · exact hret _ _ _ _ _ _ dX7_tell_43 ⟨rfl, rfl, ⟨nf, na, no, nq, enf, by omega, by omega, ena, by omega, by omega, eno, by omega, by omega, enq, by omega, by omega, ⟨by first | (exact Or.inl ⟨by omega, rfl, rfl⟩) | (exact False.elim (by have h9 := hp0.2.2.2; omega)), rfl, rfl⟩⟩⟩ (Nat.le_refl _) (Nat.le_refl _)
  · refine X_aloadn hK (i := 0) 0 dX7_tell_7 rfl rfl ?_
    refine X_iloadn hK (i := 1) 1 dX7_tell_8 rfl rfl ?_
    refine X_puti hK fl_X7_29_8 hs_a0 (by decide) sl_8_5 (by omega) (by omega) dX7_tell_9 (fun g2 hg2 => ?_)
    refine X_aloadn hK (i := 0) 0 dX7_tell_12 rfl rfl ?_
    refine X_aloadn hK (i := 0) 0 dX7_tell_13 rfl rfl ?_
    refine X_getK hK fl_X7_18_8 hs_a0 ((xs_k hg2 (by decide)).trans ena) dX7_tell_14 ?_
    refine X_aloadn hK (i := 0) 0 dX7_tell_17 rfl rfl ?_
    refine X_getK hK fl_X7_15_8 hs_a0 ((xs_k hg2 (by decide)).trans ewp) dX7_tell_18 ?_
    refine X_alen hK (i := 0) (ty := .int) hs_wp (by decide) (by decide) (fun _ => rfl) dX7_tell_21 ?_
    refine X_icmp_ge hK 37 (by omega) (by omega) dX7_tell_22 (by decide) (fun c3 => False.elim (by omega)) (fun c3 => ?_)
    refine X_aloadn hK (i := 0) 0 dX7_tell_25 rfl rfl ?_
    refine X_getK hK fl_X7_15_8 hs_a0 ((xs_k hg2 (by decide)).trans ewp) dX7_tell_26 ?_
    refine X_aloadn hK (i := 0) 0 dX7_tell_29 rfl rfl ?_
    refine X_getK hK fl_X7_18_8 hs_a0 ((xs_k hg2 (by decide)).trans ena) dX7_tell_30 ?_
    refine X_iald hK hs_wp (by decide) sl_13000 (by omega) (by omega) dX7_tell_33 (fun z4 ez4 lz4 uz4 => ?_)
    have hw5 : xv g2 wp na = z4 := xv_e (j := na) ez4 (by omega)
    refine X_goto hK 40 dX7_tell_34 (by decide) ?_
    refine X_puti hK fl_X7_32_8 hs_a0 (by decide) sl_8_6 (by omega) (by omega) dX7_tell_40 (fun g6 hg6 => ?_)
    exact hret _ _ _ _ _ _ dX7_tell_43 ⟨rfl, rfl, ⟨x1, na, no, z4, ((xs_k hg6 (by decide)).trans (xs_s hg2)), by omega, by omega, ((xs_k hg6 (by decide)).trans ((xs_k hg2 (by decide)).trans ena)), by omega, by omega, ((xs_k hg6 (by decide)).trans ((xs_k hg2 (by decide)).trans eno)), by omega, by omega, (xs_s hg6), by omega, by omega, ⟨Or.inr ⟨by omega, rfl, (by have h9 := (hp0.1 na (by omega) (by omega)).2; have h8 := hw5; rw [(xv_a hg2 (xne hs_wp hs_a0 (by decide)))] at h8; rw [h8] at h9; exact h9)⟩, rfl, rfl⟩⟩⟩ (Nat.le_refl _) (Nat.le_refl _)

set_option maxHeartbeats 4000000 in
set_option maxRecDepth 100000 in
theorem c3_expect (l : Launch) (D : va_G) (kA : Nat → ClassId) (b0 : Nat) (t0 : Nat → Nat) (S : xT) (g : xG) (a0 : Nat) (x1 : Int) (na : Int) (no : Int) (nf : Int) (nq : Int) (wt : Nat) (wp : Nat) (tk : Int → Int) (tl : Int → Int) (cn : Int) (hs_a0 : S a0 = some (8, 0)) (hx1 : 24 ≤ x1 ∧ x1 ≤ 26) (hna : 0 ≤ na ∧ na ≤ 300) (ena : g a0 2 = .int (iI na)) (hno : 0 ≤ no ∧ no ≤ 50) (eno : g a0 3 = .int (iI no)) (hnf : (-2147483648) ≤ nf ∧ nf ≤ 2147483647) (enf : g a0 5 = .int (iI nf)) (hnq : 0 ≤ nq ∧ nq ≤ 300) (enq : g a0 6 = .int (iI nq)) (ewt : g a0 0 = .ref wt) (hs_wt : S wt = some (12900, 301)) (ewp : g a0 1 = .ref wp) (hs_wp : S wp = some (13000, 301)) (hp0 : xTB (xv g wt) (xv g wp) tk tl cn) (hp1 : na ≤ cn) (hp2 : cn ≤ 300) : xMt l yX7_expect cX7_expect 2 none 1 0 0 21 D kA b0 t0 [(8, 5), (8, 6), (8, 2)] [.ref a0, .int (iI x1)] S g (fun (r : Option Value) (S1 : xT) (g1 : xG) => S = S1 ∧ r = none ∧ (∃ F a o q : Int, g1 a0 5 = .int (iI F) ∧ -2147483648 ≤ F ∧ F ≤ 2147483647 ∧ g1 a0 2 = .int (iI a) ∧ 0 ≤ a ∧ a ≤ cn ∧ g1 a0 3 = .int (iI o) ∧ 0 ≤ o ∧ o ≤ 50 ∧ g1 a0 6 = .int (iI q) ∧ 0 ≤ q ∧ q ≤ 300 ∧ ((tk na = x1 ∧ F = nf ∧ a = na + 1 ∧ q = nq) ∨ (tk na ≠ x1 ∧ a = na ∧ ((nf ≠ 0 ∧ F = nf ∧ q = nq) ∨ (nf = 0 ∧ F = 1 ∧ q = tl na)))) ∧ o = no)) := by
  refine xEnterV (by decide) (by simp [lg_sl, Value.category]) [(0, .ref a0), (1, .int (iI x1))] rfl ?_
  intro K E hK hret _ _ _
  refine X_aloadn hK (i := 0) 0 dX7_expect_0 rfl rfl ?_
  refine X_callV hK [] [] lk_X7_47 (c3_now _ _ _ _ _ S g a0 na wt wp tk tl cn hs_a0 (by omega) ena ewt hs_wt ewp hs_wp hp0 (by omega) (by omega)) hs_a0 ⟨by decide, rfl⟩ dX7_expect_1 rfl rfl (by simp [Value.category]) (by decide) (by decide) (by decide) (by decide) (fun r1 S3 g2 pr1 qr1 hg2 => ?_)
  obtain ⟨rfl, rfl, z4, rfl, lz4, uz4, k5⟩ := pr1
  refine X_st [.int (iI z4)] rfl ?_
  refine X_iloadn hK (i := 1) 1 dX7_expect_4 rfl rfl ?_
  refine X_icmp_ne hK 21 (by omega) (by omega) dX7_expect_5 (by decide) (fun c6 => ?_) (fun c6 => ?_)
  · refine X_aloadn hK (i := 0) 0 dX7_expect_21 rfl rfl ?_
    refine X_iconst hK dX7_expect_22 ?_
    refine X_callV hK [.int (iI 1)] [] lk_X7_60 (c3_tell _ _ _ _ _ S g a0 1 na no nf nq wt wp tk tl cn hs_a0 (by omega) (by omega) ena (by omega) eno (by omega) enf (by omega) enq ewt hs_wt ewp hs_wp hp0 (by omega) (by omega)) hs_a0 ⟨by decide, rfl⟩ dX7_expect_23 rfl rfl (by simp [Value.category]) (by decide) (by decide) (by decide) (by decide) (fun r7 S9 g8 pr7 qr7 hg8 => ?_)
    obtain ⟨rfl, rfl, k10⟩ := pr7
    refine X_st [] rfl ?_
    obtain ⟨Ft11, at11, ot11, qt11, eFt11, lFt11, uFt11, eat11, lat11, uat11, eot11, lot11, uot11, eqt11, lqt11, uqt11, kt11⟩ := k10
    have cat11 : at11 ≤ 300 := by have h9 := (show xTB (xv g8 wt) (xv g8 wp) tk tl cn from (by rw [(xv_m hg8 hs_wt (by decide) (by decide)), (xv_m hg8 hs_wp (by decide) (by decide))]; exact hp0)).2.2.2; omega
    exact hret _ _ _ _ _ _ dX7_expect_26 ⟨rfl, rfl, ⟨Ft11, at11, ot11, qt11, eFt11, by omega, by omega, eat11, by omega, by omega, eot11, by omega, by omega, eqt11, by omega, by omega, ⟨Or.inr ⟨by rw [← k5]; omega, by omega, kt11.1⟩, by omega⟩⟩⟩ (Nat.le_refl _) (Nat.le_refl _)
  · refine X_aloadn hK (i := 0) 0 dX7_expect_8 rfl rfl ?_
    refine X_dup hK dX7_expect_9 rfl ?_
    have hl12 := xTB.lt (A := xv g wt) (B := xv g wp) (tk := tk) (tl := tl) (c := cn) (a := na) hp0 (by omega) (by rw [← k5]; omega)
    refine X_getK hK fl_X7_18_8 hs_a0 ena dX7_expect_10 ?_
    refine X_iconst hK dX7_expect_13 ?_
    refine X_iadd hK dX7_expect_14 ?_
    refine X_puti hK fl_X7_18_8 hs_a0 (by decide) sl_8_2 (by omega) (by omega) dX7_expect_15 (fun g13 hg13 => ?_)
    refine X_goto hK 26 dX7_expect_18 (by decide) ?_
    exact hret _ _ _ _ _ _ dX7_expect_26 ⟨rfl, rfl, ⟨nf, (na + 1), no, nq, ((xs_k hg13 (by decide)).trans enf), by omega, by omega, (xs_s hg13), by omega, by omega, ((xs_k hg13 (by decide)).trans eno), by omega, by omega, ((xs_k hg13 (by decide)).trans enq), by omega, by omega, ⟨Or.inl ⟨by rw [← k5]; omega, rfl, rfl, rfl⟩, rfl⟩⟩⟩ (Nat.le_refl _) (Nat.le_refl _)

set_option maxHeartbeats 4000000 in
set_option maxRecDepth 100000 in
theorem c3_readFact (l : Launch) (D : va_G) (kA : Nat → ClassId) (b0 : Nat) (t0 : Nat → Nat) (S : xT) (g : xG) (a0 : Nat) (a1 : Nat) (x2 : Int) (na : Int) (no : Int) (nf : Int) (nq : Int) (wt : Nat) (wp : Nat) (tk : Int → Int) (tl : Int → Int) (cn : Int) (dd : Int) (hs_a0 : S a0 = some (8, 0)) (hs_a1 : S a1 = some (11, 0)) (hx2 : 0 ≤ x2 ∧ x2 ≤ 11) (hna : 1 ≤ na ∧ na ≤ 300) (ena : g a0 2 = .int (iI na)) (hno : 1 ≤ no ∧ no ≤ 50) (eno : g a0 3 = .int (iI no)) (hnf : 0 ≤ nf ∧ nf ≤ 0) (enf : g a0 5 = .int (iI nf)) (hnq : 0 ≤ nq ∧ nq ≤ 300) (enq : g a0 6 = .int (iI nq)) (ewt : g a0 0 = .ref wt) (hs_wt : S wt = some (12900, 301)) (ewp : g a0 1 = .ref wp) (hs_wp : S wp = some (13000, 301)) (hp0 : xTB (xv g wt) (xv g wp) tk tl cn) (hp1 : na ≤ cn) (hp2 : cn ≤ 300) (hp3 : tk (na - 1) = x2 + 10) (hp4 : dd ≤ 10) : xMt l yX7_readFact cX7_readFact 5 none 1 0 0 23 D kA b0 t0 [(8, 5), (8, 6), (8, 2), (14000, 0), (11, 2)] [.ref a0, .ref a1, .int (iI x2)] S g (fun (r : Option Value) (S1 : xT) (g1 : xG) => S = S1 ∧ r = none ∧ (∃ F a o q : Int, g1 a0 5 = .int (iI F) ∧ -2147483648 ≤ F ∧ F ≤ 2147483647 ∧ g1 a0 2 = .int (iI a) ∧ 0 ≤ a ∧ a ≤ cn ∧ g1 a0 3 = .int (iI o) ∧ 0 ≤ o ∧ o ≤ 50 ∧ g1 a0 6 = .int (iI q) ∧ 0 ≤ q ∧ q ≤ 300 ∧ xRR tk tl 0 dd (na - 1) (no - 1) F a o q)) := by
  refine xEnterV (by decide) (by simp [lg_sl, Value.category]) [(0, .ref a0), (1, .ref a1), (2, .int (iI x2))] rfl ?_
  intro K E hK hret _ _ _
  refine X_iloadn hK (i := 2) 2 dX7_readFact_0 rfl rfl ?_
  refine X_iconst hK dX7_readFact_1 ?_
  refine X_icmp_ge hK 13 (by omega) (by omega) dX7_readFact_2 (by decide) (fun c1 => ?_) (fun c1 => ?_)
  · refine X_aloadn hK (i := 0) 0 dX7_readFact_13 rfl rfl ?_
    refine X_callV hK [] [] lk_X7_47 (c3_now _ _ _ _ _ S g a0 na wt wp tk tl cn hs_a0 (by omega) ena ewt hs_wt ewp hs_wp hp0 (by omega) (by omega)) hs_a0 ⟨by decide, rfl⟩ dX7_readFact_14 rfl rfl (by simp [Value.category]) (by decide) (by decide) (by decide) (by decide) (fun r2 S4 g3 pr2 qr2 hg3 => ?_)
    obtain ⟨rfl, rfl, z5, rfl, lz5, uz5, k6⟩ := pr2
    refine X_st [.int (iI z5)] rfl ?_
    refine X_istoren hK (i := 3) [(3, .int (iI z5)), (0, .ref a0), (1, .ref a1), (2, .int (iI x2))] dX7_readFact_17 rfl (by decide) rfl ?_
    refine X_iloadn hK (i := 3) 0 dX7_readFact_18 rfl rfl ?_
    refine X_bipush hK dX7_readFact_19 (by decide) ?_
    refine X_icmp_lt hK 30 (by omega) (by omega) dX7_readFact_21 (by decide) (fun c7 => ?_) (fun c7 => ?_)
    · refine X_aloadn hK (i := 0) 1 dX7_readFact_30 rfl rfl ?_
      refine X_iconst hK dX7_readFact_31 ?_
      refine X_callV hK [.int (iI 1)] [] lk_X7_60 (c3_tell _ _ _ _ _ S g a0 1 na no nf nq wt wp tk tl cn hs_a0 (by omega) (by omega) ena (by omega) eno (by omega) enf (by omega) enq ewt hs_wt ewp hs_wp hp0 (by omega) (by omega)) hs_a0 ⟨by decide, rfl⟩ dX7_readFact_32 rfl rfl (by simp [Value.category]) (by decide) (by decide) (by decide) (by decide) (fun r8 S10 g9 pr8 qr8 hg9 => ?_)
      obtain ⟨rfl, rfl, k11⟩ := pr8
      refine X_st [] rfl ?_
      obtain ⟨Ft12, at12, ot12, qt12, eFt12, lFt12, uFt12, eat12, lat12, uat12, eot12, lot12, uot12, eqt12, lqt12, uqt12, kt12⟩ := k11
      have cat12 : at12 ≤ 300 := by have h9 := (show xTB (xv g9 wt) (xv g9 wp) tk tl cn from (by rw [(xv_m hg9 hs_wt (by decide) (by decide)), (xv_m hg9 hs_wp (by decide) (by decide))]; exact hp0)).2.2.2; omega
      exact hret _ _ _ _ _ _ dX7_readFact_35 ⟨rfl, rfl, ⟨Ft12, at12, ot12, qt12, eFt12, by omega, by omega, eat12, by omega, by omega, eot12, by omega, by omega, eqt12, by omega, by omega, (by obtain ⟨h8, h7, h6⟩ := kt12; have h5 := h8.resolve_left (fun q9 => by omega); rw [h5.2.1]; exact xRR.fs (by omega) (by omega) (by rw [show na - 1 + 1 = na by omega, ← k6]; omega) (by rw [show na - 1 + 1 = na by omega]; exact h5.2.2))⟩⟩ (Nat.le_refl _) (Nat.le_refl _)
    · refine X_iloadn hK (i := 3) 0 dX7_readFact_24 rfl rfl ?_
      refine X_bipush hK dX7_readFact_25 (by decide) ?_
      refine X_icmp_le hK 36 (by omega) (by omega) dX7_readFact_27 (by decide) (fun c13 => ?_) (fun c13 => ?_)
      · refine X_aloadn hK (i := 0) 1 dX7_readFact_36 rfl rfl ?_
        refine X_dup hK dX7_readFact_37 rfl ?_
        have hl14 := xTB.lt (A := xv g wt) (B := xv g wp) (tk := tk) (tl := tl) (c := cn) (a := na) hp0 (by omega) (by rw [← k6]; omega)
        refine X_getK hK fl_X7_18_8 hs_a0 ena dX7_readFact_38 ?_
        refine X_iconst hK dX7_readFact_41 ?_
        refine X_iadd hK dX7_readFact_42 ?_
        refine X_puti hK fl_X7_18_8 hs_a0 (by decide) sl_8_2 (by omega) (by omega) dX7_readFact_43 (fun g15 hg15 => ?_)
        refine X_aloadn hK (i := 0) 1 dX7_readFact_46 rfl rfl ?_
        refine X_callV hK [] [] lk_X7_47 (c3_now _ _ _ _ _ S g15 a0 (na + 1) wt wp tk tl cn hs_a0 (by omega) (xs_s hg15) ((xs_k hg15 (by decide)).trans ewt) hs_wt ((xs_k hg15 (by decide)).trans ewp) hs_wp (by rw [(xv_a hg15 (xne hs_wt hs_a0 (by decide))), (xv_a hg15 (xne hs_wp hs_a0 (by decide)))]; exact hp0) (by omega) (by omega)) hs_a0 ⟨by decide, rfl⟩ dX7_readFact_47 rfl rfl (by simp [Value.category]) (by decide) (by decide) (by decide) (by decide) (fun r16 S18 g17 pr16 qr16 hg17 => ?_)
        obtain ⟨rfl, rfl, z19, rfl, lz19, uz19, k20⟩ := pr16
        refine X_st [.int (iI z19)] rfl ?_
        refine X_bipush hK dX7_readFact_50 (by decide) ?_
        refine X_isub hK dX7_readFact_52 ?_
        refine X_istore hK (i := 4) [(4, .int (iI (z19 - 100))), (3, .int (iI z5)), (0, .ref a0), (1, .ref a1), (2, .int (iI x2))] dX7_readFact_53 (by decide) rfl ?_
        refine X_iload hK (i := 4) 0 dX7_readFact_55 rfl ?_
        refine X_if_ge hK 66 (by omega) dX7_readFact_57 (by decide) (fun c21 => ?_) (fun c21 => ?_)
        · refine X_aloadn hK (i := 0) 2 dX7_readFact_66 rfl rfl ?_
          refine X_dup hK dX7_readFact_67 rfl ?_
          have hl22 := xTB.lt (A := xv g15 wt) (B := xv g15 wp) (tk := tk) (tl := tl) (c := cn) (a := (na + 1)) (by rw [(xv_a hg15 (xne hs_wt hs_a0 (by decide))), (xv_a hg15 (xne hs_wp hs_a0 (by decide)))]; exact hp0) (by omega) (by rw [← k20]; omega)
          refine X_getK hK fl_X7_18_8 hs_a0 (xs_s hg15) dX7_readFact_68 ?_
          refine X_iconst hK dX7_readFact_71 ?_
          refine X_iadd hK dX7_readFact_72 ?_
          refine X_puti hK fl_X7_18_8 hs_a0 (by decide) sl_8_2 (by omega) (by omega) dX7_readFact_73 (fun g23 hg23 => ?_)
          refine X_aloadn hK (i := 1) 3 dX7_readFact_76 rfl rfl ?_
          refine X_iloadn hK (i := 2) 4 dX7_readFact_77 rfl rfl ?_
          refine X_iloadn hK (i := 3) 1 dX7_readFact_78 rfl rfl ?_
          refine X_bipush hK dX7_readFact_79 (by decide) ?_
          refine X_isub hK dX7_readFact_81 ?_
          refine X_iload hK (i := 4) 0 dX7_readFact_82 rfl ?_
          refine X_callV hK [.int (iI x2), .int (iI (z5 - 27)), .int (iI (z19 - 100))] [] lk_X7_129 (c_X10_addStep _ _ _ _ _ S g23 a1 x2 (z5 - 27) (z19 - 100) hs_a1 (by omega) (by omega) (by omega)) hs_a1 ⟨by decide, rfl⟩ dX7_readFact_84 rfl rfl (by simp [Value.category]) (by decide) (by decide) (by decide) (by decide) (fun r24 S26 g25 pr24 qr24 hg25 => ?_)
          obtain ⟨rfl, rfl⟩ := pr24
          refine X_st [] rfl ?_
          exact hret _ _ _ _ _ _ dX7_readFact_87 ⟨rfl, rfl, ⟨nf, ((na + 1) + 1), no, nq, ((hg25 a0 8 0 5 hs_a0 (by decide)).trans ((xs_k hg23 (by decide)).trans ((xs_k hg15 (by decide)).trans enf))), by omega, by omega, ((hg25 a0 8 0 2 hs_a0 (by decide)).trans (xs_s hg23)), by omega, by omega, ((hg25 a0 8 0 3 hs_a0 (by decide)).trans ((xs_k hg23 (by decide)).trans ((xs_k hg15 (by decide)).trans eno))), by omega, by omega, ((hg25 a0 8 0 6 hs_a0 (by decide)).trans ((xs_k hg23 (by decide)).trans ((xs_k hg15 (by decide)).trans enq))), by omega, by omega, (by rw [show nf = 0 by omega]; exact xRR.cmp (by omega) (by omega) (by rw [show na - 1 + 1 = na by omega, ← k6]; omega) (by rw [show na - 1 + 2 = na + 1 by omega, ← k20]; omega) (by omega) (by omega))⟩⟩ (Nat.le_refl _) (Nat.le_refl _)
        · refine X_aloadn hK (i := 0) 2 dX7_readFact_60 rfl rfl ?_
          refine X_iconst hK dX7_readFact_61 ?_
          refine X_callV hK [.int (iI 1)] [] lk_X7_60 (c3_tell _ _ _ _ _ S g15 a0 1 (na + 1) no nf nq wt wp tk tl cn hs_a0 (by omega) (by omega) (xs_s hg15) (by omega) ((xs_k hg15 (by decide)).trans eno) (by omega) ((xs_k hg15 (by decide)).trans enf) (by omega) ((xs_k hg15 (by decide)).trans enq) ((xs_k hg15 (by decide)).trans ewt) hs_wt ((xs_k hg15 (by decide)).trans ewp) hs_wp (by rw [(xv_a hg15 (xne hs_wt hs_a0 (by decide))), (xv_a hg15 (xne hs_wp hs_a0 (by decide)))]; exact hp0) (by omega) (by omega)) hs_a0 ⟨by decide, rfl⟩ dX7_readFact_62 rfl rfl (by simp [Value.category]) (by decide) (by decide) (by decide) (by decide) (fun r27 S29 g28 pr27 qr27 hg28 => ?_)
          obtain ⟨rfl, rfl, k30⟩ := pr27
          refine X_st [] rfl ?_
          obtain ⟨Ft31, at31, ot31, qt31, eFt31, lFt31, uFt31, eat31, lat31, uat31, eot31, lot31, uot31, eqt31, lqt31, uqt31, kt31⟩ := k30
          have cat31 : at31 ≤ 300 := by have h9 := (show xTB (xv g28 wt) (xv g28 wp) tk tl cn from (by rw [(Eq.trans (xv_m hg28 hs_wt (by decide) (by decide)) (xv_a hg15 (xne hs_wt hs_a0 (by decide)))), (Eq.trans (xv_m hg28 hs_wp (by decide) (by decide)) (xv_a hg15 (xne hs_wp hs_a0 (by decide))))]; exact hp0)).2.2.2; omega
          exact hret _ _ _ _ _ _ dX7_readFact_65 ⟨rfl, rfl, ⟨Ft31, at31, ot31, qt31, eFt31, by omega, by omega, eat31, by omega, by omega, eot31, by omega, by omega, eqt31, by omega, by omega, (by obtain ⟨h8, h7, h6⟩ := kt31; have h5 := h8.resolve_left (fun q9 => by omega); rw [h5.2.1]; exact xRR.fn (by omega) (by omega) (by rw [show na - 1 + 1 = na by omega, ← k6]; omega) (by rw [show na - 1 + 2 = na + 1 by omega, ← k20]; omega) (by rw [show na - 1 + 2 = na + 1 by omega]; exact h5.2.2))⟩⟩ (Nat.le_refl _) (Nat.le_refl _)
      · refine X_aloadn hK (i := 0) 1 dX7_readFact_30 rfl rfl ?_
        refine X_iconst hK dX7_readFact_31 ?_
        refine X_callV hK [.int (iI 1)] [] lk_X7_60 (c3_tell _ _ _ _ _ S g a0 1 na no nf nq wt wp tk tl cn hs_a0 (by omega) (by omega) ena (by omega) eno (by omega) enf (by omega) enq ewt hs_wt ewp hs_wp hp0 (by omega) (by omega)) hs_a0 ⟨by decide, rfl⟩ dX7_readFact_32 rfl rfl (by simp [Value.category]) (by decide) (by decide) (by decide) (by decide) (fun r32 S34 g33 pr32 qr32 hg33 => ?_)
        obtain ⟨rfl, rfl, k35⟩ := pr32
        refine X_st [] rfl ?_
        obtain ⟨Ft36, at36, ot36, qt36, eFt36, lFt36, uFt36, eat36, lat36, uat36, eot36, lot36, uot36, eqt36, lqt36, uqt36, kt36⟩ := k35
        have cat36 : at36 ≤ 300 := by have h9 := (show xTB (xv g33 wt) (xv g33 wp) tk tl cn from (by rw [(xv_m hg33 hs_wt (by decide) (by decide)), (xv_m hg33 hs_wp (by decide) (by decide))]; exact hp0)).2.2.2; omega
        exact hret _ _ _ _ _ _ dX7_readFact_35 ⟨rfl, rfl, ⟨Ft36, at36, ot36, qt36, eFt36, by omega, by omega, eat36, by omega, by omega, eot36, by omega, by omega, eqt36, by omega, by omega, (by obtain ⟨h8, h7, h6⟩ := kt36; have h5 := h8.resolve_left (fun q9 => by omega); rw [h5.2.1]; exact xRR.fs (by omega) (by omega) (by rw [show na - 1 + 1 = na by omega, ← k6]; omega) (by rw [show na - 1 + 1 = na by omega]; exact h5.2.2))⟩⟩ (Nat.le_refl _) (Nat.le_refl _)
  · refine X_aloadn hK (i := 1) 1 dX7_readFact_5 rfl rfl ?_
    refine X_iloadn hK (i := 2) 2 dX7_readFact_6 rfl rfl ?_
    refine X_iconst hK dX7_readFact_7 ?_
    refine X_iconst hK dX7_readFact_8 ?_
    refine X_callV hK [.int (iI x2), .int (iI 2), .int (iI 0)] [] lk_X7_129 (c_X10_addStep _ _ _ _ _ S g a1 x2 2 0 hs_a1 (by omega) (by omega) (by omega)) hs_a1 ⟨by decide, rfl⟩ dX7_readFact_9 rfl rfl (by simp [Value.category]) (by decide) (by decide) (by decide) (by decide) (fun r37 S39 g38 pr37 qr37 hg38 => ?_)
    obtain ⟨rfl, rfl⟩ := pr37
    refine X_st [] rfl ?_
    exact hret _ _ _ _ _ _ dX7_readFact_12 ⟨rfl, rfl, ⟨nf, na, no, nq, ((hg38 a0 8 0 5 hs_a0 (by decide)).trans enf), by omega, by omega, ((hg38 a0 8 0 2 hs_a0 (by decide)).trans ena), by omega, by omega, ((hg38 a0 8 0 3 hs_a0 (by decide)).trans eno), by omega, by omega, ((hg38 a0 8 0 6 hs_a0 (by decide)).trans enq), by omega, by omega, (by rw [show nf = 0 by omega]; exact xRR.flag (by omega) (by omega) (by omega) (by omega))⟩⟩ (Nat.le_refl _) (Nat.le_refl _)

set_option maxHeartbeats 4000000 in
set_option maxRecDepth 100000 in
theorem c3_readOne_11 (l : Launch) (D : va_G) (kA : Nat → ClassId) (b0 : Nat) (t0 : Nat → Nat) (S : xT) (g : xG) (a0 : Nat) (a1 : Nat) (x2 : Int) (na : Int) (no : Int) (nf : Int) (nq : Int) (wt : Nat) (wp : Nat) (tk : Int → Int) (tl : Int → Int) (cn : Int) (hs_a0 : S a0 = some (8, 0)) (hs_a1 : S a1 = some (11, 0)) (hx2 : 11 ≤ x2 ∧ x2 ≤ 11) (hna : 0 ≤ na ∧ na ≤ 300) (ena : g a0 2 = .int (iI na)) (hno : 0 ≤ no ∧ no ≤ 50) (eno : g a0 3 = .int (iI no)) (hnf : 0 ≤ nf ∧ nf ≤ 0) (enf : g a0 5 = .int (iI nf)) (hnq : 0 ≤ nq ∧ nq ≤ 300) (enq : g a0 6 = .int (iI nq)) (ewt : g a0 0 = .ref wt) (hs_wt : S wt = some (12900, 301)) (ewp : g a0 1 = .ref wp) (hs_wp : S wp = some (13000, 301)) (hp0 : xTB (xv g wt) (xv g wp) tk tl cn) (hp1 : na ≤ cn) (hp2 : cn ≤ 300) : xMt l yX7_readOne cX7_readOne 5 none 1 0 0 21 D kA b0 t0 [(8, 5), (8, 6)] [.ref a0, .ref a1, .int (iI x2)] S g (fun (r : Option Value) (S1 : xT) (g1 : xG) => S = S1 ∧ r = none ∧ (∃ F a o q : Int, g1 a0 5 = .int (iI F) ∧ -2147483648 ≤ F ∧ F ≤ 2147483647 ∧ g1 a0 2 = .int (iI a) ∧ 0 ≤ a ∧ a ≤ cn ∧ g1 a0 3 = .int (iI o) ∧ 0 ≤ o ∧ o ≤ 50 ∧ g1 a0 6 = .int (iI q) ∧ 0 ≤ q ∧ q ≤ 300 ∧ xRR tk tl 0 11 na no F a o q)) := by
  refine xEnterV (by decide) (by simp [lg_sl, Value.category]) [(0, .ref a0), (1, .ref a1), (2, .int (iI x2))] rfl ?_
  intro K E hK hret _ _ _
  refine X_aloadn hK (i := 0) 0 dX7_readOne_0 rfl rfl ?_
  refine X_callV hK [] [] lk_X7_47 (c3_now _ _ _ _ _ S g a0 na wt wp tk tl cn hs_a0 (by omega) ena ewt hs_wt ewp hs_wp hp0 (by omega) (by omega)) hs_a0 ⟨by decide, rfl⟩ dX7_readOne_1 rfl rfl (by simp [Value.category]) (by decide) (by decide) (by decide) (by decide) (fun r1 S3 g2 pr1 qr1 hg2 => ?_)
  obtain ⟨rfl, rfl, z4, rfl, lz4, uz4, k5⟩ := pr1
  refine X_st [.int (iI z4)] rfl ?_
  refine X_istoren hK (i := 3) [(3, .int (iI z4)), (0, .ref a0), (1, .ref a1), (2, .int (iI x2))] dX7_readOne_4 rfl (by decide) rfl ?_
  refine X_iloadn hK (i := 3) 0 dX7_readOne_5 rfl rfl ?_
  refine X_bipush hK dX7_readOne_6 (by decide) ?_
  refine X_icmp_lt hK 21 (by omega) (by omega) dX7_readOne_8 (by decide) (fun c6 => ?_) (fun c6 => ?_)
  · refine X_iconst hK dX7_readOne_21 ?_
    refine X_istore hK (i := 4) [(4, .int (iI 0)), (3, .int (iI z4)), (0, .ref a0), (1, .ref a1), (2, .int (iI x2))] dX7_readOne_22 (by decide) rfl ?_
    refine X_iload hK (i := 4) 0 dX7_readOne_24 rfl ?_
    refine X_if_ne hK 49 (by omega) dX7_readOne_26 (by decide) (fun c7 => False.elim (by omega)) (fun c7 => ?_)
    refine X_iloadn hK (i := 3) 1 dX7_readOne_29 rfl rfl ?_
    refine X_bipush hK dX7_readOne_30 (by decide) ?_
    refine X_icmp_eq hK 49 (by omega) (by omega) dX7_readOne_32 (by decide) (fun c8 => ?_) (fun c8 => ?_)
    · refine X_aloadn hK (i := 0) 2 dX7_readOne_49 rfl rfl ?_
      refine X_getK hK fl_X7_22_8 hs_a0 eno dX7_readOne_50 ?_
      refine X_bipush hK dX7_readOne_53 (by decide) ?_
      refine X_icmp_ge hK 64 (by omega) (by omega) dX7_readOne_55 (by decide) (fun c9 => ?_) (fun c9 => ?_)
      · refine X_aloadn hK (i := 0) 2 dX7_readOne_64 rfl rfl ?_
        refine X_iconst hK dX7_readOne_65 ?_
        refine X_callV hK [.int (iI 4)] [] lk_X7_60 (c3_tell _ _ _ _ _ S g a0 4 na no nf nq wt wp tk tl cn hs_a0 (by omega) (by omega) ena (by omega) eno (by omega) enf (by omega) enq ewt hs_wt ewp hs_wp hp0 (by omega) (by omega)) hs_a0 ⟨by decide, rfl⟩ dX7_readOne_66 rfl rfl (by simp [Value.category]) (by decide) (by decide) (by decide) (by decide) (fun r10 S12 g11 pr10 qr10 hg11 => ?_)
        obtain ⟨rfl, rfl, k13⟩ := pr10
        refine X_st [] rfl ?_
        obtain ⟨Ft14, at14, ot14, qt14, eFt14, lFt14, uFt14, eat14, lat14, uat14, eot14, lot14, uot14, eqt14, lqt14, uqt14, kt14⟩ := k13
        have cat14 : at14 ≤ 300 := by have h9 := (show xTB (xv g11 wt) (xv g11 wp) tk tl cn from (by rw [(xv_m hg11 hs_wt (by decide) (by decide)), (xv_m hg11 hs_wp (by decide) (by decide))]; exact hp0)).2.2.2; omega
        refine X_goto hK 148 dX7_readOne_69 (by decide) ?_
        exact hret _ _ _ _ _ _ dX7_readOne_148 ⟨rfl, rfl, ⟨Ft14, at14, ot14, qt14, eFt14, by omega, by omega, eat14, by omega, by omega, eot14, by omega, by omega, eqt14, by omega, by omega, (by obtain ⟨h8, h7, h6⟩ := kt14; have h5 := h8.resolve_left (fun q9 => by omega); rw [h5.2.1]; exact xRR.f4 (by rw [← k5]; omega) (by omega) h5.2.2)⟩⟩ (Nat.le_refl _) (Nat.le_refl _)
      · refine X_iloadn hK (i := 2) 4 dX7_readOne_58 rfl rfl ?_
        refine X_bipush hK dX7_readOne_59 (by decide) ?_
        refine X_icmp_le hK 72 (by omega) (by omega) dX7_readOne_61 (by decide) (fun c15 => False.elim (by omega)) (fun c15 => ?_)
        refine X_aloadn hK (i := 0) 2 dX7_readOne_64 rfl rfl ?_
        refine X_iconst hK dX7_readOne_65 ?_
        refine X_callV hK [.int (iI 4)] [] lk_X7_60 (c3_tell _ _ _ _ _ S g a0 4 na no nf nq wt wp tk tl cn hs_a0 (by omega) (by omega) ena (by omega) eno (by omega) enf (by omega) enq ewt hs_wt ewp hs_wp hp0 (by omega) (by omega)) hs_a0 ⟨by decide, rfl⟩ dX7_readOne_66 rfl rfl (by simp [Value.category]) (by decide) (by decide) (by decide) (by decide) (fun r16 S18 g17 pr16 qr16 hg17 => ?_)
        obtain ⟨rfl, rfl, k19⟩ := pr16
        refine X_st [] rfl ?_
        obtain ⟨Ft20, at20, ot20, qt20, eFt20, lFt20, uFt20, eat20, lat20, uat20, eot20, lot20, uot20, eqt20, lqt20, uqt20, kt20⟩ := k19
        have cat20 : at20 ≤ 300 := by have h9 := (show xTB (xv g17 wt) (xv g17 wp) tk tl cn from (by rw [(xv_m hg17 hs_wt (by decide) (by decide)), (xv_m hg17 hs_wp (by decide) (by decide))]; exact hp0)).2.2.2; omega
        refine X_goto hK 148 dX7_readOne_69 (by decide) ?_
        exact hret _ _ _ _ _ _ dX7_readOne_148 ⟨rfl, rfl, ⟨Ft20, at20, ot20, qt20, eFt20, by omega, by omega, eat20, by omega, by omega, eot20, by omega, by omega, eqt20, by omega, by omega, (by obtain ⟨h8, h7, h6⟩ := kt20; have h5 := h8.resolve_left (fun q9 => by omega); rw [h5.2.1]; exact xRR.f4 (by rw [← k5]; omega) (by omega) h5.2.2)⟩⟩ (Nat.le_refl _) (Nat.le_refl _)
    · refine X_iloadn hK (i := 3) 1 dX7_readOne_35 rfl rfl ?_
      refine X_bipush hK dX7_readOne_36 (by decide) ?_
      refine X_icmp_eq hK 49 (by omega) (by omega) dX7_readOne_38 (by decide) (fun c21 => False.elim (by omega)) (fun c21 => ?_)
      refine X_aloadn hK (i := 0) 2 dX7_readOne_41 rfl rfl ?_
      refine X_iconst hK dX7_readOne_42 ?_
      refine X_callV hK [.int (iI 1)] [] lk_X7_60 (c3_tell _ _ _ _ _ S g a0 1 na no nf nq wt wp tk tl cn hs_a0 (by omega) (by omega) ena (by omega) eno (by omega) enf (by omega) enq ewt hs_wt ewp hs_wp hp0 (by omega) (by omega)) hs_a0 ⟨by decide, rfl⟩ dX7_readOne_43 rfl rfl (by simp [Value.category]) (by decide) (by decide) (by decide) (by decide) (fun r22 S24 g23 pr22 qr22 hg23 => ?_)
      obtain ⟨rfl, rfl, k25⟩ := pr22
      refine X_st [] rfl ?_
      obtain ⟨Ft26, at26, ot26, qt26, eFt26, lFt26, uFt26, eat26, lat26, uat26, eot26, lot26, uot26, eqt26, lqt26, uqt26, kt26⟩ := k25
      have cat26 : at26 ≤ 300 := by have h9 := (show xTB (xv g23 wt) (xv g23 wp) tk tl cn from (by rw [(xv_m hg23 hs_wt (by decide) (by decide)), (xv_m hg23 hs_wp (by decide) (by decide))]; exact hp0)).2.2.2; omega
      refine X_goto hK 148 dX7_readOne_46 (by decide) ?_
      exact hret _ _ _ _ _ _ dX7_readOne_148 ⟨rfl, rfl, ⟨Ft26, at26, ot26, qt26, eFt26, by omega, by omega, eat26, by omega, by omega, eot26, by omega, by omega, eqt26, by omega, by omega, (by obtain ⟨h8, h7, h6⟩ := kt26; have h5 := h8.resolve_left (fun q9 => by omega); rw [h5.2.1]; exact xRR.f1 (by rw [← k5]; omega) h5.2.2)⟩⟩ (Nat.le_refl _) (Nat.le_refl _)
  · refine X_iloadn hK (i := 3) 0 dX7_readOne_11 rfl rfl ?_
    refine X_bipush hK dX7_readOne_12 (by decide) ?_
    refine X_icmp_ge hK 21 (by omega) (by omega) dX7_readOne_14 (by decide) (fun c27 => ?_) (fun c27 => ?_)
    · refine X_iconst hK dX7_readOne_21 ?_
      refine X_istore hK (i := 4) [(4, .int (iI 0)), (3, .int (iI z4)), (0, .ref a0), (1, .ref a1), (2, .int (iI x2))] dX7_readOne_22 (by decide) rfl ?_
      refine X_iload hK (i := 4) 0 dX7_readOne_24 rfl ?_
      refine X_if_ne hK 49 (by omega) dX7_readOne_26 (by decide) (fun c28 => False.elim (by omega)) (fun c28 => ?_)
      refine X_iloadn hK (i := 3) 1 dX7_readOne_29 rfl rfl ?_
      refine X_bipush hK dX7_readOne_30 (by decide) ?_
      refine X_icmp_eq hK 49 (by omega) (by omega) dX7_readOne_32 (by decide) (fun c29 => False.elim (by omega)) (fun c29 => ?_)
      refine X_iloadn hK (i := 3) 1 dX7_readOne_35 rfl rfl ?_
      refine X_bipush hK dX7_readOne_36 (by decide) ?_
      refine X_icmp_eq hK 49 (by omega) (by omega) dX7_readOne_38 (by decide) (fun c30 => ?_) (fun c30 => ?_)
      · refine X_aloadn hK (i := 0) 2 dX7_readOne_49 rfl rfl ?_
        refine X_getK hK fl_X7_22_8 hs_a0 eno dX7_readOne_50 ?_
        refine X_bipush hK dX7_readOne_53 (by decide) ?_
        refine X_icmp_ge hK 64 (by omega) (by omega) dX7_readOne_55 (by decide) (fun c31 => ?_) (fun c31 => ?_)
        · refine X_aloadn hK (i := 0) 2 dX7_readOne_64 rfl rfl ?_
          refine X_iconst hK dX7_readOne_65 ?_
          refine X_callV hK [.int (iI 4)] [] lk_X7_60 (c3_tell _ _ _ _ _ S g a0 4 na no nf nq wt wp tk tl cn hs_a0 (by omega) (by omega) ena (by omega) eno (by omega) enf (by omega) enq ewt hs_wt ewp hs_wp hp0 (by omega) (by omega)) hs_a0 ⟨by decide, rfl⟩ dX7_readOne_66 rfl rfl (by simp [Value.category]) (by decide) (by decide) (by decide) (by decide) (fun r32 S34 g33 pr32 qr32 hg33 => ?_)
          obtain ⟨rfl, rfl, k35⟩ := pr32
          refine X_st [] rfl ?_
          obtain ⟨Ft36, at36, ot36, qt36, eFt36, lFt36, uFt36, eat36, lat36, uat36, eot36, lot36, uot36, eqt36, lqt36, uqt36, kt36⟩ := k35
          have cat36 : at36 ≤ 300 := by have h9 := (show xTB (xv g33 wt) (xv g33 wp) tk tl cn from (by rw [(xv_m hg33 hs_wt (by decide) (by decide)), (xv_m hg33 hs_wp (by decide) (by decide))]; exact hp0)).2.2.2; omega
          refine X_goto hK 148 dX7_readOne_69 (by decide) ?_
          exact hret _ _ _ _ _ _ dX7_readOne_148 ⟨rfl, rfl, ⟨Ft36, at36, ot36, qt36, eFt36, by omega, by omega, eat36, by omega, by omega, eot36, by omega, by omega, eqt36, by omega, by omega, (by obtain ⟨h8, h7, h6⟩ := kt36; have h5 := h8.resolve_left (fun q9 => by omega); rw [h5.2.1]; exact xRR.f4 (by rw [← k5]; omega) (by omega) h5.2.2)⟩⟩ (Nat.le_refl _) (Nat.le_refl _)
        · refine X_iloadn hK (i := 2) 4 dX7_readOne_58 rfl rfl ?_
          refine X_bipush hK dX7_readOne_59 (by decide) ?_
          refine X_icmp_le hK 72 (by omega) (by omega) dX7_readOne_61 (by decide) (fun c37 => False.elim (by omega)) (fun c37 => ?_)
          refine X_aloadn hK (i := 0) 2 dX7_readOne_64 rfl rfl ?_
          refine X_iconst hK dX7_readOne_65 ?_
          refine X_callV hK [.int (iI 4)] [] lk_X7_60 (c3_tell _ _ _ _ _ S g a0 4 na no nf nq wt wp tk tl cn hs_a0 (by omega) (by omega) ena (by omega) eno (by omega) enf (by omega) enq ewt hs_wt ewp hs_wp hp0 (by omega) (by omega)) hs_a0 ⟨by decide, rfl⟩ dX7_readOne_66 rfl rfl (by simp [Value.category]) (by decide) (by decide) (by decide) (by decide) (fun r38 S40 g39 pr38 qr38 hg39 => ?_)
          obtain ⟨rfl, rfl, k41⟩ := pr38
          refine X_st [] rfl ?_
          obtain ⟨Ft42, at42, ot42, qt42, eFt42, lFt42, uFt42, eat42, lat42, uat42, eot42, lot42, uot42, eqt42, lqt42, uqt42, kt42⟩ := k41
          have cat42 : at42 ≤ 300 := by have h9 := (show xTB (xv g39 wt) (xv g39 wp) tk tl cn from (by rw [(xv_m hg39 hs_wt (by decide) (by decide)), (xv_m hg39 hs_wp (by decide) (by decide))]; exact hp0)).2.2.2; omega
          refine X_goto hK 148 dX7_readOne_69 (by decide) ?_
          exact hret _ _ _ _ _ _ dX7_readOne_148 ⟨rfl, rfl, ⟨Ft42, at42, ot42, qt42, eFt42, by omega, by omega, eat42, by omega, by omega, eot42, by omega, by omega, eqt42, by omega, by omega, (by obtain ⟨h8, h7, h6⟩ := kt42; have h5 := h8.resolve_left (fun q9 => by omega); rw [h5.2.1]; exact xRR.f4 (by rw [← k5]; omega) (by omega) h5.2.2)⟩⟩ (Nat.le_refl _) (Nat.le_refl _)
      · refine X_aloadn hK (i := 0) 2 dX7_readOne_41 rfl rfl ?_
        refine X_iconst hK dX7_readOne_42 ?_
        refine X_callV hK [.int (iI 1)] [] lk_X7_60 (c3_tell _ _ _ _ _ S g a0 1 na no nf nq wt wp tk tl cn hs_a0 (by omega) (by omega) ena (by omega) eno (by omega) enf (by omega) enq ewt hs_wt ewp hs_wp hp0 (by omega) (by omega)) hs_a0 ⟨by decide, rfl⟩ dX7_readOne_43 rfl rfl (by simp [Value.category]) (by decide) (by decide) (by decide) (by decide) (fun r43 S45 g44 pr43 qr43 hg44 => ?_)
        obtain ⟨rfl, rfl, k46⟩ := pr43
        refine X_st [] rfl ?_
        obtain ⟨Ft47, at47, ot47, qt47, eFt47, lFt47, uFt47, eat47, lat47, uat47, eot47, lot47, uot47, eqt47, lqt47, uqt47, kt47⟩ := k46
        have cat47 : at47 ≤ 300 := by have h9 := (show xTB (xv g44 wt) (xv g44 wp) tk tl cn from (by rw [(xv_m hg44 hs_wt (by decide) (by decide)), (xv_m hg44 hs_wp (by decide) (by decide))]; exact hp0)).2.2.2; omega
        refine X_goto hK 148 dX7_readOne_46 (by decide) ?_
        exact hret _ _ _ _ _ _ dX7_readOne_148 ⟨rfl, rfl, ⟨Ft47, at47, ot47, qt47, eFt47, by omega, by omega, eat47, by omega, by omega, eot47, by omega, by omega, eqt47, by omega, by omega, (by obtain ⟨h8, h7, h6⟩ := kt47; have h5 := h8.resolve_left (fun q9 => by omega); rw [h5.2.1]; exact xRR.f1 (by rw [← k5]; omega) h5.2.2)⟩⟩ (Nat.le_refl _) (Nat.le_refl _)
    · refine X_iconst hK dX7_readOne_17 ?_
      refine X_goto hK 22 dX7_readOne_18 (by decide) ?_
      refine X_istore hK (i := 4) [(4, .int (iI 1)), (3, .int (iI z4)), (0, .ref a0), (1, .ref a1), (2, .int (iI x2))] dX7_readOne_22 (by decide) rfl ?_
      refine X_iload hK (i := 4) 0 dX7_readOne_24 rfl ?_
      refine X_if_ne hK 49 (by omega) dX7_readOne_26 (by decide) (fun c48 => ?_) (fun c48 => False.elim (by omega))
      refine X_aloadn hK (i := 0) 2 dX7_readOne_49 rfl rfl ?_
      refine X_getK hK fl_X7_22_8 hs_a0 eno dX7_readOne_50 ?_
      refine X_bipush hK dX7_readOne_53 (by decide) ?_
      refine X_icmp_ge hK 64 (by omega) (by omega) dX7_readOne_55 (by decide) (fun c49 => ?_) (fun c49 => ?_)
      · refine X_aloadn hK (i := 0) 2 dX7_readOne_64 rfl rfl ?_
        refine X_iconst hK dX7_readOne_65 ?_
        refine X_callV hK [.int (iI 4)] [] lk_X7_60 (c3_tell _ _ _ _ _ S g a0 4 na no nf nq wt wp tk tl cn hs_a0 (by omega) (by omega) ena (by omega) eno (by omega) enf (by omega) enq ewt hs_wt ewp hs_wp hp0 (by omega) (by omega)) hs_a0 ⟨by decide, rfl⟩ dX7_readOne_66 rfl rfl (by simp [Value.category]) (by decide) (by decide) (by decide) (by decide) (fun r50 S52 g51 pr50 qr50 hg51 => ?_)
        obtain ⟨rfl, rfl, k53⟩ := pr50
        refine X_st [] rfl ?_
        obtain ⟨Ft54, at54, ot54, qt54, eFt54, lFt54, uFt54, eat54, lat54, uat54, eot54, lot54, uot54, eqt54, lqt54, uqt54, kt54⟩ := k53
        have cat54 : at54 ≤ 300 := by have h9 := (show xTB (xv g51 wt) (xv g51 wp) tk tl cn from (by rw [(xv_m hg51 hs_wt (by decide) (by decide)), (xv_m hg51 hs_wp (by decide) (by decide))]; exact hp0)).2.2.2; omega
        refine X_goto hK 148 dX7_readOne_69 (by decide) ?_
        exact hret _ _ _ _ _ _ dX7_readOne_148 ⟨rfl, rfl, ⟨Ft54, at54, ot54, qt54, eFt54, by omega, by omega, eat54, by omega, by omega, eot54, by omega, by omega, eqt54, by omega, by omega, (by obtain ⟨h8, h7, h6⟩ := kt54; have h5 := h8.resolve_left (fun q9 => by omega); rw [h5.2.1]; exact xRR.f4 (by rw [← k5]; omega) (by omega) h5.2.2)⟩⟩ (Nat.le_refl _) (Nat.le_refl _)
      · refine X_iloadn hK (i := 2) 4 dX7_readOne_58 rfl rfl ?_
        refine X_bipush hK dX7_readOne_59 (by decide) ?_
        refine X_icmp_le hK 72 (by omega) (by omega) dX7_readOne_61 (by decide) (fun c55 => False.elim (by omega)) (fun c55 => ?_)
        refine X_aloadn hK (i := 0) 2 dX7_readOne_64 rfl rfl ?_
        refine X_iconst hK dX7_readOne_65 ?_
        refine X_callV hK [.int (iI 4)] [] lk_X7_60 (c3_tell _ _ _ _ _ S g a0 4 na no nf nq wt wp tk tl cn hs_a0 (by omega) (by omega) ena (by omega) eno (by omega) enf (by omega) enq ewt hs_wt ewp hs_wp hp0 (by omega) (by omega)) hs_a0 ⟨by decide, rfl⟩ dX7_readOne_66 rfl rfl (by simp [Value.category]) (by decide) (by decide) (by decide) (by decide) (fun r56 S58 g57 pr56 qr56 hg57 => ?_)
        obtain ⟨rfl, rfl, k59⟩ := pr56
        refine X_st [] rfl ?_
        obtain ⟨Ft60, at60, ot60, qt60, eFt60, lFt60, uFt60, eat60, lat60, uat60, eot60, lot60, uot60, eqt60, lqt60, uqt60, kt60⟩ := k59
        have cat60 : at60 ≤ 300 := by have h9 := (show xTB (xv g57 wt) (xv g57 wp) tk tl cn from (by rw [(xv_m hg57 hs_wt (by decide) (by decide)), (xv_m hg57 hs_wp (by decide) (by decide))]; exact hp0)).2.2.2; omega
        refine X_goto hK 148 dX7_readOne_69 (by decide) ?_
        exact hret _ _ _ _ _ _ dX7_readOne_148 ⟨rfl, rfl, ⟨Ft60, at60, ot60, qt60, eFt60, by omega, by omega, eat60, by omega, by omega, eot60, by omega, by omega, eqt60, by omega, by omega, (by obtain ⟨h8, h7, h6⟩ := kt60; have h5 := h8.resolve_left (fun q9 => by omega); rw [h5.2.1]; exact xRR.f4 (by rw [← k5]; omega) (by omega) h5.2.2)⟩⟩ (Nat.le_refl _) (Nat.le_refl _)

set_option maxHeartbeats 4000000 in
set_option maxRecDepth 100000 in
theorem c3_readAll_11 (l : Launch) (D : va_G) (kA : Nat → ClassId) (b0 : Nat) (t0 : Nat → Nat) (S : xT) (g : xG) (a0 : Nat) (a1 : Nat) (x2 : Int) (na : Int) (no : Int) (nf : Int) (nq : Int) (wt : Nat) (wp : Nat) (tk : Int → Int) (tl : Int → Int) (cn : Int) (hs_a0 : S a0 = some (8, 0)) (hs_a1 : S a1 = some (11, 0)) (hx2 : 11 ≤ x2 ∧ x2 ≤ 11) (hna : 0 ≤ na ∧ na ≤ 300) (ena : g a0 2 = .int (iI na)) (hno : 0 ≤ no ∧ no ≤ 50) (eno : g a0 3 = .int (iI no)) (hnf : 0 ≤ nf ∧ nf ≤ 0) (enf : g a0 5 = .int (iI nf)) (hnq : 0 ≤ nq ∧ nq ≤ 300) (enq : g a0 6 = .int (iI nq)) (ewt : g a0 0 = .ref wt) (hs_wt : S wt = some (12900, 301)) (ewp : g a0 1 = .ref wp) (hs_wp : S wp = some (13000, 301)) (hp0 : xTB (xv g wt) (xv g wp) tk tl cn) (hp1 : na ≤ cn) (hp2 : cn ≤ 300) : xMt l yX7_readAll cX7_readAll 4 none 2 0 0 45 D kA b0 t0 [(8, 5), (8, 6), (8, 2), (14000, 0), (11, 2)] [.ref a0, .ref a1, .int (iI x2)] S g (fun (r : Option Value) (S1 : xT) (g1 : xG) => S = S1 ∧ r = none ∧ (∃ F a o q : Int, g1 a0 5 = .int (iI F) ∧ -2147483648 ≤ F ∧ F ≤ 2147483647 ∧ g1 a0 2 = .int (iI a) ∧ 0 ≤ a ∧ a ≤ cn ∧ g1 a0 3 = .int (iI o) ∧ 0 ≤ o ∧ o ≤ 50 ∧ g1 a0 6 = .int (iI q) ∧ 0 ≤ q ∧ q ≤ 300 ∧ xRR tk tl 1 11 na no F a o q)) := by
  refine xEnterV (by decide) (by simp [lg_sl, Value.category]) [(0, .ref a0), (1, .ref a1), (2, .int (iI x2))] rfl ?_
  intro K E hK hret _ _ _
  refine X_aloadn hK (i := 0) 0 dX7_readAll_0 rfl rfl ?_
  refine X_aloadn hK (i := 1) 1 dX7_readAll_1 rfl rfl ?_
  refine X_iloadn hK (i := 2) 2 dX7_readAll_2 rfl rfl ?_
  refine X_callV hK [.ref a1, .int (iI x2)] [] lk_X7_132 (c3_readOne_11 _ _ _ _ _ S g a0 a1 x2 na no nf nq wt wp tk tl cn hs_a0 hs_a1 (by omega) (by omega) ena (by omega) eno (by omega) enf (by omega) enq ewt hs_wt ewp hs_wp hp0 (by omega) (by omega)) hs_a0 ⟨by decide, rfl⟩ dX7_readAll_3 rfl rfl (by simp [Value.category]) (by decide) (by decide) (by decide) (by decide) (fun r1 S3 g2 pr1 qr1 hg2 => ?_)
  obtain ⟨rfl, rfl, k4⟩ := pr1
  refine X_st [] rfl ?_
  obtain ⟨Ft5, at5, ot5, qt5, eFt5, lFt5, uFt5, eat5, lat5, uat5, eot5, lot5, uot5, eqt5, lqt5, uqt5, kt5⟩ := k4
  have cat5 : at5 ≤ 300 := by have h9 := (show xTB (xv g2 wt) (xv g2 wp) tk tl cn from (by rw [(xv_m hg2 hs_wt (by decide) (by decide)), (xv_m hg2 hs_wp (by decide) (by decide))]; exact hp0)).2.2.2; omega
  refine X_iconst hK dX7_readAll_6 ?_
  refine X_istoren hK (i := 3) [(3, .int (iI 0)), (0, .ref a0), (1, .ref a1), (2, .int (iI x2))] dX7_readAll_7 rfl (by decide) rfl ?_
  have P120 : ∀ (nP120 : Nat) (g98 : xG) (_ : xM [(14000, 0), (11, 2), (8, 5), (8, 6), (8, 2)] S g2 g98) (z97 : Int) (_ : 0 ≤ z97) (_ : z97 ≤ 50) (q99 : Int) (_ : 0 ≤ q99) (_ : q99 ≤ 300) (_ : g98 a0 2 = .int (iI q99)) (q100 : Int) (_ : 0 ≤ q100) (_ : q100 ≤ 50) (_ : g98 a0 3 = .int (iI q100)) (q101 : Int) (_ : (-2147483648) ≤ q101) (_ : q101 ≤ 2147483647) (_ : g98 a0 5 = .int (iI q101)) (q102 : Int) (_ : 0 ≤ q102) (_ : q102 ≤ 300) (_ : g98 a0 6 = .int (iI q102)) (_ : xIn tk tl 1 11 na no q101 q99 q100 q102) (_ : q101 = 0 → no + 1 + z97 ≤ q100) (_ : q99 ≤ cn) (_ : 60 - z97 < (nP120 : Int)), X K E 8 [(3, .int (iI z97)), (0, .ref a0), (1, .ref a1), (2, .int (iI x2))] [] S g98 0 0 := by
    intro nP120
    induction nP120 with
    | zero => intro g98 hg98 z97 lz97 uz97 q99 lq99 uq99 eq99 q100 lq100 uq100 eq100 q101 lq101 uq101 eq101 q102 lq102 uq102 eq102 v121 v122 v123 mP120; exact False.elim (by omega)
    | succ nP120 ihP120 =>
      intro g98 hg98 z97 lz97 uz97 q99 lq99 uq99 eq99 q100 lq100 uq100 eq100 q101 lq101 uq101 eq101 q102 lq102 uq102 eq102 v121 v122 v123 mP120
      refine X_iloadn hK (i := 3) 0 dX7_readAll_8 rfl rfl ?_
      refine X_bipush hK dX7_readAll_9 (by decide) ?_
      refine X_icmp_ge hK 60 (by omega) (by omega) dX7_readAll_11 (by decide) (fun c124 => ?_) (fun c124 => ?_)
      · exact hret _ _ _ _ _ _ dX7_readAll_60 ⟨rfl, rfl, ⟨q101, q99, q100, q102, eq101, by omega, by omega, eq99, by omega, by omega, eq100, by omega, by omega, eq102, by omega, by omega, (xIn.e v121 (fun h9 => False.elim (by have h8 := v122 h9; omega)))⟩⟩ (Nat.le_refl _) (Nat.le_refl _)
      · refine X_aloadn hK (i := 0) 1 dX7_readAll_14 rfl rfl ?_
        refine X_getK hK fl_X7_29_8 hs_a0 eq101 dX7_readAll_15 ?_
        refine X_if_ne hK 60 (by omega) dX7_readAll_18 (by decide) (fun c125 => ?_) (fun c125 => ?_)
        · exact hret _ _ _ _ _ _ dX7_readAll_60 ⟨rfl, rfl, ⟨q101, q99, q100, q102, eq101, by omega, by omega, eq99, by omega, by omega, eq100, by omega, by omega, eq102, by omega, by omega, (xIn.e v121 (fun h9 => False.elim (by have h8 := v122 h9; omega)))⟩⟩ (Nat.le_refl _) (Nat.le_refl _)
        · refine X_aloadn hK (i := 0) 1 dX7_readAll_21 rfl rfl ?_
          refine X_callV hK [] [] lk_X7_47 (c3_now _ _ _ _ _ S g98 a0 q99 wt wp tk tl cn hs_a0 (by omega) eq99 ((hg98 a0 8 0 0 hs_a0 (by decide)).trans ((hg2 a0 8 0 0 hs_a0 (by decide)).trans ewt)) hs_wt ((hg98 a0 8 0 1 hs_a0 (by decide)).trans ((hg2 a0 8 0 1 hs_a0 (by decide)).trans ewp)) hs_wp (by rw [(Eq.trans (xv_m hg98 hs_wt (by decide) (by decide)) (xv_m hg2 hs_wt (by decide) (by decide))), (Eq.trans (xv_m hg98 hs_wp (by decide) (by decide)) (xv_m hg2 hs_wp (by decide) (by decide)))]; exact hp0) (by omega) (by omega)) hs_a0 ⟨by decide, rfl⟩ dX7_readAll_22 rfl rfl (by simp [Value.category]) (by decide) (by decide) (by decide) (by decide) (fun r126 S128 g127 pr126 qr126 hg127 => ?_)
          obtain ⟨rfl, rfl, z129, rfl, lz129, uz129, k130⟩ := pr126
          refine X_st [.int (iI z129)] rfl ?_
          refine X_bipush hK dX7_readAll_25 (by decide) ?_
          refine X_icmp_ne hK 60 (by omega) (by omega) dX7_readAll_27 (by decide) (fun c131 => ?_) (fun c131 => ?_)
          · exact hret _ _ _ _ _ _ dX7_readAll_60 ⟨rfl, rfl, ⟨q101, q99, q100, q102, eq101, by omega, by omega, eq99, by omega, by omega, eq100, by omega, by omega, eq102, by omega, by omega, (xIn.e v121 (fun h9 => Or.inl ⟨rfl, by rw [← k130]; omega⟩))⟩⟩ (Nat.le_refl _) (Nat.le_refl _)
          · refine X_aloadn hK (i := 0) 1 dX7_readAll_30 rfl rfl ?_
            refine X_dup hK dX7_readAll_31 rfl ?_
            have hl132 := xTB.lt (A := xv g98 wt) (B := xv g98 wp) (tk := tk) (tl := tl) (c := cn) (a := q99) (by rw [(Eq.trans (xv_m hg98 hs_wt (by decide) (by decide)) (xv_m hg2 hs_wt (by decide) (by decide))), (Eq.trans (xv_m hg98 hs_wp (by decide) (by decide)) (xv_m hg2 hs_wp (by decide) (by decide)))]; exact hp0) (by omega) (by rw [← k130]; omega)
            refine X_getK hK fl_X7_18_8 hs_a0 eq99 dX7_readAll_32 ?_
            refine X_iconst hK dX7_readAll_35 ?_
            refine X_iadd hK dX7_readAll_36 ?_
            refine X_puti hK fl_X7_18_8 hs_a0 (by decide) sl_8_2 (by omega) (by omega) dX7_readAll_37 (fun g133 hg133 => ?_)
            refine X_aloadn hK (i := 0) 1 dX7_readAll_40 rfl rfl ?_
            refine X_aloadn hK (i := 1) 2 dX7_readAll_41 rfl rfl ?_
            refine X_iloadn hK (i := 2) 3 dX7_readAll_42 rfl rfl ?_
            refine X_callV hK [.ref a1, .int (iI x2)] [] lk_X7_132 (c3_readOne_11 _ _ _ _ _ S g133 a0 a1 x2 (q99 + 1) q100 q101 q102 wt wp tk tl cn hs_a0 hs_a1 (by omega) (by omega) (xs_s hg133) (by omega) ((xs_k hg133 (by decide)).trans eq100) (by omega) ((xs_k hg133 (by decide)).trans eq101) (by omega) ((xs_k hg133 (by decide)).trans eq102) ((xs_k hg133 (by decide)).trans ((hg98 a0 8 0 0 hs_a0 (by decide)).trans ((hg2 a0 8 0 0 hs_a0 (by decide)).trans ewt))) hs_wt ((xs_k hg133 (by decide)).trans ((hg98 a0 8 0 1 hs_a0 (by decide)).trans ((hg2 a0 8 0 1 hs_a0 (by decide)).trans ewp))) hs_wp (by rw [(Eq.trans (Eq.trans (xv_a hg133 (xne hs_wt hs_a0 (by decide))) (xv_m hg98 hs_wt (by decide) (by decide))) (xv_m hg2 hs_wt (by decide) (by decide))), (Eq.trans (Eq.trans (xv_a hg133 (xne hs_wp hs_a0 (by decide))) (xv_m hg98 hs_wp (by decide) (by decide))) (xv_m hg2 hs_wp (by decide) (by decide)))]; exact hp0) (by omega) (by omega)) hs_a0 ⟨by decide, rfl⟩ dX7_readAll_43 rfl rfl (by simp [Value.category]) (by decide) (by decide) (by decide) (by decide) (fun r134 S136 g135 pr134 qr134 hg135 => ?_)
            obtain ⟨rfl, rfl, k137⟩ := pr134
            refine X_st [] rfl ?_
            obtain ⟨Ft138, at138, ot138, qt138, eFt138, lFt138, uFt138, eat138, lat138, uat138, eot138, lot138, uot138, eqt138, lqt138, uqt138, kt138⟩ := k137
            have cat138 : at138 ≤ 300 := by have h9 := (show xTB (xv g135 wt) (xv g135 wp) tk tl cn from (by rw [(Eq.trans (Eq.trans (Eq.trans (xv_m hg135 hs_wt (by decide) (by decide)) (xv_a hg133 (xne hs_wt hs_a0 (by decide)))) (xv_m hg98 hs_wt (by decide) (by decide))) (xv_m hg2 hs_wt (by decide) (by decide))), (Eq.trans (Eq.trans (Eq.trans (xv_m hg135 hs_wp (by decide) (by decide)) (xv_a hg133 (xne hs_wp hs_a0 (by decide)))) (xv_m hg98 hs_wp (by decide) (by decide))) (xv_m hg2 hs_wp (by decide) (by decide)))]; exact hp0)).2.2.2; omega
            refine X_aloadn hK (i := 1) 2 dX7_readAll_46 rfl rfl ?_
            refine X_bipush hK dX7_readAll_47 (by decide) ?_
            refine X_iconst hK dX7_readAll_49 ?_
            refine X_iconst hK dX7_readAll_50 ?_
            refine X_callV hK [.int (iI 13), .int (iI 0), .int (iI 0)] [] lk_X7_129 (c_X10_addStep _ _ _ _ _ S g135 a1 13 0 0 hs_a1 (by omega) (by omega) (by omega)) hs_a1 ⟨by decide, rfl⟩ dX7_readAll_51 rfl rfl (by simp [Value.category]) (by decide) (by decide) (by decide) (by decide) (fun r139 S141 g140 pr139 qr139 hg140 => ?_)
            obtain ⟨rfl, rfl⟩ := pr139
            refine X_st [] rfl ?_
            refine X_iinc hK (i := 3) (z := z97) (n := 1) 0 [(3, .int (iI (z97 + 1))), (0, .ref a0), (1, .ref a1), (2, .int (iI x2))] dX7_readAll_54 rfl (by decide) rfl ?_
            refine X_goto hK 8 dX7_readAll_57 (by decide) ?_
            exact ihP120  g140 (xM.tr (xM.tr (xM_up (xM.tr xM.rf xLe.rf hg98 (by decide)) hg133 hs_a0 (by decide) (by decide)) xLe.rf hg135 (by decide)) xLe.rf hg140 (by decide)) (z97 + 1) (by omega) (by omega) at138 (by omega) (by omega) ((hg140 a0 8 0 2 hs_a0 (by decide)).trans eat138) ot138 (by omega) (by omega) ((hg140 a0 8 0 3 hs_a0 (by decide)).trans eot138) Ft138 (by omega) (by omega) ((hg140 a0 8 0 5 hs_a0 (by decide)).trans eFt138) qt138 (by omega) (by omega) ((hg140 a0 8 0 6 hs_a0 (by decide)).trans eqt138) (xIn.s (Or.inl ⟨rfl, rfl, (by rw [← k130]; omega)⟩) v121 (by omega) kt138) (fun h9 => by have h8 := xRR.b kt138 h9; omega) (by omega) (by omega)
  exact P120 ((60 - 0 : Int).toNat + 1) g2 xM.rf 0 (by omega) (by omega) at5 (by omega) (by omega) eat5 ot5 (by omega) (by omega) eot5 Ft5 (by omega) (by omega) eFt5 qt5 (by omega) (by omega) eqt5 (xIn.z (Or.inl ⟨rfl, rfl⟩) kt5) (fun h9 => by have h8 := xRR.b kt5 h9; omega) (by omega) (by omega)

set_option maxHeartbeats 4000000 in
set_option maxRecDepth 100000 in
theorem c3_readCond_11 (l : Launch) (D : va_G) (kA : Nat → ClassId) (b0 : Nat) (t0 : Nat → Nat) (S : xT) (g : xG) (a0 : Nat) (a1 : Nat) (x2 : Int) (na : Int) (no : Int) (nf : Int) (nq : Int) (wt : Nat) (wp : Nat) (tk : Int → Int) (tl : Int → Int) (cn : Int) (hs_a0 : S a0 = some (8, 0)) (hs_a1 : S a1 = some (11, 0)) (hx2 : 11 ≤ x2 ∧ x2 ≤ 11) (hna : 0 ≤ na ∧ na ≤ 300) (ena : g a0 2 = .int (iI na)) (hno : 0 ≤ no ∧ no ≤ 50) (eno : g a0 3 = .int (iI no)) (hnf : 0 ≤ nf ∧ nf ≤ 0) (enf : g a0 5 = .int (iI nf)) (hnq : 0 ≤ nq ∧ nq ≤ 300) (enq : g a0 6 = .int (iI nq)) (ewt : g a0 0 = .ref wt) (hs_wt : S wt = some (12900, 301)) (ewp : g a0 1 = .ref wp) (hs_wp : S wp = some (13000, 301)) (hp0 : xTB (xv g wt) (xv g wp) tk tl cn) (hp1 : na ≤ cn) (hp2 : cn ≤ 300) : xMt l yX7_readCond cX7_readCond 4 none 3 0 0 68 D kA b0 t0 [(8, 5), (8, 6), (8, 2), (14000, 0), (11, 2)] [.ref a0, .ref a1, .int (iI x2)] S g (fun (r : Option Value) (S1 : xT) (g1 : xG) => S = S1 ∧ r = none ∧ (∃ F a o q : Int, g1 a0 5 = .int (iI F) ∧ -2147483648 ≤ F ∧ F ≤ 2147483647 ∧ g1 a0 2 = .int (iI a) ∧ 0 ≤ a ∧ a ≤ cn ∧ g1 a0 3 = .int (iI o) ∧ 0 ≤ o ∧ o ≤ 50 ∧ g1 a0 6 = .int (iI q) ∧ 0 ≤ q ∧ q ≤ 300 ∧ xRR tk tl 2 11 na no F a o q)) := by
  refine xEnterV (by decide) (by simp [lg_sl, Value.category]) [(0, .ref a0), (1, .ref a1), (2, .int (iI x2))] rfl ?_
  intro K E hK hret _ _ _
  refine X_aloadn hK (i := 0) 0 dX7_readCond_0 rfl rfl ?_
  refine X_aloadn hK (i := 1) 1 dX7_readCond_1 rfl rfl ?_
  refine X_iloadn hK (i := 2) 2 dX7_readCond_2 rfl rfl ?_
  refine X_callV hK [.ref a1, .int (iI x2)] [] lk_X7_126 (c3_readAll_11 _ _ _ _ _ S g a0 a1 x2 na no nf nq wt wp tk tl cn hs_a0 hs_a1 (by omega) (by omega) ena (by omega) eno (by omega) enf (by omega) enq ewt hs_wt ewp hs_wp hp0 (by omega) (by omega)) hs_a0 ⟨by decide, rfl⟩ dX7_readCond_3 rfl rfl (by simp [Value.category]) (by decide) (by decide) (by decide) (by decide) (fun r1 S3 g2 pr1 qr1 hg2 => ?_)
  obtain ⟨rfl, rfl, k4⟩ := pr1
  refine X_st [] rfl ?_
  obtain ⟨Ft5, at5, ot5, qt5, eFt5, lFt5, uFt5, eat5, lat5, uat5, eot5, lot5, uot5, eqt5, lqt5, uqt5, kt5⟩ := k4
  have cat5 : at5 ≤ 300 := by have h9 := (show xTB (xv g2 wt) (xv g2 wp) tk tl cn from (by rw [(xv_m hg2 hs_wt (by decide) (by decide)), (xv_m hg2 hs_wp (by decide) (by decide))]; exact hp0)).2.2.2; omega
  refine X_iconst hK dX7_readCond_6 ?_
  refine X_istoren hK (i := 3) [(3, .int (iI 0)), (0, .ref a0), (1, .ref a1), (2, .int (iI x2))] dX7_readCond_7 rfl (by decide) rfl ?_
  have P120 : ∀ (nP120 : Nat) (g98 : xG) (_ : xM [(14000, 0), (11, 2), (8, 5), (8, 6), (8, 2)] S g2 g98) (z97 : Int) (_ : 0 ≤ z97) (_ : z97 ≤ 50) (q99 : Int) (_ : 0 ≤ q99) (_ : q99 ≤ 300) (_ : g98 a0 2 = .int (iI q99)) (q100 : Int) (_ : 0 ≤ q100) (_ : q100 ≤ 50) (_ : g98 a0 3 = .int (iI q100)) (q101 : Int) (_ : (-2147483648) ≤ q101) (_ : q101 ≤ 2147483647) (_ : g98 a0 5 = .int (iI q101)) (q102 : Int) (_ : 0 ≤ q102) (_ : q102 ≤ 300) (_ : g98 a0 6 = .int (iI q102)) (_ : xIn tk tl 2 11 na no q101 q99 q100 q102) (_ : q101 = 0 → no + 1 + z97 ≤ q100) (_ : q99 ≤ cn) (_ : 60 - z97 < (nP120 : Int)), X K E 8 [(3, .int (iI z97)), (0, .ref a0), (1, .ref a1), (2, .int (iI x2))] [] S g98 0 0 := by
    intro nP120
    induction nP120 with
    | zero => intro g98 hg98 z97 lz97 uz97 q99 lq99 uq99 eq99 q100 lq100 uq100 eq100 q101 lq101 uq101 eq101 q102 lq102 uq102 eq102 v121 v122 v123 mP120; exact False.elim (by omega)
    | succ nP120 ihP120 =>
      intro g98 hg98 z97 lz97 uz97 q99 lq99 uq99 eq99 q100 lq100 uq100 eq100 q101 lq101 uq101 eq101 q102 lq102 uq102 eq102 v121 v122 v123 mP120
      refine X_iloadn hK (i := 3) 0 dX7_readCond_8 rfl rfl ?_
      refine X_bipush hK dX7_readCond_9 (by decide) ?_
      refine X_icmp_ge hK 60 (by omega) (by omega) dX7_readCond_11 (by decide) (fun c124 => ?_) (fun c124 => ?_)
      · exact hret _ _ _ _ _ _ dX7_readCond_60 ⟨rfl, rfl, ⟨q101, q99, q100, q102, eq101, by omega, by omega, eq99, by omega, by omega, eq100, by omega, by omega, eq102, by omega, by omega, (xIn.e v121 (fun h9 => False.elim (by have h8 := v122 h9; omega)))⟩⟩ (Nat.le_refl _) (Nat.le_refl _)
      · refine X_aloadn hK (i := 0) 1 dX7_readCond_14 rfl rfl ?_
        refine X_getK hK fl_X7_29_8 hs_a0 eq101 dX7_readCond_15 ?_
        refine X_if_ne hK 60 (by omega) dX7_readCond_18 (by decide) (fun c125 => ?_) (fun c125 => ?_)
        · exact hret _ _ _ _ _ _ dX7_readCond_60 ⟨rfl, rfl, ⟨q101, q99, q100, q102, eq101, by omega, by omega, eq99, by omega, by omega, eq100, by omega, by omega, eq102, by omega, by omega, (xIn.e v121 (fun h9 => False.elim (by have h8 := v122 h9; omega)))⟩⟩ (Nat.le_refl _) (Nat.le_refl _)
        · refine X_aloadn hK (i := 0) 1 dX7_readCond_21 rfl rfl ?_
          refine X_callV hK [] [] lk_X7_47 (c3_now _ _ _ _ _ S g98 a0 q99 wt wp tk tl cn hs_a0 (by omega) eq99 ((hg98 a0 8 0 0 hs_a0 (by decide)).trans ((hg2 a0 8 0 0 hs_a0 (by decide)).trans ewt)) hs_wt ((hg98 a0 8 0 1 hs_a0 (by decide)).trans ((hg2 a0 8 0 1 hs_a0 (by decide)).trans ewp)) hs_wp (by rw [(Eq.trans (xv_m hg98 hs_wt (by decide) (by decide)) (xv_m hg2 hs_wt (by decide) (by decide))), (Eq.trans (xv_m hg98 hs_wp (by decide) (by decide)) (xv_m hg2 hs_wp (by decide) (by decide)))]; exact hp0) (by omega) (by omega)) hs_a0 ⟨by decide, rfl⟩ dX7_readCond_22 rfl rfl (by simp [Value.category]) (by decide) (by decide) (by decide) (by decide) (fun r126 S128 g127 pr126 qr126 hg127 => ?_)
          obtain ⟨rfl, rfl, z129, rfl, lz129, uz129, k130⟩ := pr126
          refine X_st [.int (iI z129)] rfl ?_
          refine X_bipush hK dX7_readCond_25 (by decide) ?_
          refine X_icmp_ne hK 60 (by omega) (by omega) dX7_readCond_27 (by decide) (fun c131 => ?_) (fun c131 => ?_)
          · exact hret _ _ _ _ _ _ dX7_readCond_60 ⟨rfl, rfl, ⟨q101, q99, q100, q102, eq101, by omega, by omega, eq99, by omega, by omega, eq100, by omega, by omega, eq102, by omega, by omega, (xIn.e v121 (fun h9 => Or.inr ⟨rfl, by rw [← k130]; omega⟩))⟩⟩ (Nat.le_refl _) (Nat.le_refl _)
          · refine X_aloadn hK (i := 0) 1 dX7_readCond_30 rfl rfl ?_
            refine X_dup hK dX7_readCond_31 rfl ?_
            have hl132 := xTB.lt (A := xv g98 wt) (B := xv g98 wp) (tk := tk) (tl := tl) (c := cn) (a := q99) (by rw [(Eq.trans (xv_m hg98 hs_wt (by decide) (by decide)) (xv_m hg2 hs_wt (by decide) (by decide))), (Eq.trans (xv_m hg98 hs_wp (by decide) (by decide)) (xv_m hg2 hs_wp (by decide) (by decide)))]; exact hp0) (by omega) (by rw [← k130]; omega)
            refine X_getK hK fl_X7_18_8 hs_a0 eq99 dX7_readCond_32 ?_
            refine X_iconst hK dX7_readCond_35 ?_
            refine X_iadd hK dX7_readCond_36 ?_
            refine X_puti hK fl_X7_18_8 hs_a0 (by decide) sl_8_2 (by omega) (by omega) dX7_readCond_37 (fun g133 hg133 => ?_)
            refine X_aloadn hK (i := 0) 1 dX7_readCond_40 rfl rfl ?_
            refine X_aloadn hK (i := 1) 2 dX7_readCond_41 rfl rfl ?_
            refine X_iloadn hK (i := 2) 3 dX7_readCond_42 rfl rfl ?_
            refine X_callV hK [.ref a1, .int (iI x2)] [] lk_X7_126 (c3_readAll_11 _ _ _ _ _ S g133 a0 a1 x2 (q99 + 1) q100 q101 q102 wt wp tk tl cn hs_a0 hs_a1 (by omega) (by omega) (xs_s hg133) (by omega) ((xs_k hg133 (by decide)).trans eq100) (by omega) ((xs_k hg133 (by decide)).trans eq101) (by omega) ((xs_k hg133 (by decide)).trans eq102) ((xs_k hg133 (by decide)).trans ((hg98 a0 8 0 0 hs_a0 (by decide)).trans ((hg2 a0 8 0 0 hs_a0 (by decide)).trans ewt))) hs_wt ((xs_k hg133 (by decide)).trans ((hg98 a0 8 0 1 hs_a0 (by decide)).trans ((hg2 a0 8 0 1 hs_a0 (by decide)).trans ewp))) hs_wp (by rw [(Eq.trans (Eq.trans (xv_a hg133 (xne hs_wt hs_a0 (by decide))) (xv_m hg98 hs_wt (by decide) (by decide))) (xv_m hg2 hs_wt (by decide) (by decide))), (Eq.trans (Eq.trans (xv_a hg133 (xne hs_wp hs_a0 (by decide))) (xv_m hg98 hs_wp (by decide) (by decide))) (xv_m hg2 hs_wp (by decide) (by decide)))]; exact hp0) (by omega) (by omega)) hs_a0 ⟨by decide, rfl⟩ dX7_readCond_43 rfl rfl (by simp [Value.category]) (by decide) (by decide) (by decide) (by decide) (fun r134 S136 g135 pr134 qr134 hg135 => ?_)
            obtain ⟨rfl, rfl, k137⟩ := pr134
            refine X_st [] rfl ?_
            obtain ⟨Ft138, at138, ot138, qt138, eFt138, lFt138, uFt138, eat138, lat138, uat138, eot138, lot138, uot138, eqt138, lqt138, uqt138, kt138⟩ := k137
            have cat138 : at138 ≤ 300 := by have h9 := (show xTB (xv g135 wt) (xv g135 wp) tk tl cn from (by rw [(Eq.trans (Eq.trans (Eq.trans (xv_m hg135 hs_wt (by decide) (by decide)) (xv_a hg133 (xne hs_wt hs_a0 (by decide)))) (xv_m hg98 hs_wt (by decide) (by decide))) (xv_m hg2 hs_wt (by decide) (by decide))), (Eq.trans (Eq.trans (Eq.trans (xv_m hg135 hs_wp (by decide) (by decide)) (xv_a hg133 (xne hs_wp hs_a0 (by decide)))) (xv_m hg98 hs_wp (by decide) (by decide))) (xv_m hg2 hs_wp (by decide) (by decide)))]; exact hp0)).2.2.2; omega
            refine X_aloadn hK (i := 1) 2 dX7_readCond_46 rfl rfl ?_
            refine X_bipush hK dX7_readCond_47 (by decide) ?_
            refine X_iconst hK dX7_readCond_49 ?_
            refine X_iconst hK dX7_readCond_50 ?_
            refine X_callV hK [.int (iI 14), .int (iI 0), .int (iI 0)] [] lk_X7_129 (c_X10_addStep _ _ _ _ _ S g135 a1 14 0 0 hs_a1 (by omega) (by omega) (by omega)) hs_a1 ⟨by decide, rfl⟩ dX7_readCond_51 rfl rfl (by simp [Value.category]) (by decide) (by decide) (by decide) (by decide) (fun r139 S141 g140 pr139 qr139 hg140 => ?_)
            obtain ⟨rfl, rfl⟩ := pr139
            refine X_st [] rfl ?_
            refine X_iinc hK (i := 3) (z := z97) (n := 1) 0 [(3, .int (iI (z97 + 1))), (0, .ref a0), (1, .ref a1), (2, .int (iI x2))] dX7_readCond_54 rfl (by decide) rfl ?_
            refine X_goto hK 8 dX7_readCond_57 (by decide) ?_
            exact ihP120  g140 (xM.tr (xM.tr (xM_up (xM.tr xM.rf xLe.rf hg98 (by decide)) hg133 hs_a0 (by decide) (by decide)) xLe.rf hg135 (by decide)) xLe.rf hg140 (by decide)) (z97 + 1) (by omega) (by omega) at138 (by omega) (by omega) ((hg140 a0 8 0 2 hs_a0 (by decide)).trans eat138) ot138 (by omega) (by omega) ((hg140 a0 8 0 3 hs_a0 (by decide)).trans eot138) Ft138 (by omega) (by omega) ((hg140 a0 8 0 5 hs_a0 (by decide)).trans eFt138) qt138 (by omega) (by omega) ((hg140 a0 8 0 6 hs_a0 (by decide)).trans eqt138) (xIn.s (Or.inr ⟨rfl, rfl, (by rw [← k130]; omega)⟩) v121 (by omega) kt138) (fun h9 => by have h8 := xRR.b1 kt138 h9; omega) (by omega) (by omega)
  exact P120 ((60 - 0 : Int).toNat + 1) g2 xM.rf 0 (by omega) (by omega) at5 (by omega) (by omega) eat5 ot5 (by omega) (by omega) eot5 Ft5 (by omega) (by omega) eFt5 qt5 (by omega) (by omega) eqt5 (xIn.z (Or.inr ⟨rfl, rfl⟩) kt5) (fun h9 => by have h8 := xRR.b1 kt5 h9; omega) (by omega) (by omega)

set_option maxHeartbeats 4000000 in
set_option maxRecDepth 100000 in
theorem c3_readOne_10 (l : Launch) (D : va_G) (kA : Nat → ClassId) (b0 : Nat) (t0 : Nat → Nat) (S : xT) (g : xG) (a0 : Nat) (a1 : Nat) (x2 : Int) (na : Int) (no : Int) (nf : Int) (nq : Int) (wt : Nat) (wp : Nat) (tk : Int → Int) (tl : Int → Int) (cn : Int) (hs_a0 : S a0 = some (8, 0)) (hs_a1 : S a1 = some (11, 0)) (hx2 : 10 ≤ x2 ∧ x2 ≤ 10) (hna : 0 ≤ na ∧ na ≤ 300) (ena : g a0 2 = .int (iI na)) (hno : 0 ≤ no ∧ no ≤ 50) (eno : g a0 3 = .int (iI no)) (hnf : 0 ≤ nf ∧ nf ≤ 0) (enf : g a0 5 = .int (iI nf)) (hnq : 0 ≤ nq ∧ nq ≤ 300) (enq : g a0 6 = .int (iI nq)) (ewt : g a0 0 = .ref wt) (hs_wt : S wt = some (12900, 301)) (ewp : g a0 1 = .ref wp) (hs_wp : S wp = some (13000, 301)) (hp0 : xTB (xv g wt) (xv g wp) tk tl cn) (hp1 : na ≤ cn) (hp2 : cn ≤ 300) : xMt l yX7_readOne cX7_readOne 5 none 4 0 0 91 D kA b0 t0 [(8, 5), (8, 6), (8, 3), (8, 2), (14000, 0), (11, 2)] [.ref a0, .ref a1, .int (iI x2)] S g (fun (r : Option Value) (S1 : xT) (g1 : xG) => S = S1 ∧ r = none ∧ (∃ F a o q : Int, g1 a0 5 = .int (iI F) ∧ -2147483648 ≤ F ∧ F ≤ 2147483647 ∧ g1 a0 2 = .int (iI a) ∧ 0 ≤ a ∧ a ≤ cn ∧ g1 a0 3 = .int (iI o) ∧ 0 ≤ o ∧ o ≤ 50 ∧ g1 a0 6 = .int (iI q) ∧ 0 ≤ q ∧ q ≤ 300 ∧ xRR tk tl 0 10 na no F a o q)) := by
  refine xEnterV (by decide) (by simp [lg_sl, Value.category]) [(0, .ref a0), (1, .ref a1), (2, .int (iI x2))] rfl ?_
  intro K E hK hret _ _ _
  refine X_aloadn hK (i := 0) 0 dX7_readOne_0 rfl rfl ?_
  refine X_callV hK [] [] lk_X7_47 (c3_now _ _ _ _ _ S g a0 na wt wp tk tl cn hs_a0 (by omega) ena ewt hs_wt ewp hs_wp hp0 (by omega) (by omega)) hs_a0 ⟨by decide, rfl⟩ dX7_readOne_1 rfl rfl (by simp [Value.category]) (by decide) (by decide) (by decide) (by decide) (fun r1 S3 g2 pr1 qr1 hg2 => ?_)
  obtain ⟨rfl, rfl, z4, rfl, lz4, uz4, k5⟩ := pr1
  refine X_st [.int (iI z4)] rfl ?_
  refine X_istoren hK (i := 3) [(3, .int (iI z4)), (0, .ref a0), (1, .ref a1), (2, .int (iI x2))] dX7_readOne_4 rfl (by decide) rfl ?_
  refine X_iloadn hK (i := 3) 0 dX7_readOne_5 rfl rfl ?_
  refine X_bipush hK dX7_readOne_6 (by decide) ?_
  refine X_icmp_lt hK 21 (by omega) (by omega) dX7_readOne_8 (by decide) (fun c6 => ?_) (fun c6 => ?_)
  · refine X_iconst hK dX7_readOne_21 ?_
    refine X_istore hK (i := 4) [(4, .int (iI 0)), (3, .int (iI z4)), (0, .ref a0), (1, .ref a1), (2, .int (iI x2))] dX7_readOne_22 (by decide) rfl ?_
    refine X_iload hK (i := 4) 0 dX7_readOne_24 rfl ?_
    refine X_if_ne hK 49 (by omega) dX7_readOne_26 (by decide) (fun c7 => False.elim (by omega)) (fun c7 => ?_)
    refine X_iloadn hK (i := 3) 1 dX7_readOne_29 rfl rfl ?_
    refine X_bipush hK dX7_readOne_30 (by decide) ?_
    refine X_icmp_eq hK 49 (by omega) (by omega) dX7_readOne_32 (by decide) (fun c8 => ?_) (fun c8 => ?_)
    · refine X_aloadn hK (i := 0) 2 dX7_readOne_49 rfl rfl ?_
      refine X_getK hK fl_X7_22_8 hs_a0 eno dX7_readOne_50 ?_
      refine X_bipush hK dX7_readOne_53 (by decide) ?_
      refine X_icmp_ge hK 64 (by omega) (by omega) dX7_readOne_55 (by decide) (fun c9 => ?_) (fun c9 => ?_)
      · refine X_aloadn hK (i := 0) 2 dX7_readOne_64 rfl rfl ?_
        refine X_iconst hK dX7_readOne_65 ?_
        refine X_callV hK [.int (iI 4)] [] lk_X7_60 (c3_tell _ _ _ _ _ S g a0 4 na no nf nq wt wp tk tl cn hs_a0 (by omega) (by omega) ena (by omega) eno (by omega) enf (by omega) enq ewt hs_wt ewp hs_wp hp0 (by omega) (by omega)) hs_a0 ⟨by decide, rfl⟩ dX7_readOne_66 rfl rfl (by simp [Value.category]) (by decide) (by decide) (by decide) (by decide) (fun r10 S12 g11 pr10 qr10 hg11 => ?_)
        obtain ⟨rfl, rfl, k13⟩ := pr10
        refine X_st [] rfl ?_
        obtain ⟨Ft14, at14, ot14, qt14, eFt14, lFt14, uFt14, eat14, lat14, uat14, eot14, lot14, uot14, eqt14, lqt14, uqt14, kt14⟩ := k13
        have cat14 : at14 ≤ 300 := by have h9 := (show xTB (xv g11 wt) (xv g11 wp) tk tl cn from (by rw [(xv_m hg11 hs_wt (by decide) (by decide)), (xv_m hg11 hs_wp (by decide) (by decide))]; exact hp0)).2.2.2; omega
        refine X_goto hK 148 dX7_readOne_69 (by decide) ?_
        exact hret _ _ _ _ _ _ dX7_readOne_148 ⟨rfl, rfl, ⟨Ft14, at14, ot14, qt14, eFt14, by omega, by omega, eat14, by omega, by omega, eot14, by omega, by omega, eqt14, by omega, by omega, (by obtain ⟨h8, h7, h6⟩ := kt14; have h5 := h8.resolve_left (fun q9 => by omega); rw [h5.2.1]; exact xRR.f4 (by rw [← k5]; omega) (by omega) h5.2.2)⟩⟩ (Nat.le_refl _) (Nat.le_refl _)
      · refine X_iloadn hK (i := 2) 4 dX7_readOne_58 rfl rfl ?_
        refine X_bipush hK dX7_readOne_59 (by decide) ?_
        refine X_icmp_le hK 72 (by omega) (by omega) dX7_readOne_61 (by decide) (fun c15 => ?_) (fun c15 => False.elim (by omega))
        refine X_aloadn hK (i := 0) 2 dX7_readOne_72 rfl rfl ?_
        refine X_dup hK dX7_readOne_73 rfl ?_
        refine X_getK hK fl_X7_22_8 hs_a0 eno dX7_readOne_74 ?_
        refine X_iconst hK dX7_readOne_77 ?_
        refine X_iadd hK dX7_readOne_78 ?_
        refine X_puti hK fl_X7_22_8 hs_a0 (by decide) sl_8_3 (by omega) (by omega) dX7_readOne_79 (fun g16 hg16 => ?_)
        refine X_aloadn hK (i := 0) 2 dX7_readOne_82 rfl rfl ?_
        refine X_dup hK dX7_readOne_83 rfl ?_
        have hl17 := xTB.lt (A := xv g16 wt) (B := xv g16 wp) (tk := tk) (tl := tl) (c := cn) (a := na) (by rw [(xv_a hg16 (xne hs_wt hs_a0 (by decide))), (xv_a hg16 (xne hs_wp hs_a0 (by decide)))]; exact hp0) (by omega) (by rw [← k5]; omega)
        refine X_getK hK fl_X7_18_8 hs_a0 ((xs_k hg16 (by decide)).trans ena) dX7_readOne_84 ?_
        refine X_iconst hK dX7_readOne_87 ?_
        refine X_iadd hK dX7_readOne_88 ?_
        refine X_puti hK fl_X7_18_8 hs_a0 (by decide) sl_8_2 (by omega) (by omega) dX7_readOne_89 (fun g18 hg18 => ?_)
        refine X_iload hK (i := 4) 0 dX7_readOne_92 rfl ?_
        refine X_if_eq hK 109 (by omega) dX7_readOne_94 (by decide) (fun c19 => ?_) (fun c19 => False.elim (by omega))
        refine X_iloadn hK (i := 3) 1 dX7_readOne_109 rfl rfl ?_
        refine X_bipush hK dX7_readOne_110 (by decide) ?_
        refine X_icmp_ne hK 132 (by omega) (by omega) dX7_readOne_112 (by decide) (fun c20 => ?_) (fun c20 => False.elim (by omega))
        refine X_aloadn hK (i := 0) 2 dX7_readOne_132 rfl rfl ?_
        refine X_aloadn hK (i := 1) 3 dX7_readOne_133 rfl rfl ?_
        refine X_iloadn hK (i := 2) 4 dX7_readOne_134 rfl rfl ?_
        refine X_iconst hK dX7_readOne_135 ?_
        refine X_iadd hK dX7_readOne_136 ?_
        refine X_callV hK [.ref a1, .int (iI (x2 + 1))] [] lk_X7_132 (c3_readOne_11 _ _ _ _ _ S g18 a0 a1 (x2 + 1) (na + 1) (no + 1) nf nq wt wp tk tl cn hs_a0 hs_a1 (by omega) (by omega) (xs_s hg18) (by omega) ((xs_k hg18 (by decide)).trans (xs_s hg16)) (by omega) ((xs_k hg18 (by decide)).trans ((xs_k hg16 (by decide)).trans enf)) (by omega) ((xs_k hg18 (by decide)).trans ((xs_k hg16 (by decide)).trans enq)) ((xs_k hg18 (by decide)).trans ((xs_k hg16 (by decide)).trans ewt)) hs_wt ((xs_k hg18 (by decide)).trans ((xs_k hg16 (by decide)).trans ewp)) hs_wp (by rw [(Eq.trans (xv_a hg18 (xne hs_wt hs_a0 (by decide))) (xv_a hg16 (xne hs_wt hs_a0 (by decide)))), (Eq.trans (xv_a hg18 (xne hs_wp hs_a0 (by decide))) (xv_a hg16 (xne hs_wp hs_a0 (by decide))))]; exact hp0) (by omega) (by omega)) hs_a0 ⟨by decide, rfl⟩ dX7_readOne_137 rfl rfl (by simp [Value.category]) (by decide) (by decide) (by decide) (by decide) (fun r21 S23 g22 pr21 qr21 hg22 => ?_)
        obtain ⟨rfl, rfl, k24⟩ := pr21
        refine X_st [] rfl ?_
        obtain ⟨Ft25, at25, ot25, qt25, eFt25, lFt25, uFt25, eat25, lat25, uat25, eot25, lot25, uot25, eqt25, lqt25, uqt25, kt25⟩ := k24
        have cat25 : at25 ≤ 300 := by have h9 := (show xTB (xv g22 wt) (xv g22 wp) tk tl cn from (by rw [(Eq.trans (Eq.trans (xv_m hg22 hs_wt (by decide) (by decide)) (xv_a hg18 (xne hs_wt hs_a0 (by decide)))) (xv_a hg16 (xne hs_wt hs_a0 (by decide)))), (Eq.trans (Eq.trans (xv_m hg22 hs_wp (by decide) (by decide)) (xv_a hg18 (xne hs_wp hs_a0 (by decide)))) (xv_a hg16 (xne hs_wp hs_a0 (by decide))))]; exact hp0)).2.2.2; omega
        refine X_aloadn hK (i := 1) 3 dX7_readOne_140 rfl rfl ?_
        refine X_bipush hK dX7_readOne_141 (by decide) ?_
        refine X_iconst hK dX7_readOne_143 ?_
        refine X_iconst hK dX7_readOne_144 ?_
        refine X_callV hK [.int (iI 12), .int (iI 0), .int (iI 0)] [] lk_X7_129 (c_X10_addStep _ _ _ _ _ S g22 a1 12 0 0 hs_a1 (by omega) (by omega) (by omega)) hs_a1 ⟨by decide, rfl⟩ dX7_readOne_145 rfl rfl (by simp [Value.category]) (by decide) (by decide) (by decide) (by decide) (fun r26 S28 g27 pr26 qr26 hg27 => ?_)
        obtain ⟨rfl, rfl⟩ := pr26
        refine X_st [] rfl ?_
        exact hret _ _ _ _ _ _ dX7_readOne_148 ⟨rfl, rfl, ⟨Ft25, at25, ot25, qt25, ((hg27 a0 8 0 5 hs_a0 (by decide)).trans eFt25), by omega, by omega, ((hg27 a0 8 0 2 hs_a0 (by decide)).trans eat25), by omega, by omega, ((hg27 a0 8 0 3 hs_a0 (by decide)).trans eot25), by omega, by omega, ((hg27 a0 8 0 6 hs_a0 (by decide)).trans eqt25), by omega, by omega, (xRR.nt (by rw [← k5]; omega) (by omega) kt25)⟩⟩ (Nat.le_refl _) (Nat.le_refl _)
    · refine X_iloadn hK (i := 3) 1 dX7_readOne_35 rfl rfl ?_
      refine X_bipush hK dX7_readOne_36 (by decide) ?_
      refine X_icmp_eq hK 49 (by omega) (by omega) dX7_readOne_38 (by decide) (fun c29 => False.elim (by omega)) (fun c29 => ?_)
      refine X_aloadn hK (i := 0) 2 dX7_readOne_41 rfl rfl ?_
      refine X_iconst hK dX7_readOne_42 ?_
      refine X_callV hK [.int (iI 1)] [] lk_X7_60 (c3_tell _ _ _ _ _ S g a0 1 na no nf nq wt wp tk tl cn hs_a0 (by omega) (by omega) ena (by omega) eno (by omega) enf (by omega) enq ewt hs_wt ewp hs_wp hp0 (by omega) (by omega)) hs_a0 ⟨by decide, rfl⟩ dX7_readOne_43 rfl rfl (by simp [Value.category]) (by decide) (by decide) (by decide) (by decide) (fun r30 S32 g31 pr30 qr30 hg31 => ?_)
      obtain ⟨rfl, rfl, k33⟩ := pr30
      refine X_st [] rfl ?_
      obtain ⟨Ft34, at34, ot34, qt34, eFt34, lFt34, uFt34, eat34, lat34, uat34, eot34, lot34, uot34, eqt34, lqt34, uqt34, kt34⟩ := k33
      have cat34 : at34 ≤ 300 := by have h9 := (show xTB (xv g31 wt) (xv g31 wp) tk tl cn from (by rw [(xv_m hg31 hs_wt (by decide) (by decide)), (xv_m hg31 hs_wp (by decide) (by decide))]; exact hp0)).2.2.2; omega
      refine X_goto hK 148 dX7_readOne_46 (by decide) ?_
      exact hret _ _ _ _ _ _ dX7_readOne_148 ⟨rfl, rfl, ⟨Ft34, at34, ot34, qt34, eFt34, by omega, by omega, eat34, by omega, by omega, eot34, by omega, by omega, eqt34, by omega, by omega, (by obtain ⟨h8, h7, h6⟩ := kt34; have h5 := h8.resolve_left (fun q9 => by omega); rw [h5.2.1]; exact xRR.f1 (by rw [← k5]; omega) h5.2.2)⟩⟩ (Nat.le_refl _) (Nat.le_refl _)
  · refine X_iloadn hK (i := 3) 0 dX7_readOne_11 rfl rfl ?_
    refine X_bipush hK dX7_readOne_12 (by decide) ?_
    refine X_icmp_ge hK 21 (by omega) (by omega) dX7_readOne_14 (by decide) (fun c35 => ?_) (fun c35 => ?_)
    · refine X_iconst hK dX7_readOne_21 ?_
      refine X_istore hK (i := 4) [(4, .int (iI 0)), (3, .int (iI z4)), (0, .ref a0), (1, .ref a1), (2, .int (iI x2))] dX7_readOne_22 (by decide) rfl ?_
      refine X_iload hK (i := 4) 0 dX7_readOne_24 rfl ?_
      refine X_if_ne hK 49 (by omega) dX7_readOne_26 (by decide) (fun c36 => False.elim (by omega)) (fun c36 => ?_)
      refine X_iloadn hK (i := 3) 1 dX7_readOne_29 rfl rfl ?_
      refine X_bipush hK dX7_readOne_30 (by decide) ?_
      refine X_icmp_eq hK 49 (by omega) (by omega) dX7_readOne_32 (by decide) (fun c37 => False.elim (by omega)) (fun c37 => ?_)
      refine X_iloadn hK (i := 3) 1 dX7_readOne_35 rfl rfl ?_
      refine X_bipush hK dX7_readOne_36 (by decide) ?_
      refine X_icmp_eq hK 49 (by omega) (by omega) dX7_readOne_38 (by decide) (fun c38 => ?_) (fun c38 => ?_)
      · refine X_aloadn hK (i := 0) 2 dX7_readOne_49 rfl rfl ?_
        refine X_getK hK fl_X7_22_8 hs_a0 eno dX7_readOne_50 ?_
        refine X_bipush hK dX7_readOne_53 (by decide) ?_
        refine X_icmp_ge hK 64 (by omega) (by omega) dX7_readOne_55 (by decide) (fun c39 => ?_) (fun c39 => ?_)
        · refine X_aloadn hK (i := 0) 2 dX7_readOne_64 rfl rfl ?_
          refine X_iconst hK dX7_readOne_65 ?_
          refine X_callV hK [.int (iI 4)] [] lk_X7_60 (c3_tell _ _ _ _ _ S g a0 4 na no nf nq wt wp tk tl cn hs_a0 (by omega) (by omega) ena (by omega) eno (by omega) enf (by omega) enq ewt hs_wt ewp hs_wp hp0 (by omega) (by omega)) hs_a0 ⟨by decide, rfl⟩ dX7_readOne_66 rfl rfl (by simp [Value.category]) (by decide) (by decide) (by decide) (by decide) (fun r40 S42 g41 pr40 qr40 hg41 => ?_)
          obtain ⟨rfl, rfl, k43⟩ := pr40
          refine X_st [] rfl ?_
          obtain ⟨Ft44, at44, ot44, qt44, eFt44, lFt44, uFt44, eat44, lat44, uat44, eot44, lot44, uot44, eqt44, lqt44, uqt44, kt44⟩ := k43
          have cat44 : at44 ≤ 300 := by have h9 := (show xTB (xv g41 wt) (xv g41 wp) tk tl cn from (by rw [(xv_m hg41 hs_wt (by decide) (by decide)), (xv_m hg41 hs_wp (by decide) (by decide))]; exact hp0)).2.2.2; omega
          refine X_goto hK 148 dX7_readOne_69 (by decide) ?_
          exact hret _ _ _ _ _ _ dX7_readOne_148 ⟨rfl, rfl, ⟨Ft44, at44, ot44, qt44, eFt44, by omega, by omega, eat44, by omega, by omega, eot44, by omega, by omega, eqt44, by omega, by omega, (by obtain ⟨h8, h7, h6⟩ := kt44; have h5 := h8.resolve_left (fun q9 => by omega); rw [h5.2.1]; exact xRR.f4 (by rw [← k5]; omega) (by omega) h5.2.2)⟩⟩ (Nat.le_refl _) (Nat.le_refl _)
        · refine X_iloadn hK (i := 2) 4 dX7_readOne_58 rfl rfl ?_
          refine X_bipush hK dX7_readOne_59 (by decide) ?_
          refine X_icmp_le hK 72 (by omega) (by omega) dX7_readOne_61 (by decide) (fun c45 => ?_) (fun c45 => False.elim (by omega))
          refine X_aloadn hK (i := 0) 2 dX7_readOne_72 rfl rfl ?_
          refine X_dup hK dX7_readOne_73 rfl ?_
          refine X_getK hK fl_X7_22_8 hs_a0 eno dX7_readOne_74 ?_
          refine X_iconst hK dX7_readOne_77 ?_
          refine X_iadd hK dX7_readOne_78 ?_
          refine X_puti hK fl_X7_22_8 hs_a0 (by decide) sl_8_3 (by omega) (by omega) dX7_readOne_79 (fun g46 hg46 => ?_)
          refine X_aloadn hK (i := 0) 2 dX7_readOne_82 rfl rfl ?_
          refine X_dup hK dX7_readOne_83 rfl ?_
          have hl47 := xTB.lt (A := xv g46 wt) (B := xv g46 wp) (tk := tk) (tl := tl) (c := cn) (a := na) (by rw [(xv_a hg46 (xne hs_wt hs_a0 (by decide))), (xv_a hg46 (xne hs_wp hs_a0 (by decide)))]; exact hp0) (by omega) (by rw [← k5]; omega)
          refine X_getK hK fl_X7_18_8 hs_a0 ((xs_k hg46 (by decide)).trans ena) dX7_readOne_84 ?_
          refine X_iconst hK dX7_readOne_87 ?_
          refine X_iadd hK dX7_readOne_88 ?_
          refine X_puti hK fl_X7_18_8 hs_a0 (by decide) sl_8_2 (by omega) (by omega) dX7_readOne_89 (fun g48 hg48 => ?_)
          refine X_iload hK (i := 4) 0 dX7_readOne_92 rfl ?_
          refine X_if_eq hK 109 (by omega) dX7_readOne_94 (by decide) (fun c49 => ?_) (fun c49 => False.elim (by omega))
          refine X_iloadn hK (i := 3) 1 dX7_readOne_109 rfl rfl ?_
          refine X_bipush hK dX7_readOne_110 (by decide) ?_
          refine X_icmp_ne hK 132 (by omega) (by omega) dX7_readOne_112 (by decide) (fun c50 => False.elim (by omega)) (fun c50 => ?_)
          refine X_aloadn hK (i := 0) 2 dX7_readOne_115 rfl rfl ?_
          refine X_aloadn hK (i := 1) 3 dX7_readOne_116 rfl rfl ?_
          refine X_iloadn hK (i := 2) 4 dX7_readOne_117 rfl rfl ?_
          refine X_iconst hK dX7_readOne_118 ?_
          refine X_iadd hK dX7_readOne_119 ?_
          refine X_callV hK [.ref a1, .int (iI (x2 + 1))] [] lk_X7_115 (c3_readCond_11 _ _ _ _ _ S g48 a0 a1 (x2 + 1) (na + 1) (no + 1) nf nq wt wp tk tl cn hs_a0 hs_a1 (by omega) (by omega) (xs_s hg48) (by omega) ((xs_k hg48 (by decide)).trans (xs_s hg46)) (by omega) ((xs_k hg48 (by decide)).trans ((xs_k hg46 (by decide)).trans enf)) (by omega) ((xs_k hg48 (by decide)).trans ((xs_k hg46 (by decide)).trans enq)) ((xs_k hg48 (by decide)).trans ((xs_k hg46 (by decide)).trans ewt)) hs_wt ((xs_k hg48 (by decide)).trans ((xs_k hg46 (by decide)).trans ewp)) hs_wp (by rw [(Eq.trans (xv_a hg48 (xne hs_wt hs_a0 (by decide))) (xv_a hg46 (xne hs_wt hs_a0 (by decide)))), (Eq.trans (xv_a hg48 (xne hs_wp hs_a0 (by decide))) (xv_a hg46 (xne hs_wp hs_a0 (by decide))))]; exact hp0) (by omega) (by omega)) hs_a0 ⟨by decide, rfl⟩ dX7_readOne_120 rfl rfl (by simp [Value.category]) (by decide) (by decide) (by decide) (by decide) (fun r51 S53 g52 pr51 qr51 hg52 => ?_)
          obtain ⟨rfl, rfl, k54⟩ := pr51
          refine X_st [] rfl ?_
          obtain ⟨Ft55, at55, ot55, qt55, eFt55, lFt55, uFt55, eat55, lat55, uat55, eot55, lot55, uot55, eqt55, lqt55, uqt55, kt55⟩ := k54
          have cat55 : at55 ≤ 300 := by have h9 := (show xTB (xv g52 wt) (xv g52 wp) tk tl cn from (by rw [(Eq.trans (Eq.trans (xv_m hg52 hs_wt (by decide) (by decide)) (xv_a hg48 (xne hs_wt hs_a0 (by decide)))) (xv_a hg46 (xne hs_wt hs_a0 (by decide)))), (Eq.trans (Eq.trans (xv_m hg52 hs_wp (by decide) (by decide)) (xv_a hg48 (xne hs_wp hs_a0 (by decide)))) (xv_a hg46 (xne hs_wp hs_a0 (by decide))))]; exact hp0)).2.2.2; omega
          refine X_aloadn hK (i := 0) 2 dX7_readOne_123 rfl rfl ?_
          refine X_bipush hK dX7_readOne_124 (by decide) ?_
          refine X_callV hK [.int (iI 26)] [] lk_X7_119 (c3_expect _ _ _ _ _ S g52 a0 26 at55 ot55 Ft55 qt55 wt wp tk tl cn hs_a0 (by omega) (by omega) eat55 (by omega) eot55 (by omega) eFt55 (by omega) eqt55 ((hg52 a0 8 0 0 hs_a0 (by decide)).trans ((xs_k hg48 (by decide)).trans ((xs_k hg46 (by decide)).trans ewt))) hs_wt ((hg52 a0 8 0 1 hs_a0 (by decide)).trans ((xs_k hg48 (by decide)).trans ((xs_k hg46 (by decide)).trans ewp))) hs_wp (by rw [(Eq.trans (Eq.trans (xv_m hg52 hs_wt (by decide) (by decide)) (xv_a hg48 (xne hs_wt hs_a0 (by decide)))) (xv_a hg46 (xne hs_wt hs_a0 (by decide)))), (Eq.trans (Eq.trans (xv_m hg52 hs_wp (by decide) (by decide)) (xv_a hg48 (xne hs_wp hs_a0 (by decide)))) (xv_a hg46 (xne hs_wp hs_a0 (by decide))))]; exact hp0) (by omega) (by omega)) hs_a0 ⟨by decide, rfl⟩ dX7_readOne_126 rfl rfl (by simp [Value.category]) (by decide) (by decide) (by decide) (by decide) (fun r56 S58 g57 pr56 qr56 hg57 => ?_)
          obtain ⟨rfl, rfl, k59⟩ := pr56
          refine X_st [] rfl ?_
          obtain ⟨Ft60, at60, ot60, qt60, eFt60, lFt60, uFt60, eat60, lat60, uat60, eot60, lot60, uot60, eqt60, lqt60, uqt60, kt60⟩ := k59
          have cat60 : at60 ≤ 300 := by have h9 := (show xTB (xv g57 wt) (xv g57 wp) tk tl cn from (by rw [(Eq.trans (Eq.trans (Eq.trans (xv_m hg57 hs_wt (by decide) (by decide)) (xv_m hg52 hs_wt (by decide) (by decide))) (xv_a hg48 (xne hs_wt hs_a0 (by decide)))) (xv_a hg46 (xne hs_wt hs_a0 (by decide)))), (Eq.trans (Eq.trans (Eq.trans (xv_m hg57 hs_wp (by decide) (by decide)) (xv_m hg52 hs_wp (by decide) (by decide))) (xv_a hg48 (xne hs_wp hs_a0 (by decide)))) (xv_a hg46 (xne hs_wp hs_a0 (by decide))))]; exact hp0)).2.2.2; omega
          refine X_goto hK 148 dX7_readOne_129 (by decide) ?_
          exact hret _ _ _ _ _ _ dX7_readOne_148 ⟨rfl, rfl, ⟨Ft60, at60, ot60, qt60, eFt60, by omega, by omega, eat60, by omega, by omega, eot60, by omega, by omega, eqt60, by omega, by omega, (by obtain ⟨h8, h7⟩ := kt60; by_cases f9 : Ft55 = 0; (rcases h8 with ⟨c1, c2, c3, c4⟩ | ⟨c1, c2, c3⟩; (rw [show Ft60 = 0 by omega, c3, h7]; exact xRR.po (by rw [← k5]; omega) (by omega) (show xRR tk tl 2 (10 + 1) (na + 1) (no + 1) Ft55 at55 ot55 qt55 from kt55) f9 c1); (have c4 := c3.resolve_left (fun q9 => q9.1 f9); rw [c4.2.1]; exact xRR.px (by rw [← k5]; omega) (by omega) (show xRR tk tl 2 (10 + 1) (na + 1) (no + 1) Ft55 at55 ot55 qt55 from kt55) f9 c1 c4.2.2)); (have h6 : Ft60 = Ft55 ∧ qt60 = qt55 := (by omega); rw [h6.1, h6.2]; exact xRR.pf (by rw [← k5]; omega) (by omega) (show xRR tk tl 2 (10 + 1) (na + 1) (no + 1) Ft55 at55 ot55 qt55 from kt55) f9))⟩⟩ (Nat.le_refl _) (Nat.le_refl _)
      · refine X_aloadn hK (i := 0) 2 dX7_readOne_41 rfl rfl ?_
        refine X_iconst hK dX7_readOne_42 ?_
        refine X_callV hK [.int (iI 1)] [] lk_X7_60 (c3_tell _ _ _ _ _ S g a0 1 na no nf nq wt wp tk tl cn hs_a0 (by omega) (by omega) ena (by omega) eno (by omega) enf (by omega) enq ewt hs_wt ewp hs_wp hp0 (by omega) (by omega)) hs_a0 ⟨by decide, rfl⟩ dX7_readOne_43 rfl rfl (by simp [Value.category]) (by decide) (by decide) (by decide) (by decide) (fun r61 S63 g62 pr61 qr61 hg62 => ?_)
        obtain ⟨rfl, rfl, k64⟩ := pr61
        refine X_st [] rfl ?_
        obtain ⟨Ft65, at65, ot65, qt65, eFt65, lFt65, uFt65, eat65, lat65, uat65, eot65, lot65, uot65, eqt65, lqt65, uqt65, kt65⟩ := k64
        have cat65 : at65 ≤ 300 := by have h9 := (show xTB (xv g62 wt) (xv g62 wp) tk tl cn from (by rw [(xv_m hg62 hs_wt (by decide) (by decide)), (xv_m hg62 hs_wp (by decide) (by decide))]; exact hp0)).2.2.2; omega
        refine X_goto hK 148 dX7_readOne_46 (by decide) ?_
        exact hret _ _ _ _ _ _ dX7_readOne_148 ⟨rfl, rfl, ⟨Ft65, at65, ot65, qt65, eFt65, by omega, by omega, eat65, by omega, by omega, eot65, by omega, by omega, eqt65, by omega, by omega, (by obtain ⟨h8, h7, h6⟩ := kt65; have h5 := h8.resolve_left (fun q9 => by omega); rw [h5.2.1]; exact xRR.f1 (by rw [← k5]; omega) h5.2.2)⟩⟩ (Nat.le_refl _) (Nat.le_refl _)
    · refine X_iconst hK dX7_readOne_17 ?_
      refine X_goto hK 22 dX7_readOne_18 (by decide) ?_
      refine X_istore hK (i := 4) [(4, .int (iI 1)), (3, .int (iI z4)), (0, .ref a0), (1, .ref a1), (2, .int (iI x2))] dX7_readOne_22 (by decide) rfl ?_
      refine X_iload hK (i := 4) 0 dX7_readOne_24 rfl ?_
      refine X_if_ne hK 49 (by omega) dX7_readOne_26 (by decide) (fun c66 => ?_) (fun c66 => False.elim (by omega))
      refine X_aloadn hK (i := 0) 2 dX7_readOne_49 rfl rfl ?_
      refine X_getK hK fl_X7_22_8 hs_a0 eno dX7_readOne_50 ?_
      refine X_bipush hK dX7_readOne_53 (by decide) ?_
      refine X_icmp_ge hK 64 (by omega) (by omega) dX7_readOne_55 (by decide) (fun c67 => ?_) (fun c67 => ?_)
      · refine X_aloadn hK (i := 0) 2 dX7_readOne_64 rfl rfl ?_
        refine X_iconst hK dX7_readOne_65 ?_
        refine X_callV hK [.int (iI 4)] [] lk_X7_60 (c3_tell _ _ _ _ _ S g a0 4 na no nf nq wt wp tk tl cn hs_a0 (by omega) (by omega) ena (by omega) eno (by omega) enf (by omega) enq ewt hs_wt ewp hs_wp hp0 (by omega) (by omega)) hs_a0 ⟨by decide, rfl⟩ dX7_readOne_66 rfl rfl (by simp [Value.category]) (by decide) (by decide) (by decide) (by decide) (fun r68 S70 g69 pr68 qr68 hg69 => ?_)
        obtain ⟨rfl, rfl, k71⟩ := pr68
        refine X_st [] rfl ?_
        obtain ⟨Ft72, at72, ot72, qt72, eFt72, lFt72, uFt72, eat72, lat72, uat72, eot72, lot72, uot72, eqt72, lqt72, uqt72, kt72⟩ := k71
        have cat72 : at72 ≤ 300 := by have h9 := (show xTB (xv g69 wt) (xv g69 wp) tk tl cn from (by rw [(xv_m hg69 hs_wt (by decide) (by decide)), (xv_m hg69 hs_wp (by decide) (by decide))]; exact hp0)).2.2.2; omega
        refine X_goto hK 148 dX7_readOne_69 (by decide) ?_
        exact hret _ _ _ _ _ _ dX7_readOne_148 ⟨rfl, rfl, ⟨Ft72, at72, ot72, qt72, eFt72, by omega, by omega, eat72, by omega, by omega, eot72, by omega, by omega, eqt72, by omega, by omega, (by obtain ⟨h8, h7, h6⟩ := kt72; have h5 := h8.resolve_left (fun q9 => by omega); rw [h5.2.1]; exact xRR.f4 (by rw [← k5]; omega) (by omega) h5.2.2)⟩⟩ (Nat.le_refl _) (Nat.le_refl _)
      · refine X_iloadn hK (i := 2) 4 dX7_readOne_58 rfl rfl ?_
        refine X_bipush hK dX7_readOne_59 (by decide) ?_
        refine X_icmp_le hK 72 (by omega) (by omega) dX7_readOne_61 (by decide) (fun c73 => ?_) (fun c73 => False.elim (by omega))
        refine X_aloadn hK (i := 0) 2 dX7_readOne_72 rfl rfl ?_
        refine X_dup hK dX7_readOne_73 rfl ?_
        refine X_getK hK fl_X7_22_8 hs_a0 eno dX7_readOne_74 ?_
        refine X_iconst hK dX7_readOne_77 ?_
        refine X_iadd hK dX7_readOne_78 ?_
        refine X_puti hK fl_X7_22_8 hs_a0 (by decide) sl_8_3 (by omega) (by omega) dX7_readOne_79 (fun g74 hg74 => ?_)
        refine X_aloadn hK (i := 0) 2 dX7_readOne_82 rfl rfl ?_
        refine X_dup hK dX7_readOne_83 rfl ?_
        have hl75 := xTB.lt (A := xv g74 wt) (B := xv g74 wp) (tk := tk) (tl := tl) (c := cn) (a := na) (by rw [(xv_a hg74 (xne hs_wt hs_a0 (by decide))), (xv_a hg74 (xne hs_wp hs_a0 (by decide)))]; exact hp0) (by omega) (by rw [← k5]; omega)
        refine X_getK hK fl_X7_18_8 hs_a0 ((xs_k hg74 (by decide)).trans ena) dX7_readOne_84 ?_
        refine X_iconst hK dX7_readOne_87 ?_
        refine X_iadd hK dX7_readOne_88 ?_
        refine X_puti hK fl_X7_18_8 hs_a0 (by decide) sl_8_2 (by omega) (by omega) dX7_readOne_89 (fun g76 hg76 => ?_)
        refine X_iload hK (i := 4) 0 dX7_readOne_92 rfl ?_
        refine X_if_eq hK 109 (by omega) dX7_readOne_94 (by decide) (fun c77 => False.elim (by omega)) (fun c77 => ?_)
        refine X_aloadn hK (i := 0) 2 dX7_readOne_97 rfl rfl ?_
        refine X_aloadn hK (i := 1) 3 dX7_readOne_98 rfl rfl ?_
        refine X_iloadn hK (i := 3) 1 dX7_readOne_99 rfl rfl ?_
        refine X_bipush hK dX7_readOne_100 (by decide) ?_
        refine X_isub hK dX7_readOne_102 ?_
        refine X_callV hK [.ref a1, .int (iI (z4 - 10))] [] lk_X7_135 (c3_readFact _ _ _ _ _ S g76 a0 a1 (z4 - 10) (na + 1) (no + 1) nf nq wt wp tk tl cn 10 hs_a0 hs_a1 (by omega) (by omega) (xs_s hg76) (by omega) ((xs_k hg76 (by decide)).trans (xs_s hg74)) (by omega) ((xs_k hg76 (by decide)).trans ((xs_k hg74 (by decide)).trans enf)) (by omega) ((xs_k hg76 (by decide)).trans ((xs_k hg74 (by decide)).trans enq)) ((xs_k hg76 (by decide)).trans ((xs_k hg74 (by decide)).trans ewt)) hs_wt ((xs_k hg76 (by decide)).trans ((xs_k hg74 (by decide)).trans ewp)) hs_wp (by rw [(Eq.trans (xv_a hg76 (xne hs_wt hs_a0 (by decide))) (xv_a hg74 (xne hs_wt hs_a0 (by decide)))), (Eq.trans (xv_a hg76 (xne hs_wp hs_a0 (by decide))) (xv_a hg74 (xne hs_wp hs_a0 (by decide))))]; exact hp0) (by omega) (by omega) (by rw [show (na + 1) - 1 = na by omega, ← k5]; omega) (by omega)) hs_a0 ⟨by decide, rfl⟩ dX7_readOne_103 rfl rfl (by simp [Value.category]) (by decide) (by decide) (by decide) (by decide) (fun r78 S80 g79 pr78 qr78 hg79 => ?_)
        obtain ⟨rfl, rfl, k81⟩ := pr78
        refine X_st [] rfl ?_
        obtain ⟨Ft82, at82, ot82, qt82, eFt82, lFt82, uFt82, eat82, lat82, uat82, eot82, lot82, uot82, eqt82, lqt82, uqt82, kt82⟩ := k81
        have cat82 : at82 ≤ 300 := by have h9 := (show xTB (xv g79 wt) (xv g79 wp) tk tl cn from (by rw [(Eq.trans (Eq.trans (xv_m hg79 hs_wt (by decide) (by decide)) (xv_a hg76 (xne hs_wt hs_a0 (by decide)))) (xv_a hg74 (xne hs_wt hs_a0 (by decide)))), (Eq.trans (Eq.trans (xv_m hg79 hs_wp (by decide) (by decide)) (xv_a hg76 (xne hs_wp hs_a0 (by decide)))) (xv_a hg74 (xne hs_wp hs_a0 (by decide))))]; exact hp0)).2.2.2; omega
        refine X_goto hK 148 dX7_readOne_106 (by decide) ?_
        exact hret _ _ _ _ _ _ dX7_readOne_148 ⟨rfl, rfl, ⟨Ft82, at82, ot82, qt82, eFt82, by omega, by omega, eat82, by omega, by omega, eot82, by omega, by omega, eqt82, by omega, by omega, (by have h9 := kt82; rw [show na + 1 - 1 = na by omega, show no + 1 - 1 = no by omega] at h9; exact h9)⟩⟩ (Nat.le_refl _) (Nat.le_refl _)

set_option maxHeartbeats 4000000 in
set_option maxRecDepth 100000 in
theorem c3_readAll_10 (l : Launch) (D : va_G) (kA : Nat → ClassId) (b0 : Nat) (t0 : Nat → Nat) (S : xT) (g : xG) (a0 : Nat) (a1 : Nat) (x2 : Int) (na : Int) (no : Int) (nf : Int) (nq : Int) (wt : Nat) (wp : Nat) (tk : Int → Int) (tl : Int → Int) (cn : Int) (hs_a0 : S a0 = some (8, 0)) (hs_a1 : S a1 = some (11, 0)) (hx2 : 10 ≤ x2 ∧ x2 ≤ 10) (hna : 0 ≤ na ∧ na ≤ 300) (ena : g a0 2 = .int (iI na)) (hno : 0 ≤ no ∧ no ≤ 50) (eno : g a0 3 = .int (iI no)) (hnf : 0 ≤ nf ∧ nf ≤ 0) (enf : g a0 5 = .int (iI nf)) (hnq : 0 ≤ nq ∧ nq ≤ 300) (enq : g a0 6 = .int (iI nq)) (ewt : g a0 0 = .ref wt) (hs_wt : S wt = some (12900, 301)) (ewp : g a0 1 = .ref wp) (hs_wp : S wp = some (13000, 301)) (hp0 : xTB (xv g wt) (xv g wp) tk tl cn) (hp1 : na ≤ cn) (hp2 : cn ≤ 300) : xMt l yX7_readAll cX7_readAll 4 none 5 0 0 115 D kA b0 t0 [(8, 5), (8, 6), (8, 3), (8, 2), (14000, 0), (11, 2)] [.ref a0, .ref a1, .int (iI x2)] S g (fun (r : Option Value) (S1 : xT) (g1 : xG) => S = S1 ∧ r = none ∧ (∃ F a o q : Int, g1 a0 5 = .int (iI F) ∧ -2147483648 ≤ F ∧ F ≤ 2147483647 ∧ g1 a0 2 = .int (iI a) ∧ 0 ≤ a ∧ a ≤ cn ∧ g1 a0 3 = .int (iI o) ∧ 0 ≤ o ∧ o ≤ 50 ∧ g1 a0 6 = .int (iI q) ∧ 0 ≤ q ∧ q ≤ 300 ∧ xRR tk tl 1 10 na no F a o q)) := by
  refine xEnterV (by decide) (by simp [lg_sl, Value.category]) [(0, .ref a0), (1, .ref a1), (2, .int (iI x2))] rfl ?_
  intro K E hK hret _ _ _
  refine X_aloadn hK (i := 0) 0 dX7_readAll_0 rfl rfl ?_
  refine X_aloadn hK (i := 1) 1 dX7_readAll_1 rfl rfl ?_
  refine X_iloadn hK (i := 2) 2 dX7_readAll_2 rfl rfl ?_
  refine X_callV hK [.ref a1, .int (iI x2)] [] lk_X7_132 (c3_readOne_10 _ _ _ _ _ S g a0 a1 x2 na no nf nq wt wp tk tl cn hs_a0 hs_a1 (by omega) (by omega) ena (by omega) eno (by omega) enf (by omega) enq ewt hs_wt ewp hs_wp hp0 (by omega) (by omega)) hs_a0 ⟨by decide, rfl⟩ dX7_readAll_3 rfl rfl (by simp [Value.category]) (by decide) (by decide) (by decide) (by decide) (fun r1 S3 g2 pr1 qr1 hg2 => ?_)
  obtain ⟨rfl, rfl, k4⟩ := pr1
  refine X_st [] rfl ?_
  obtain ⟨Ft5, at5, ot5, qt5, eFt5, lFt5, uFt5, eat5, lat5, uat5, eot5, lot5, uot5, eqt5, lqt5, uqt5, kt5⟩ := k4
  have cat5 : at5 ≤ 300 := by have h9 := (show xTB (xv g2 wt) (xv g2 wp) tk tl cn from (by rw [(xv_m hg2 hs_wt (by decide) (by decide)), (xv_m hg2 hs_wp (by decide) (by decide))]; exact hp0)).2.2.2; omega
  refine X_iconst hK dX7_readAll_6 ?_
  refine X_istoren hK (i := 3) [(3, .int (iI 0)), (0, .ref a0), (1, .ref a1), (2, .int (iI x2))] dX7_readAll_7 rfl (by decide) rfl ?_
  have P120 : ∀ (nP120 : Nat) (g98 : xG) (_ : xM [(14000, 0), (11, 2), (8, 5), (8, 6), (8, 3), (8, 2)] S g2 g98) (z97 : Int) (_ : 0 ≤ z97) (_ : z97 ≤ 50) (q99 : Int) (_ : 0 ≤ q99) (_ : q99 ≤ 300) (_ : g98 a0 2 = .int (iI q99)) (q100 : Int) (_ : 0 ≤ q100) (_ : q100 ≤ 50) (_ : g98 a0 3 = .int (iI q100)) (q101 : Int) (_ : (-2147483648) ≤ q101) (_ : q101 ≤ 2147483647) (_ : g98 a0 5 = .int (iI q101)) (q102 : Int) (_ : 0 ≤ q102) (_ : q102 ≤ 300) (_ : g98 a0 6 = .int (iI q102)) (_ : xIn tk tl 1 10 na no q101 q99 q100 q102) (_ : q101 = 0 → no + 1 + z97 ≤ q100) (_ : q99 ≤ cn) (_ : 60 - z97 < (nP120 : Int)), X K E 8 [(3, .int (iI z97)), (0, .ref a0), (1, .ref a1), (2, .int (iI x2))] [] S g98 0 0 := by
    intro nP120
    induction nP120 with
    | zero => intro g98 hg98 z97 lz97 uz97 q99 lq99 uq99 eq99 q100 lq100 uq100 eq100 q101 lq101 uq101 eq101 q102 lq102 uq102 eq102 v121 v122 v123 mP120; exact False.elim (by omega)
    | succ nP120 ihP120 =>
      intro g98 hg98 z97 lz97 uz97 q99 lq99 uq99 eq99 q100 lq100 uq100 eq100 q101 lq101 uq101 eq101 q102 lq102 uq102 eq102 v121 v122 v123 mP120
      refine X_iloadn hK (i := 3) 0 dX7_readAll_8 rfl rfl ?_
      refine X_bipush hK dX7_readAll_9 (by decide) ?_
      refine X_icmp_ge hK 60 (by omega) (by omega) dX7_readAll_11 (by decide) (fun c124 => ?_) (fun c124 => ?_)
      · exact hret _ _ _ _ _ _ dX7_readAll_60 ⟨rfl, rfl, ⟨q101, q99, q100, q102, eq101, by omega, by omega, eq99, by omega, by omega, eq100, by omega, by omega, eq102, by omega, by omega, (xIn.e v121 (fun h9 => False.elim (by have h8 := v122 h9; omega)))⟩⟩ (Nat.le_refl _) (Nat.le_refl _)
      · refine X_aloadn hK (i := 0) 1 dX7_readAll_14 rfl rfl ?_
        refine X_getK hK fl_X7_29_8 hs_a0 eq101 dX7_readAll_15 ?_
        refine X_if_ne hK 60 (by omega) dX7_readAll_18 (by decide) (fun c125 => ?_) (fun c125 => ?_)
        · exact hret _ _ _ _ _ _ dX7_readAll_60 ⟨rfl, rfl, ⟨q101, q99, q100, q102, eq101, by omega, by omega, eq99, by omega, by omega, eq100, by omega, by omega, eq102, by omega, by omega, (xIn.e v121 (fun h9 => False.elim (by have h8 := v122 h9; omega)))⟩⟩ (Nat.le_refl _) (Nat.le_refl _)
        · refine X_aloadn hK (i := 0) 1 dX7_readAll_21 rfl rfl ?_
          refine X_callV hK [] [] lk_X7_47 (c3_now _ _ _ _ _ S g98 a0 q99 wt wp tk tl cn hs_a0 (by omega) eq99 ((hg98 a0 8 0 0 hs_a0 (by decide)).trans ((hg2 a0 8 0 0 hs_a0 (by decide)).trans ewt)) hs_wt ((hg98 a0 8 0 1 hs_a0 (by decide)).trans ((hg2 a0 8 0 1 hs_a0 (by decide)).trans ewp)) hs_wp (by rw [(Eq.trans (xv_m hg98 hs_wt (by decide) (by decide)) (xv_m hg2 hs_wt (by decide) (by decide))), (Eq.trans (xv_m hg98 hs_wp (by decide) (by decide)) (xv_m hg2 hs_wp (by decide) (by decide)))]; exact hp0) (by omega) (by omega)) hs_a0 ⟨by decide, rfl⟩ dX7_readAll_22 rfl rfl (by simp [Value.category]) (by decide) (by decide) (by decide) (by decide) (fun r126 S128 g127 pr126 qr126 hg127 => ?_)
          obtain ⟨rfl, rfl, z129, rfl, lz129, uz129, k130⟩ := pr126
          refine X_st [.int (iI z129)] rfl ?_
          refine X_bipush hK dX7_readAll_25 (by decide) ?_
          refine X_icmp_ne hK 60 (by omega) (by omega) dX7_readAll_27 (by decide) (fun c131 => ?_) (fun c131 => ?_)
          · exact hret _ _ _ _ _ _ dX7_readAll_60 ⟨rfl, rfl, ⟨q101, q99, q100, q102, eq101, by omega, by omega, eq99, by omega, by omega, eq100, by omega, by omega, eq102, by omega, by omega, (xIn.e v121 (fun h9 => Or.inl ⟨rfl, by rw [← k130]; omega⟩))⟩⟩ (Nat.le_refl _) (Nat.le_refl _)
          · refine X_aloadn hK (i := 0) 1 dX7_readAll_30 rfl rfl ?_
            refine X_dup hK dX7_readAll_31 rfl ?_
            have hl132 := xTB.lt (A := xv g98 wt) (B := xv g98 wp) (tk := tk) (tl := tl) (c := cn) (a := q99) (by rw [(Eq.trans (xv_m hg98 hs_wt (by decide) (by decide)) (xv_m hg2 hs_wt (by decide) (by decide))), (Eq.trans (xv_m hg98 hs_wp (by decide) (by decide)) (xv_m hg2 hs_wp (by decide) (by decide)))]; exact hp0) (by omega) (by rw [← k130]; omega)
            refine X_getK hK fl_X7_18_8 hs_a0 eq99 dX7_readAll_32 ?_
            refine X_iconst hK dX7_readAll_35 ?_
            refine X_iadd hK dX7_readAll_36 ?_
            refine X_puti hK fl_X7_18_8 hs_a0 (by decide) sl_8_2 (by omega) (by omega) dX7_readAll_37 (fun g133 hg133 => ?_)
            refine X_aloadn hK (i := 0) 1 dX7_readAll_40 rfl rfl ?_
            refine X_aloadn hK (i := 1) 2 dX7_readAll_41 rfl rfl ?_
            refine X_iloadn hK (i := 2) 3 dX7_readAll_42 rfl rfl ?_
            refine X_callV hK [.ref a1, .int (iI x2)] [] lk_X7_132 (c3_readOne_10 _ _ _ _ _ S g133 a0 a1 x2 (q99 + 1) q100 q101 q102 wt wp tk tl cn hs_a0 hs_a1 (by omega) (by omega) (xs_s hg133) (by omega) ((xs_k hg133 (by decide)).trans eq100) (by omega) ((xs_k hg133 (by decide)).trans eq101) (by omega) ((xs_k hg133 (by decide)).trans eq102) ((xs_k hg133 (by decide)).trans ((hg98 a0 8 0 0 hs_a0 (by decide)).trans ((hg2 a0 8 0 0 hs_a0 (by decide)).trans ewt))) hs_wt ((xs_k hg133 (by decide)).trans ((hg98 a0 8 0 1 hs_a0 (by decide)).trans ((hg2 a0 8 0 1 hs_a0 (by decide)).trans ewp))) hs_wp (by rw [(Eq.trans (Eq.trans (xv_a hg133 (xne hs_wt hs_a0 (by decide))) (xv_m hg98 hs_wt (by decide) (by decide))) (xv_m hg2 hs_wt (by decide) (by decide))), (Eq.trans (Eq.trans (xv_a hg133 (xne hs_wp hs_a0 (by decide))) (xv_m hg98 hs_wp (by decide) (by decide))) (xv_m hg2 hs_wp (by decide) (by decide)))]; exact hp0) (by omega) (by omega)) hs_a0 ⟨by decide, rfl⟩ dX7_readAll_43 rfl rfl (by simp [Value.category]) (by decide) (by decide) (by decide) (by decide) (fun r134 S136 g135 pr134 qr134 hg135 => ?_)
            obtain ⟨rfl, rfl, k137⟩ := pr134
            refine X_st [] rfl ?_
            obtain ⟨Ft138, at138, ot138, qt138, eFt138, lFt138, uFt138, eat138, lat138, uat138, eot138, lot138, uot138, eqt138, lqt138, uqt138, kt138⟩ := k137
            have cat138 : at138 ≤ 300 := by have h9 := (show xTB (xv g135 wt) (xv g135 wp) tk tl cn from (by rw [(Eq.trans (Eq.trans (Eq.trans (xv_m hg135 hs_wt (by decide) (by decide)) (xv_a hg133 (xne hs_wt hs_a0 (by decide)))) (xv_m hg98 hs_wt (by decide) (by decide))) (xv_m hg2 hs_wt (by decide) (by decide))), (Eq.trans (Eq.trans (Eq.trans (xv_m hg135 hs_wp (by decide) (by decide)) (xv_a hg133 (xne hs_wp hs_a0 (by decide)))) (xv_m hg98 hs_wp (by decide) (by decide))) (xv_m hg2 hs_wp (by decide) (by decide)))]; exact hp0)).2.2.2; omega
            refine X_aloadn hK (i := 1) 2 dX7_readAll_46 rfl rfl ?_
            refine X_bipush hK dX7_readAll_47 (by decide) ?_
            refine X_iconst hK dX7_readAll_49 ?_
            refine X_iconst hK dX7_readAll_50 ?_
            refine X_callV hK [.int (iI 13), .int (iI 0), .int (iI 0)] [] lk_X7_129 (c_X10_addStep _ _ _ _ _ S g135 a1 13 0 0 hs_a1 (by omega) (by omega) (by omega)) hs_a1 ⟨by decide, rfl⟩ dX7_readAll_51 rfl rfl (by simp [Value.category]) (by decide) (by decide) (by decide) (by decide) (fun r139 S141 g140 pr139 qr139 hg140 => ?_)
            obtain ⟨rfl, rfl⟩ := pr139
            refine X_st [] rfl ?_
            refine X_iinc hK (i := 3) (z := z97) (n := 1) 0 [(3, .int (iI (z97 + 1))), (0, .ref a0), (1, .ref a1), (2, .int (iI x2))] dX7_readAll_54 rfl (by decide) rfl ?_
            refine X_goto hK 8 dX7_readAll_57 (by decide) ?_
            exact ihP120  g140 (xM.tr (xM.tr (xM_up (xM.tr xM.rf xLe.rf hg98 (by decide)) hg133 hs_a0 (by decide) (by decide)) xLe.rf hg135 (by decide)) xLe.rf hg140 (by decide)) (z97 + 1) (by omega) (by omega) at138 (by omega) (by omega) ((hg140 a0 8 0 2 hs_a0 (by decide)).trans eat138) ot138 (by omega) (by omega) ((hg140 a0 8 0 3 hs_a0 (by decide)).trans eot138) Ft138 (by omega) (by omega) ((hg140 a0 8 0 5 hs_a0 (by decide)).trans eFt138) qt138 (by omega) (by omega) ((hg140 a0 8 0 6 hs_a0 (by decide)).trans eqt138) (xIn.s (Or.inl ⟨rfl, rfl, (by rw [← k130]; omega)⟩) v121 (by omega) kt138) (fun h9 => by have h8 := xRR.b kt138 h9; omega) (by omega) (by omega)
  exact P120 ((60 - 0 : Int).toNat + 1) g2 xM.rf 0 (by omega) (by omega) at5 (by omega) (by omega) eat5 ot5 (by omega) (by omega) eot5 Ft5 (by omega) (by omega) eFt5 qt5 (by omega) (by omega) eqt5 (xIn.z (Or.inl ⟨rfl, rfl⟩) kt5) (fun h9 => by have h8 := xRR.b kt5 h9; omega) (by omega) (by omega)

set_option maxHeartbeats 4000000 in
set_option maxRecDepth 100000 in
theorem c3_readCond_10 (l : Launch) (D : va_G) (kA : Nat → ClassId) (b0 : Nat) (t0 : Nat → Nat) (S : xT) (g : xG) (a0 : Nat) (a1 : Nat) (x2 : Int) (na : Int) (no : Int) (nf : Int) (nq : Int) (wt : Nat) (wp : Nat) (tk : Int → Int) (tl : Int → Int) (cn : Int) (hs_a0 : S a0 = some (8, 0)) (hs_a1 : S a1 = some (11, 0)) (hx2 : 10 ≤ x2 ∧ x2 ≤ 10) (hna : 0 ≤ na ∧ na ≤ 300) (ena : g a0 2 = .int (iI na)) (hno : 0 ≤ no ∧ no ≤ 50) (eno : g a0 3 = .int (iI no)) (hnf : 0 ≤ nf ∧ nf ≤ 0) (enf : g a0 5 = .int (iI nf)) (hnq : 0 ≤ nq ∧ nq ≤ 300) (enq : g a0 6 = .int (iI nq)) (ewt : g a0 0 = .ref wt) (hs_wt : S wt = some (12900, 301)) (ewp : g a0 1 = .ref wp) (hs_wp : S wp = some (13000, 301)) (hp0 : xTB (xv g wt) (xv g wp) tk tl cn) (hp1 : na ≤ cn) (hp2 : cn ≤ 300) : xMt l yX7_readCond cX7_readCond 4 none 6 0 0 138 D kA b0 t0 [(8, 5), (8, 6), (8, 3), (8, 2), (14000, 0), (11, 2)] [.ref a0, .ref a1, .int (iI x2)] S g (fun (r : Option Value) (S1 : xT) (g1 : xG) => S = S1 ∧ r = none ∧ (∃ F a o q : Int, g1 a0 5 = .int (iI F) ∧ -2147483648 ≤ F ∧ F ≤ 2147483647 ∧ g1 a0 2 = .int (iI a) ∧ 0 ≤ a ∧ a ≤ cn ∧ g1 a0 3 = .int (iI o) ∧ 0 ≤ o ∧ o ≤ 50 ∧ g1 a0 6 = .int (iI q) ∧ 0 ≤ q ∧ q ≤ 300 ∧ xRR tk tl 2 10 na no F a o q)) := by
  refine xEnterV (by decide) (by simp [lg_sl, Value.category]) [(0, .ref a0), (1, .ref a1), (2, .int (iI x2))] rfl ?_
  intro K E hK hret _ _ _
  refine X_aloadn hK (i := 0) 0 dX7_readCond_0 rfl rfl ?_
  refine X_aloadn hK (i := 1) 1 dX7_readCond_1 rfl rfl ?_
  refine X_iloadn hK (i := 2) 2 dX7_readCond_2 rfl rfl ?_
  refine X_callV hK [.ref a1, .int (iI x2)] [] lk_X7_126 (c3_readAll_10 _ _ _ _ _ S g a0 a1 x2 na no nf nq wt wp tk tl cn hs_a0 hs_a1 (by omega) (by omega) ena (by omega) eno (by omega) enf (by omega) enq ewt hs_wt ewp hs_wp hp0 (by omega) (by omega)) hs_a0 ⟨by decide, rfl⟩ dX7_readCond_3 rfl rfl (by simp [Value.category]) (by decide) (by decide) (by decide) (by decide) (fun r1 S3 g2 pr1 qr1 hg2 => ?_)
  obtain ⟨rfl, rfl, k4⟩ := pr1
  refine X_st [] rfl ?_
  obtain ⟨Ft5, at5, ot5, qt5, eFt5, lFt5, uFt5, eat5, lat5, uat5, eot5, lot5, uot5, eqt5, lqt5, uqt5, kt5⟩ := k4
  have cat5 : at5 ≤ 300 := by have h9 := (show xTB (xv g2 wt) (xv g2 wp) tk tl cn from (by rw [(xv_m hg2 hs_wt (by decide) (by decide)), (xv_m hg2 hs_wp (by decide) (by decide))]; exact hp0)).2.2.2; omega
  refine X_iconst hK dX7_readCond_6 ?_
  refine X_istoren hK (i := 3) [(3, .int (iI 0)), (0, .ref a0), (1, .ref a1), (2, .int (iI x2))] dX7_readCond_7 rfl (by decide) rfl ?_
  have P120 : ∀ (nP120 : Nat) (g98 : xG) (_ : xM [(14000, 0), (11, 2), (8, 5), (8, 6), (8, 3), (8, 2)] S g2 g98) (z97 : Int) (_ : 0 ≤ z97) (_ : z97 ≤ 50) (q99 : Int) (_ : 0 ≤ q99) (_ : q99 ≤ 300) (_ : g98 a0 2 = .int (iI q99)) (q100 : Int) (_ : 0 ≤ q100) (_ : q100 ≤ 50) (_ : g98 a0 3 = .int (iI q100)) (q101 : Int) (_ : (-2147483648) ≤ q101) (_ : q101 ≤ 2147483647) (_ : g98 a0 5 = .int (iI q101)) (q102 : Int) (_ : 0 ≤ q102) (_ : q102 ≤ 300) (_ : g98 a0 6 = .int (iI q102)) (_ : xIn tk tl 2 10 na no q101 q99 q100 q102) (_ : q101 = 0 → no + 1 + z97 ≤ q100) (_ : q99 ≤ cn) (_ : 60 - z97 < (nP120 : Int)), X K E 8 [(3, .int (iI z97)), (0, .ref a0), (1, .ref a1), (2, .int (iI x2))] [] S g98 0 0 := by
    intro nP120
    induction nP120 with
    | zero => intro g98 hg98 z97 lz97 uz97 q99 lq99 uq99 eq99 q100 lq100 uq100 eq100 q101 lq101 uq101 eq101 q102 lq102 uq102 eq102 v121 v122 v123 mP120; exact False.elim (by omega)
    | succ nP120 ihP120 =>
      intro g98 hg98 z97 lz97 uz97 q99 lq99 uq99 eq99 q100 lq100 uq100 eq100 q101 lq101 uq101 eq101 q102 lq102 uq102 eq102 v121 v122 v123 mP120
      refine X_iloadn hK (i := 3) 0 dX7_readCond_8 rfl rfl ?_
      refine X_bipush hK dX7_readCond_9 (by decide) ?_
      refine X_icmp_ge hK 60 (by omega) (by omega) dX7_readCond_11 (by decide) (fun c124 => ?_) (fun c124 => ?_)
      · exact hret _ _ _ _ _ _ dX7_readCond_60 ⟨rfl, rfl, ⟨q101, q99, q100, q102, eq101, by omega, by omega, eq99, by omega, by omega, eq100, by omega, by omega, eq102, by omega, by omega, (xIn.e v121 (fun h9 => False.elim (by have h8 := v122 h9; omega)))⟩⟩ (Nat.le_refl _) (Nat.le_refl _)
      · refine X_aloadn hK (i := 0) 1 dX7_readCond_14 rfl rfl ?_
        refine X_getK hK fl_X7_29_8 hs_a0 eq101 dX7_readCond_15 ?_
        refine X_if_ne hK 60 (by omega) dX7_readCond_18 (by decide) (fun c125 => ?_) (fun c125 => ?_)
        · exact hret _ _ _ _ _ _ dX7_readCond_60 ⟨rfl, rfl, ⟨q101, q99, q100, q102, eq101, by omega, by omega, eq99, by omega, by omega, eq100, by omega, by omega, eq102, by omega, by omega, (xIn.e v121 (fun h9 => False.elim (by have h8 := v122 h9; omega)))⟩⟩ (Nat.le_refl _) (Nat.le_refl _)
        · refine X_aloadn hK (i := 0) 1 dX7_readCond_21 rfl rfl ?_
          refine X_callV hK [] [] lk_X7_47 (c3_now _ _ _ _ _ S g98 a0 q99 wt wp tk tl cn hs_a0 (by omega) eq99 ((hg98 a0 8 0 0 hs_a0 (by decide)).trans ((hg2 a0 8 0 0 hs_a0 (by decide)).trans ewt)) hs_wt ((hg98 a0 8 0 1 hs_a0 (by decide)).trans ((hg2 a0 8 0 1 hs_a0 (by decide)).trans ewp)) hs_wp (by rw [(Eq.trans (xv_m hg98 hs_wt (by decide) (by decide)) (xv_m hg2 hs_wt (by decide) (by decide))), (Eq.trans (xv_m hg98 hs_wp (by decide) (by decide)) (xv_m hg2 hs_wp (by decide) (by decide)))]; exact hp0) (by omega) (by omega)) hs_a0 ⟨by decide, rfl⟩ dX7_readCond_22 rfl rfl (by simp [Value.category]) (by decide) (by decide) (by decide) (by decide) (fun r126 S128 g127 pr126 qr126 hg127 => ?_)
          obtain ⟨rfl, rfl, z129, rfl, lz129, uz129, k130⟩ := pr126
          refine X_st [.int (iI z129)] rfl ?_
          refine X_bipush hK dX7_readCond_25 (by decide) ?_
          refine X_icmp_ne hK 60 (by omega) (by omega) dX7_readCond_27 (by decide) (fun c131 => ?_) (fun c131 => ?_)
          · exact hret _ _ _ _ _ _ dX7_readCond_60 ⟨rfl, rfl, ⟨q101, q99, q100, q102, eq101, by omega, by omega, eq99, by omega, by omega, eq100, by omega, by omega, eq102, by omega, by omega, (xIn.e v121 (fun h9 => Or.inr ⟨rfl, by rw [← k130]; omega⟩))⟩⟩ (Nat.le_refl _) (Nat.le_refl _)
          · refine X_aloadn hK (i := 0) 1 dX7_readCond_30 rfl rfl ?_
            refine X_dup hK dX7_readCond_31 rfl ?_
            have hl132 := xTB.lt (A := xv g98 wt) (B := xv g98 wp) (tk := tk) (tl := tl) (c := cn) (a := q99) (by rw [(Eq.trans (xv_m hg98 hs_wt (by decide) (by decide)) (xv_m hg2 hs_wt (by decide) (by decide))), (Eq.trans (xv_m hg98 hs_wp (by decide) (by decide)) (xv_m hg2 hs_wp (by decide) (by decide)))]; exact hp0) (by omega) (by rw [← k130]; omega)
            refine X_getK hK fl_X7_18_8 hs_a0 eq99 dX7_readCond_32 ?_
            refine X_iconst hK dX7_readCond_35 ?_
            refine X_iadd hK dX7_readCond_36 ?_
            refine X_puti hK fl_X7_18_8 hs_a0 (by decide) sl_8_2 (by omega) (by omega) dX7_readCond_37 (fun g133 hg133 => ?_)
            refine X_aloadn hK (i := 0) 1 dX7_readCond_40 rfl rfl ?_
            refine X_aloadn hK (i := 1) 2 dX7_readCond_41 rfl rfl ?_
            refine X_iloadn hK (i := 2) 3 dX7_readCond_42 rfl rfl ?_
            refine X_callV hK [.ref a1, .int (iI x2)] [] lk_X7_126 (c3_readAll_10 _ _ _ _ _ S g133 a0 a1 x2 (q99 + 1) q100 q101 q102 wt wp tk tl cn hs_a0 hs_a1 (by omega) (by omega) (xs_s hg133) (by omega) ((xs_k hg133 (by decide)).trans eq100) (by omega) ((xs_k hg133 (by decide)).trans eq101) (by omega) ((xs_k hg133 (by decide)).trans eq102) ((xs_k hg133 (by decide)).trans ((hg98 a0 8 0 0 hs_a0 (by decide)).trans ((hg2 a0 8 0 0 hs_a0 (by decide)).trans ewt))) hs_wt ((xs_k hg133 (by decide)).trans ((hg98 a0 8 0 1 hs_a0 (by decide)).trans ((hg2 a0 8 0 1 hs_a0 (by decide)).trans ewp))) hs_wp (by rw [(Eq.trans (Eq.trans (xv_a hg133 (xne hs_wt hs_a0 (by decide))) (xv_m hg98 hs_wt (by decide) (by decide))) (xv_m hg2 hs_wt (by decide) (by decide))), (Eq.trans (Eq.trans (xv_a hg133 (xne hs_wp hs_a0 (by decide))) (xv_m hg98 hs_wp (by decide) (by decide))) (xv_m hg2 hs_wp (by decide) (by decide)))]; exact hp0) (by omega) (by omega)) hs_a0 ⟨by decide, rfl⟩ dX7_readCond_43 rfl rfl (by simp [Value.category]) (by decide) (by decide) (by decide) (by decide) (fun r134 S136 g135 pr134 qr134 hg135 => ?_)
            obtain ⟨rfl, rfl, k137⟩ := pr134
            refine X_st [] rfl ?_
            obtain ⟨Ft138, at138, ot138, qt138, eFt138, lFt138, uFt138, eat138, lat138, uat138, eot138, lot138, uot138, eqt138, lqt138, uqt138, kt138⟩ := k137
            have cat138 : at138 ≤ 300 := by have h9 := (show xTB (xv g135 wt) (xv g135 wp) tk tl cn from (by rw [(Eq.trans (Eq.trans (Eq.trans (xv_m hg135 hs_wt (by decide) (by decide)) (xv_a hg133 (xne hs_wt hs_a0 (by decide)))) (xv_m hg98 hs_wt (by decide) (by decide))) (xv_m hg2 hs_wt (by decide) (by decide))), (Eq.trans (Eq.trans (Eq.trans (xv_m hg135 hs_wp (by decide) (by decide)) (xv_a hg133 (xne hs_wp hs_a0 (by decide)))) (xv_m hg98 hs_wp (by decide) (by decide))) (xv_m hg2 hs_wp (by decide) (by decide)))]; exact hp0)).2.2.2; omega
            refine X_aloadn hK (i := 1) 2 dX7_readCond_46 rfl rfl ?_
            refine X_bipush hK dX7_readCond_47 (by decide) ?_
            refine X_iconst hK dX7_readCond_49 ?_
            refine X_iconst hK dX7_readCond_50 ?_
            refine X_callV hK [.int (iI 14), .int (iI 0), .int (iI 0)] [] lk_X7_129 (c_X10_addStep _ _ _ _ _ S g135 a1 14 0 0 hs_a1 (by omega) (by omega) (by omega)) hs_a1 ⟨by decide, rfl⟩ dX7_readCond_51 rfl rfl (by simp [Value.category]) (by decide) (by decide) (by decide) (by decide) (fun r139 S141 g140 pr139 qr139 hg140 => ?_)
            obtain ⟨rfl, rfl⟩ := pr139
            refine X_st [] rfl ?_
            refine X_iinc hK (i := 3) (z := z97) (n := 1) 0 [(3, .int (iI (z97 + 1))), (0, .ref a0), (1, .ref a1), (2, .int (iI x2))] dX7_readCond_54 rfl (by decide) rfl ?_
            refine X_goto hK 8 dX7_readCond_57 (by decide) ?_
            exact ihP120  g140 (xM.tr (xM.tr (xM_up (xM.tr xM.rf xLe.rf hg98 (by decide)) hg133 hs_a0 (by decide) (by decide)) xLe.rf hg135 (by decide)) xLe.rf hg140 (by decide)) (z97 + 1) (by omega) (by omega) at138 (by omega) (by omega) ((hg140 a0 8 0 2 hs_a0 (by decide)).trans eat138) ot138 (by omega) (by omega) ((hg140 a0 8 0 3 hs_a0 (by decide)).trans eot138) Ft138 (by omega) (by omega) ((hg140 a0 8 0 5 hs_a0 (by decide)).trans eFt138) qt138 (by omega) (by omega) ((hg140 a0 8 0 6 hs_a0 (by decide)).trans eqt138) (xIn.s (Or.inr ⟨rfl, rfl, (by rw [← k130]; omega)⟩) v121 (by omega) kt138) (fun h9 => by have h8 := xRR.b1 kt138 h9; omega) (by omega) (by omega)
  exact P120 ((60 - 0 : Int).toNat + 1) g2 xM.rf 0 (by omega) (by omega) at5 (by omega) (by omega) eat5 ot5 (by omega) (by omega) eot5 Ft5 (by omega) (by omega) eFt5 qt5 (by omega) (by omega) eqt5 (xIn.z (Or.inr ⟨rfl, rfl⟩) kt5) (fun h9 => by have h8 := xRR.b1 kt5 h9; omega) (by omega) (by omega)

set_option maxHeartbeats 4000000 in
set_option maxRecDepth 100000 in
theorem c3_readOne_9 (l : Launch) (D : va_G) (kA : Nat → ClassId) (b0 : Nat) (t0 : Nat → Nat) (S : xT) (g : xG) (a0 : Nat) (a1 : Nat) (x2 : Int) (na : Int) (no : Int) (nf : Int) (nq : Int) (wt : Nat) (wp : Nat) (tk : Int → Int) (tl : Int → Int) (cn : Int) (hs_a0 : S a0 = some (8, 0)) (hs_a1 : S a1 = some (11, 0)) (hx2 : 9 ≤ x2 ∧ x2 ≤ 9) (hna : 0 ≤ na ∧ na ≤ 300) (ena : g a0 2 = .int (iI na)) (hno : 0 ≤ no ∧ no ≤ 50) (eno : g a0 3 = .int (iI no)) (hnf : 0 ≤ nf ∧ nf ≤ 0) (enf : g a0 5 = .int (iI nf)) (hnq : 0 ≤ nq ∧ nq ≤ 300) (enq : g a0 6 = .int (iI nq)) (ewt : g a0 0 = .ref wt) (hs_wt : S wt = some (12900, 301)) (ewp : g a0 1 = .ref wp) (hs_wp : S wp = some (13000, 301)) (hp0 : xTB (xv g wt) (xv g wp) tk tl cn) (hp1 : na ≤ cn) (hp2 : cn ≤ 300) : xMt l yX7_readOne cX7_readOne 5 none 7 0 0 161 D kA b0 t0 [(8, 5), (8, 6), (8, 3), (8, 2), (14000, 0), (11, 2)] [.ref a0, .ref a1, .int (iI x2)] S g (fun (r : Option Value) (S1 : xT) (g1 : xG) => S = S1 ∧ r = none ∧ (∃ F a o q : Int, g1 a0 5 = .int (iI F) ∧ -2147483648 ≤ F ∧ F ≤ 2147483647 ∧ g1 a0 2 = .int (iI a) ∧ 0 ≤ a ∧ a ≤ cn ∧ g1 a0 3 = .int (iI o) ∧ 0 ≤ o ∧ o ≤ 50 ∧ g1 a0 6 = .int (iI q) ∧ 0 ≤ q ∧ q ≤ 300 ∧ xRR tk tl 0 9 na no F a o q)) := by
  refine xEnterV (by decide) (by simp [lg_sl, Value.category]) [(0, .ref a0), (1, .ref a1), (2, .int (iI x2))] rfl ?_
  intro K E hK hret _ _ _
  refine X_aloadn hK (i := 0) 0 dX7_readOne_0 rfl rfl ?_
  refine X_callV hK [] [] lk_X7_47 (c3_now _ _ _ _ _ S g a0 na wt wp tk tl cn hs_a0 (by omega) ena ewt hs_wt ewp hs_wp hp0 (by omega) (by omega)) hs_a0 ⟨by decide, rfl⟩ dX7_readOne_1 rfl rfl (by simp [Value.category]) (by decide) (by decide) (by decide) (by decide) (fun r1 S3 g2 pr1 qr1 hg2 => ?_)
  obtain ⟨rfl, rfl, z4, rfl, lz4, uz4, k5⟩ := pr1
  refine X_st [.int (iI z4)] rfl ?_
  refine X_istoren hK (i := 3) [(3, .int (iI z4)), (0, .ref a0), (1, .ref a1), (2, .int (iI x2))] dX7_readOne_4 rfl (by decide) rfl ?_
  refine X_iloadn hK (i := 3) 0 dX7_readOne_5 rfl rfl ?_
  refine X_bipush hK dX7_readOne_6 (by decide) ?_
  refine X_icmp_lt hK 21 (by omega) (by omega) dX7_readOne_8 (by decide) (fun c6 => ?_) (fun c6 => ?_)
  · refine X_iconst hK dX7_readOne_21 ?_
    refine X_istore hK (i := 4) [(4, .int (iI 0)), (3, .int (iI z4)), (0, .ref a0), (1, .ref a1), (2, .int (iI x2))] dX7_readOne_22 (by decide) rfl ?_
    refine X_iload hK (i := 4) 0 dX7_readOne_24 rfl ?_
    refine X_if_ne hK 49 (by omega) dX7_readOne_26 (by decide) (fun c7 => False.elim (by omega)) (fun c7 => ?_)
    refine X_iloadn hK (i := 3) 1 dX7_readOne_29 rfl rfl ?_
    refine X_bipush hK dX7_readOne_30 (by decide) ?_
    refine X_icmp_eq hK 49 (by omega) (by omega) dX7_readOne_32 (by decide) (fun c8 => ?_) (fun c8 => ?_)
    · refine X_aloadn hK (i := 0) 2 dX7_readOne_49 rfl rfl ?_
      refine X_getK hK fl_X7_22_8 hs_a0 eno dX7_readOne_50 ?_
      refine X_bipush hK dX7_readOne_53 (by decide) ?_
      refine X_icmp_ge hK 64 (by omega) (by omega) dX7_readOne_55 (by decide) (fun c9 => ?_) (fun c9 => ?_)
      · refine X_aloadn hK (i := 0) 2 dX7_readOne_64 rfl rfl ?_
        refine X_iconst hK dX7_readOne_65 ?_
        refine X_callV hK [.int (iI 4)] [] lk_X7_60 (c3_tell _ _ _ _ _ S g a0 4 na no nf nq wt wp tk tl cn hs_a0 (by omega) (by omega) ena (by omega) eno (by omega) enf (by omega) enq ewt hs_wt ewp hs_wp hp0 (by omega) (by omega)) hs_a0 ⟨by decide, rfl⟩ dX7_readOne_66 rfl rfl (by simp [Value.category]) (by decide) (by decide) (by decide) (by decide) (fun r10 S12 g11 pr10 qr10 hg11 => ?_)
        obtain ⟨rfl, rfl, k13⟩ := pr10
        refine X_st [] rfl ?_
        obtain ⟨Ft14, at14, ot14, qt14, eFt14, lFt14, uFt14, eat14, lat14, uat14, eot14, lot14, uot14, eqt14, lqt14, uqt14, kt14⟩ := k13
        have cat14 : at14 ≤ 300 := by have h9 := (show xTB (xv g11 wt) (xv g11 wp) tk tl cn from (by rw [(xv_m hg11 hs_wt (by decide) (by decide)), (xv_m hg11 hs_wp (by decide) (by decide))]; exact hp0)).2.2.2; omega
        refine X_goto hK 148 dX7_readOne_69 (by decide) ?_
        exact hret _ _ _ _ _ _ dX7_readOne_148 ⟨rfl, rfl, ⟨Ft14, at14, ot14, qt14, eFt14, by omega, by omega, eat14, by omega, by omega, eot14, by omega, by omega, eqt14, by omega, by omega, (by obtain ⟨h8, h7, h6⟩ := kt14; have h5 := h8.resolve_left (fun q9 => by omega); rw [h5.2.1]; exact xRR.f4 (by rw [← k5]; omega) (by omega) h5.2.2)⟩⟩ (Nat.le_refl _) (Nat.le_refl _)
      · refine X_iloadn hK (i := 2) 4 dX7_readOne_58 rfl rfl ?_
        refine X_bipush hK dX7_readOne_59 (by decide) ?_
        refine X_icmp_le hK 72 (by omega) (by omega) dX7_readOne_61 (by decide) (fun c15 => ?_) (fun c15 => False.elim (by omega))
        refine X_aloadn hK (i := 0) 2 dX7_readOne_72 rfl rfl ?_
        refine X_dup hK dX7_readOne_73 rfl ?_
        refine X_getK hK fl_X7_22_8 hs_a0 eno dX7_readOne_74 ?_
        refine X_iconst hK dX7_readOne_77 ?_
        refine X_iadd hK dX7_readOne_78 ?_
        refine X_puti hK fl_X7_22_8 hs_a0 (by decide) sl_8_3 (by omega) (by omega) dX7_readOne_79 (fun g16 hg16 => ?_)
        refine X_aloadn hK (i := 0) 2 dX7_readOne_82 rfl rfl ?_
        refine X_dup hK dX7_readOne_83 rfl ?_
        have hl17 := xTB.lt (A := xv g16 wt) (B := xv g16 wp) (tk := tk) (tl := tl) (c := cn) (a := na) (by rw [(xv_a hg16 (xne hs_wt hs_a0 (by decide))), (xv_a hg16 (xne hs_wp hs_a0 (by decide)))]; exact hp0) (by omega) (by rw [← k5]; omega)
        refine X_getK hK fl_X7_18_8 hs_a0 ((xs_k hg16 (by decide)).trans ena) dX7_readOne_84 ?_
        refine X_iconst hK dX7_readOne_87 ?_
        refine X_iadd hK dX7_readOne_88 ?_
        refine X_puti hK fl_X7_18_8 hs_a0 (by decide) sl_8_2 (by omega) (by omega) dX7_readOne_89 (fun g18 hg18 => ?_)
        refine X_iload hK (i := 4) 0 dX7_readOne_92 rfl ?_
        refine X_if_eq hK 109 (by omega) dX7_readOne_94 (by decide) (fun c19 => ?_) (fun c19 => False.elim (by omega))
        refine X_iloadn hK (i := 3) 1 dX7_readOne_109 rfl rfl ?_
        refine X_bipush hK dX7_readOne_110 (by decide) ?_
        refine X_icmp_ne hK 132 (by omega) (by omega) dX7_readOne_112 (by decide) (fun c20 => ?_) (fun c20 => False.elim (by omega))
        refine X_aloadn hK (i := 0) 2 dX7_readOne_132 rfl rfl ?_
        refine X_aloadn hK (i := 1) 3 dX7_readOne_133 rfl rfl ?_
        refine X_iloadn hK (i := 2) 4 dX7_readOne_134 rfl rfl ?_
        refine X_iconst hK dX7_readOne_135 ?_
        refine X_iadd hK dX7_readOne_136 ?_
        refine X_callV hK [.ref a1, .int (iI (x2 + 1))] [] lk_X7_132 (c3_readOne_10 _ _ _ _ _ S g18 a0 a1 (x2 + 1) (na + 1) (no + 1) nf nq wt wp tk tl cn hs_a0 hs_a1 (by omega) (by omega) (xs_s hg18) (by omega) ((xs_k hg18 (by decide)).trans (xs_s hg16)) (by omega) ((xs_k hg18 (by decide)).trans ((xs_k hg16 (by decide)).trans enf)) (by omega) ((xs_k hg18 (by decide)).trans ((xs_k hg16 (by decide)).trans enq)) ((xs_k hg18 (by decide)).trans ((xs_k hg16 (by decide)).trans ewt)) hs_wt ((xs_k hg18 (by decide)).trans ((xs_k hg16 (by decide)).trans ewp)) hs_wp (by rw [(Eq.trans (xv_a hg18 (xne hs_wt hs_a0 (by decide))) (xv_a hg16 (xne hs_wt hs_a0 (by decide)))), (Eq.trans (xv_a hg18 (xne hs_wp hs_a0 (by decide))) (xv_a hg16 (xne hs_wp hs_a0 (by decide))))]; exact hp0) (by omega) (by omega)) hs_a0 ⟨by decide, rfl⟩ dX7_readOne_137 rfl rfl (by simp [Value.category]) (by decide) (by decide) (by decide) (by decide) (fun r21 S23 g22 pr21 qr21 hg22 => ?_)
        obtain ⟨rfl, rfl, k24⟩ := pr21
        refine X_st [] rfl ?_
        obtain ⟨Ft25, at25, ot25, qt25, eFt25, lFt25, uFt25, eat25, lat25, uat25, eot25, lot25, uot25, eqt25, lqt25, uqt25, kt25⟩ := k24
        have cat25 : at25 ≤ 300 := by have h9 := (show xTB (xv g22 wt) (xv g22 wp) tk tl cn from (by rw [(Eq.trans (Eq.trans (xv_m hg22 hs_wt (by decide) (by decide)) (xv_a hg18 (xne hs_wt hs_a0 (by decide)))) (xv_a hg16 (xne hs_wt hs_a0 (by decide)))), (Eq.trans (Eq.trans (xv_m hg22 hs_wp (by decide) (by decide)) (xv_a hg18 (xne hs_wp hs_a0 (by decide)))) (xv_a hg16 (xne hs_wp hs_a0 (by decide))))]; exact hp0)).2.2.2; omega
        refine X_aloadn hK (i := 1) 3 dX7_readOne_140 rfl rfl ?_
        refine X_bipush hK dX7_readOne_141 (by decide) ?_
        refine X_iconst hK dX7_readOne_143 ?_
        refine X_iconst hK dX7_readOne_144 ?_
        refine X_callV hK [.int (iI 12), .int (iI 0), .int (iI 0)] [] lk_X7_129 (c_X10_addStep _ _ _ _ _ S g22 a1 12 0 0 hs_a1 (by omega) (by omega) (by omega)) hs_a1 ⟨by decide, rfl⟩ dX7_readOne_145 rfl rfl (by simp [Value.category]) (by decide) (by decide) (by decide) (by decide) (fun r26 S28 g27 pr26 qr26 hg27 => ?_)
        obtain ⟨rfl, rfl⟩ := pr26
        refine X_st [] rfl ?_
        exact hret _ _ _ _ _ _ dX7_readOne_148 ⟨rfl, rfl, ⟨Ft25, at25, ot25, qt25, ((hg27 a0 8 0 5 hs_a0 (by decide)).trans eFt25), by omega, by omega, ((hg27 a0 8 0 2 hs_a0 (by decide)).trans eat25), by omega, by omega, ((hg27 a0 8 0 3 hs_a0 (by decide)).trans eot25), by omega, by omega, ((hg27 a0 8 0 6 hs_a0 (by decide)).trans eqt25), by omega, by omega, (xRR.nt (by rw [← k5]; omega) (by omega) kt25)⟩⟩ (Nat.le_refl _) (Nat.le_refl _)
    · refine X_iloadn hK (i := 3) 1 dX7_readOne_35 rfl rfl ?_
      refine X_bipush hK dX7_readOne_36 (by decide) ?_
      refine X_icmp_eq hK 49 (by omega) (by omega) dX7_readOne_38 (by decide) (fun c29 => False.elim (by omega)) (fun c29 => ?_)
      refine X_aloadn hK (i := 0) 2 dX7_readOne_41 rfl rfl ?_
      refine X_iconst hK dX7_readOne_42 ?_
      refine X_callV hK [.int (iI 1)] [] lk_X7_60 (c3_tell _ _ _ _ _ S g a0 1 na no nf nq wt wp tk tl cn hs_a0 (by omega) (by omega) ena (by omega) eno (by omega) enf (by omega) enq ewt hs_wt ewp hs_wp hp0 (by omega) (by omega)) hs_a0 ⟨by decide, rfl⟩ dX7_readOne_43 rfl rfl (by simp [Value.category]) (by decide) (by decide) (by decide) (by decide) (fun r30 S32 g31 pr30 qr30 hg31 => ?_)
      obtain ⟨rfl, rfl, k33⟩ := pr30
      refine X_st [] rfl ?_
      obtain ⟨Ft34, at34, ot34, qt34, eFt34, lFt34, uFt34, eat34, lat34, uat34, eot34, lot34, uot34, eqt34, lqt34, uqt34, kt34⟩ := k33
      have cat34 : at34 ≤ 300 := by have h9 := (show xTB (xv g31 wt) (xv g31 wp) tk tl cn from (by rw [(xv_m hg31 hs_wt (by decide) (by decide)), (xv_m hg31 hs_wp (by decide) (by decide))]; exact hp0)).2.2.2; omega
      refine X_goto hK 148 dX7_readOne_46 (by decide) ?_
      exact hret _ _ _ _ _ _ dX7_readOne_148 ⟨rfl, rfl, ⟨Ft34, at34, ot34, qt34, eFt34, by omega, by omega, eat34, by omega, by omega, eot34, by omega, by omega, eqt34, by omega, by omega, (by obtain ⟨h8, h7, h6⟩ := kt34; have h5 := h8.resolve_left (fun q9 => by omega); rw [h5.2.1]; exact xRR.f1 (by rw [← k5]; omega) h5.2.2)⟩⟩ (Nat.le_refl _) (Nat.le_refl _)
  · refine X_iloadn hK (i := 3) 0 dX7_readOne_11 rfl rfl ?_
    refine X_bipush hK dX7_readOne_12 (by decide) ?_
    refine X_icmp_ge hK 21 (by omega) (by omega) dX7_readOne_14 (by decide) (fun c35 => ?_) (fun c35 => ?_)
    · refine X_iconst hK dX7_readOne_21 ?_
      refine X_istore hK (i := 4) [(4, .int (iI 0)), (3, .int (iI z4)), (0, .ref a0), (1, .ref a1), (2, .int (iI x2))] dX7_readOne_22 (by decide) rfl ?_
      refine X_iload hK (i := 4) 0 dX7_readOne_24 rfl ?_
      refine X_if_ne hK 49 (by omega) dX7_readOne_26 (by decide) (fun c36 => False.elim (by omega)) (fun c36 => ?_)
      refine X_iloadn hK (i := 3) 1 dX7_readOne_29 rfl rfl ?_
      refine X_bipush hK dX7_readOne_30 (by decide) ?_
      refine X_icmp_eq hK 49 (by omega) (by omega) dX7_readOne_32 (by decide) (fun c37 => False.elim (by omega)) (fun c37 => ?_)
      refine X_iloadn hK (i := 3) 1 dX7_readOne_35 rfl rfl ?_
      refine X_bipush hK dX7_readOne_36 (by decide) ?_
      refine X_icmp_eq hK 49 (by omega) (by omega) dX7_readOne_38 (by decide) (fun c38 => ?_) (fun c38 => ?_)
      · refine X_aloadn hK (i := 0) 2 dX7_readOne_49 rfl rfl ?_
        refine X_getK hK fl_X7_22_8 hs_a0 eno dX7_readOne_50 ?_
        refine X_bipush hK dX7_readOne_53 (by decide) ?_
        refine X_icmp_ge hK 64 (by omega) (by omega) dX7_readOne_55 (by decide) (fun c39 => ?_) (fun c39 => ?_)
        · refine X_aloadn hK (i := 0) 2 dX7_readOne_64 rfl rfl ?_
          refine X_iconst hK dX7_readOne_65 ?_
          refine X_callV hK [.int (iI 4)] [] lk_X7_60 (c3_tell _ _ _ _ _ S g a0 4 na no nf nq wt wp tk tl cn hs_a0 (by omega) (by omega) ena (by omega) eno (by omega) enf (by omega) enq ewt hs_wt ewp hs_wp hp0 (by omega) (by omega)) hs_a0 ⟨by decide, rfl⟩ dX7_readOne_66 rfl rfl (by simp [Value.category]) (by decide) (by decide) (by decide) (by decide) (fun r40 S42 g41 pr40 qr40 hg41 => ?_)
          obtain ⟨rfl, rfl, k43⟩ := pr40
          refine X_st [] rfl ?_
          obtain ⟨Ft44, at44, ot44, qt44, eFt44, lFt44, uFt44, eat44, lat44, uat44, eot44, lot44, uot44, eqt44, lqt44, uqt44, kt44⟩ := k43
          have cat44 : at44 ≤ 300 := by have h9 := (show xTB (xv g41 wt) (xv g41 wp) tk tl cn from (by rw [(xv_m hg41 hs_wt (by decide) (by decide)), (xv_m hg41 hs_wp (by decide) (by decide))]; exact hp0)).2.2.2; omega
          refine X_goto hK 148 dX7_readOne_69 (by decide) ?_
          exact hret _ _ _ _ _ _ dX7_readOne_148 ⟨rfl, rfl, ⟨Ft44, at44, ot44, qt44, eFt44, by omega, by omega, eat44, by omega, by omega, eot44, by omega, by omega, eqt44, by omega, by omega, (by obtain ⟨h8, h7, h6⟩ := kt44; have h5 := h8.resolve_left (fun q9 => by omega); rw [h5.2.1]; exact xRR.f4 (by rw [← k5]; omega) (by omega) h5.2.2)⟩⟩ (Nat.le_refl _) (Nat.le_refl _)
        · refine X_iloadn hK (i := 2) 4 dX7_readOne_58 rfl rfl ?_
          refine X_bipush hK dX7_readOne_59 (by decide) ?_
          refine X_icmp_le hK 72 (by omega) (by omega) dX7_readOne_61 (by decide) (fun c45 => ?_) (fun c45 => False.elim (by omega))
          refine X_aloadn hK (i := 0) 2 dX7_readOne_72 rfl rfl ?_
          refine X_dup hK dX7_readOne_73 rfl ?_
          refine X_getK hK fl_X7_22_8 hs_a0 eno dX7_readOne_74 ?_
          refine X_iconst hK dX7_readOne_77 ?_
          refine X_iadd hK dX7_readOne_78 ?_
          refine X_puti hK fl_X7_22_8 hs_a0 (by decide) sl_8_3 (by omega) (by omega) dX7_readOne_79 (fun g46 hg46 => ?_)
          refine X_aloadn hK (i := 0) 2 dX7_readOne_82 rfl rfl ?_
          refine X_dup hK dX7_readOne_83 rfl ?_
          have hl47 := xTB.lt (A := xv g46 wt) (B := xv g46 wp) (tk := tk) (tl := tl) (c := cn) (a := na) (by rw [(xv_a hg46 (xne hs_wt hs_a0 (by decide))), (xv_a hg46 (xne hs_wp hs_a0 (by decide)))]; exact hp0) (by omega) (by rw [← k5]; omega)
          refine X_getK hK fl_X7_18_8 hs_a0 ((xs_k hg46 (by decide)).trans ena) dX7_readOne_84 ?_
          refine X_iconst hK dX7_readOne_87 ?_
          refine X_iadd hK dX7_readOne_88 ?_
          refine X_puti hK fl_X7_18_8 hs_a0 (by decide) sl_8_2 (by omega) (by omega) dX7_readOne_89 (fun g48 hg48 => ?_)
          refine X_iload hK (i := 4) 0 dX7_readOne_92 rfl ?_
          refine X_if_eq hK 109 (by omega) dX7_readOne_94 (by decide) (fun c49 => ?_) (fun c49 => False.elim (by omega))
          refine X_iloadn hK (i := 3) 1 dX7_readOne_109 rfl rfl ?_
          refine X_bipush hK dX7_readOne_110 (by decide) ?_
          refine X_icmp_ne hK 132 (by omega) (by omega) dX7_readOne_112 (by decide) (fun c50 => False.elim (by omega)) (fun c50 => ?_)
          refine X_aloadn hK (i := 0) 2 dX7_readOne_115 rfl rfl ?_
          refine X_aloadn hK (i := 1) 3 dX7_readOne_116 rfl rfl ?_
          refine X_iloadn hK (i := 2) 4 dX7_readOne_117 rfl rfl ?_
          refine X_iconst hK dX7_readOne_118 ?_
          refine X_iadd hK dX7_readOne_119 ?_
          refine X_callV hK [.ref a1, .int (iI (x2 + 1))] [] lk_X7_115 (c3_readCond_10 _ _ _ _ _ S g48 a0 a1 (x2 + 1) (na + 1) (no + 1) nf nq wt wp tk tl cn hs_a0 hs_a1 (by omega) (by omega) (xs_s hg48) (by omega) ((xs_k hg48 (by decide)).trans (xs_s hg46)) (by omega) ((xs_k hg48 (by decide)).trans ((xs_k hg46 (by decide)).trans enf)) (by omega) ((xs_k hg48 (by decide)).trans ((xs_k hg46 (by decide)).trans enq)) ((xs_k hg48 (by decide)).trans ((xs_k hg46 (by decide)).trans ewt)) hs_wt ((xs_k hg48 (by decide)).trans ((xs_k hg46 (by decide)).trans ewp)) hs_wp (by rw [(Eq.trans (xv_a hg48 (xne hs_wt hs_a0 (by decide))) (xv_a hg46 (xne hs_wt hs_a0 (by decide)))), (Eq.trans (xv_a hg48 (xne hs_wp hs_a0 (by decide))) (xv_a hg46 (xne hs_wp hs_a0 (by decide))))]; exact hp0) (by omega) (by omega)) hs_a0 ⟨by decide, rfl⟩ dX7_readOne_120 rfl rfl (by simp [Value.category]) (by decide) (by decide) (by decide) (by decide) (fun r51 S53 g52 pr51 qr51 hg52 => ?_)
          obtain ⟨rfl, rfl, k54⟩ := pr51
          refine X_st [] rfl ?_
          obtain ⟨Ft55, at55, ot55, qt55, eFt55, lFt55, uFt55, eat55, lat55, uat55, eot55, lot55, uot55, eqt55, lqt55, uqt55, kt55⟩ := k54
          have cat55 : at55 ≤ 300 := by have h9 := (show xTB (xv g52 wt) (xv g52 wp) tk tl cn from (by rw [(Eq.trans (Eq.trans (xv_m hg52 hs_wt (by decide) (by decide)) (xv_a hg48 (xne hs_wt hs_a0 (by decide)))) (xv_a hg46 (xne hs_wt hs_a0 (by decide)))), (Eq.trans (Eq.trans (xv_m hg52 hs_wp (by decide) (by decide)) (xv_a hg48 (xne hs_wp hs_a0 (by decide)))) (xv_a hg46 (xne hs_wp hs_a0 (by decide))))]; exact hp0)).2.2.2; omega
          refine X_aloadn hK (i := 0) 2 dX7_readOne_123 rfl rfl ?_
          refine X_bipush hK dX7_readOne_124 (by decide) ?_
          refine X_callV hK [.int (iI 26)] [] lk_X7_119 (c3_expect _ _ _ _ _ S g52 a0 26 at55 ot55 Ft55 qt55 wt wp tk tl cn hs_a0 (by omega) (by omega) eat55 (by omega) eot55 (by omega) eFt55 (by omega) eqt55 ((hg52 a0 8 0 0 hs_a0 (by decide)).trans ((xs_k hg48 (by decide)).trans ((xs_k hg46 (by decide)).trans ewt))) hs_wt ((hg52 a0 8 0 1 hs_a0 (by decide)).trans ((xs_k hg48 (by decide)).trans ((xs_k hg46 (by decide)).trans ewp))) hs_wp (by rw [(Eq.trans (Eq.trans (xv_m hg52 hs_wt (by decide) (by decide)) (xv_a hg48 (xne hs_wt hs_a0 (by decide)))) (xv_a hg46 (xne hs_wt hs_a0 (by decide)))), (Eq.trans (Eq.trans (xv_m hg52 hs_wp (by decide) (by decide)) (xv_a hg48 (xne hs_wp hs_a0 (by decide)))) (xv_a hg46 (xne hs_wp hs_a0 (by decide))))]; exact hp0) (by omega) (by omega)) hs_a0 ⟨by decide, rfl⟩ dX7_readOne_126 rfl rfl (by simp [Value.category]) (by decide) (by decide) (by decide) (by decide) (fun r56 S58 g57 pr56 qr56 hg57 => ?_)
          obtain ⟨rfl, rfl, k59⟩ := pr56
          refine X_st [] rfl ?_
          obtain ⟨Ft60, at60, ot60, qt60, eFt60, lFt60, uFt60, eat60, lat60, uat60, eot60, lot60, uot60, eqt60, lqt60, uqt60, kt60⟩ := k59
          have cat60 : at60 ≤ 300 := by have h9 := (show xTB (xv g57 wt) (xv g57 wp) tk tl cn from (by rw [(Eq.trans (Eq.trans (Eq.trans (xv_m hg57 hs_wt (by decide) (by decide)) (xv_m hg52 hs_wt (by decide) (by decide))) (xv_a hg48 (xne hs_wt hs_a0 (by decide)))) (xv_a hg46 (xne hs_wt hs_a0 (by decide)))), (Eq.trans (Eq.trans (Eq.trans (xv_m hg57 hs_wp (by decide) (by decide)) (xv_m hg52 hs_wp (by decide) (by decide))) (xv_a hg48 (xne hs_wp hs_a0 (by decide)))) (xv_a hg46 (xne hs_wp hs_a0 (by decide))))]; exact hp0)).2.2.2; omega
          refine X_goto hK 148 dX7_readOne_129 (by decide) ?_
          exact hret _ _ _ _ _ _ dX7_readOne_148 ⟨rfl, rfl, ⟨Ft60, at60, ot60, qt60, eFt60, by omega, by omega, eat60, by omega, by omega, eot60, by omega, by omega, eqt60, by omega, by omega, (by obtain ⟨h8, h7⟩ := kt60; by_cases f9 : Ft55 = 0; (rcases h8 with ⟨c1, c2, c3, c4⟩ | ⟨c1, c2, c3⟩; (rw [show Ft60 = 0 by omega, c3, h7]; exact xRR.po (by rw [← k5]; omega) (by omega) (show xRR tk tl 2 (9 + 1) (na + 1) (no + 1) Ft55 at55 ot55 qt55 from kt55) f9 c1); (have c4 := c3.resolve_left (fun q9 => q9.1 f9); rw [c4.2.1]; exact xRR.px (by rw [← k5]; omega) (by omega) (show xRR tk tl 2 (9 + 1) (na + 1) (no + 1) Ft55 at55 ot55 qt55 from kt55) f9 c1 c4.2.2)); (have h6 : Ft60 = Ft55 ∧ qt60 = qt55 := (by omega); rw [h6.1, h6.2]; exact xRR.pf (by rw [← k5]; omega) (by omega) (show xRR tk tl 2 (9 + 1) (na + 1) (no + 1) Ft55 at55 ot55 qt55 from kt55) f9))⟩⟩ (Nat.le_refl _) (Nat.le_refl _)
      · refine X_aloadn hK (i := 0) 2 dX7_readOne_41 rfl rfl ?_
        refine X_iconst hK dX7_readOne_42 ?_
        refine X_callV hK [.int (iI 1)] [] lk_X7_60 (c3_tell _ _ _ _ _ S g a0 1 na no nf nq wt wp tk tl cn hs_a0 (by omega) (by omega) ena (by omega) eno (by omega) enf (by omega) enq ewt hs_wt ewp hs_wp hp0 (by omega) (by omega)) hs_a0 ⟨by decide, rfl⟩ dX7_readOne_43 rfl rfl (by simp [Value.category]) (by decide) (by decide) (by decide) (by decide) (fun r61 S63 g62 pr61 qr61 hg62 => ?_)
        obtain ⟨rfl, rfl, k64⟩ := pr61
        refine X_st [] rfl ?_
        obtain ⟨Ft65, at65, ot65, qt65, eFt65, lFt65, uFt65, eat65, lat65, uat65, eot65, lot65, uot65, eqt65, lqt65, uqt65, kt65⟩ := k64
        have cat65 : at65 ≤ 300 := by have h9 := (show xTB (xv g62 wt) (xv g62 wp) tk tl cn from (by rw [(xv_m hg62 hs_wt (by decide) (by decide)), (xv_m hg62 hs_wp (by decide) (by decide))]; exact hp0)).2.2.2; omega
        refine X_goto hK 148 dX7_readOne_46 (by decide) ?_
        exact hret _ _ _ _ _ _ dX7_readOne_148 ⟨rfl, rfl, ⟨Ft65, at65, ot65, qt65, eFt65, by omega, by omega, eat65, by omega, by omega, eot65, by omega, by omega, eqt65, by omega, by omega, (by obtain ⟨h8, h7, h6⟩ := kt65; have h5 := h8.resolve_left (fun q9 => by omega); rw [h5.2.1]; exact xRR.f1 (by rw [← k5]; omega) h5.2.2)⟩⟩ (Nat.le_refl _) (Nat.le_refl _)
    · refine X_iconst hK dX7_readOne_17 ?_
      refine X_goto hK 22 dX7_readOne_18 (by decide) ?_
      refine X_istore hK (i := 4) [(4, .int (iI 1)), (3, .int (iI z4)), (0, .ref a0), (1, .ref a1), (2, .int (iI x2))] dX7_readOne_22 (by decide) rfl ?_
      refine X_iload hK (i := 4) 0 dX7_readOne_24 rfl ?_
      refine X_if_ne hK 49 (by omega) dX7_readOne_26 (by decide) (fun c66 => ?_) (fun c66 => False.elim (by omega))
      refine X_aloadn hK (i := 0) 2 dX7_readOne_49 rfl rfl ?_
      refine X_getK hK fl_X7_22_8 hs_a0 eno dX7_readOne_50 ?_
      refine X_bipush hK dX7_readOne_53 (by decide) ?_
      refine X_icmp_ge hK 64 (by omega) (by omega) dX7_readOne_55 (by decide) (fun c67 => ?_) (fun c67 => ?_)
      · refine X_aloadn hK (i := 0) 2 dX7_readOne_64 rfl rfl ?_
        refine X_iconst hK dX7_readOne_65 ?_
        refine X_callV hK [.int (iI 4)] [] lk_X7_60 (c3_tell _ _ _ _ _ S g a0 4 na no nf nq wt wp tk tl cn hs_a0 (by omega) (by omega) ena (by omega) eno (by omega) enf (by omega) enq ewt hs_wt ewp hs_wp hp0 (by omega) (by omega)) hs_a0 ⟨by decide, rfl⟩ dX7_readOne_66 rfl rfl (by simp [Value.category]) (by decide) (by decide) (by decide) (by decide) (fun r68 S70 g69 pr68 qr68 hg69 => ?_)
        obtain ⟨rfl, rfl, k71⟩ := pr68
        refine X_st [] rfl ?_
        obtain ⟨Ft72, at72, ot72, qt72, eFt72, lFt72, uFt72, eat72, lat72, uat72, eot72, lot72, uot72, eqt72, lqt72, uqt72, kt72⟩ := k71
        have cat72 : at72 ≤ 300 := by have h9 := (show xTB (xv g69 wt) (xv g69 wp) tk tl cn from (by rw [(xv_m hg69 hs_wt (by decide) (by decide)), (xv_m hg69 hs_wp (by decide) (by decide))]; exact hp0)).2.2.2; omega
        refine X_goto hK 148 dX7_readOne_69 (by decide) ?_
        exact hret _ _ _ _ _ _ dX7_readOne_148 ⟨rfl, rfl, ⟨Ft72, at72, ot72, qt72, eFt72, by omega, by omega, eat72, by omega, by omega, eot72, by omega, by omega, eqt72, by omega, by omega, (by obtain ⟨h8, h7, h6⟩ := kt72; have h5 := h8.resolve_left (fun q9 => by omega); rw [h5.2.1]; exact xRR.f4 (by rw [← k5]; omega) (by omega) h5.2.2)⟩⟩ (Nat.le_refl _) (Nat.le_refl _)
      · refine X_iloadn hK (i := 2) 4 dX7_readOne_58 rfl rfl ?_
        refine X_bipush hK dX7_readOne_59 (by decide) ?_
        refine X_icmp_le hK 72 (by omega) (by omega) dX7_readOne_61 (by decide) (fun c73 => ?_) (fun c73 => False.elim (by omega))
        refine X_aloadn hK (i := 0) 2 dX7_readOne_72 rfl rfl ?_
        refine X_dup hK dX7_readOne_73 rfl ?_
        refine X_getK hK fl_X7_22_8 hs_a0 eno dX7_readOne_74 ?_
        refine X_iconst hK dX7_readOne_77 ?_
        refine X_iadd hK dX7_readOne_78 ?_
        refine X_puti hK fl_X7_22_8 hs_a0 (by decide) sl_8_3 (by omega) (by omega) dX7_readOne_79 (fun g74 hg74 => ?_)
        refine X_aloadn hK (i := 0) 2 dX7_readOne_82 rfl rfl ?_
        refine X_dup hK dX7_readOne_83 rfl ?_
        have hl75 := xTB.lt (A := xv g74 wt) (B := xv g74 wp) (tk := tk) (tl := tl) (c := cn) (a := na) (by rw [(xv_a hg74 (xne hs_wt hs_a0 (by decide))), (xv_a hg74 (xne hs_wp hs_a0 (by decide)))]; exact hp0) (by omega) (by rw [← k5]; omega)
        refine X_getK hK fl_X7_18_8 hs_a0 ((xs_k hg74 (by decide)).trans ena) dX7_readOne_84 ?_
        refine X_iconst hK dX7_readOne_87 ?_
        refine X_iadd hK dX7_readOne_88 ?_
        refine X_puti hK fl_X7_18_8 hs_a0 (by decide) sl_8_2 (by omega) (by omega) dX7_readOne_89 (fun g76 hg76 => ?_)
        refine X_iload hK (i := 4) 0 dX7_readOne_92 rfl ?_
        refine X_if_eq hK 109 (by omega) dX7_readOne_94 (by decide) (fun c77 => False.elim (by omega)) (fun c77 => ?_)
        refine X_aloadn hK (i := 0) 2 dX7_readOne_97 rfl rfl ?_
        refine X_aloadn hK (i := 1) 3 dX7_readOne_98 rfl rfl ?_
        refine X_iloadn hK (i := 3) 1 dX7_readOne_99 rfl rfl ?_
        refine X_bipush hK dX7_readOne_100 (by decide) ?_
        refine X_isub hK dX7_readOne_102 ?_
        refine X_callV hK [.ref a1, .int (iI (z4 - 10))] [] lk_X7_135 (c3_readFact _ _ _ _ _ S g76 a0 a1 (z4 - 10) (na + 1) (no + 1) nf nq wt wp tk tl cn 9 hs_a0 hs_a1 (by omega) (by omega) (xs_s hg76) (by omega) ((xs_k hg76 (by decide)).trans (xs_s hg74)) (by omega) ((xs_k hg76 (by decide)).trans ((xs_k hg74 (by decide)).trans enf)) (by omega) ((xs_k hg76 (by decide)).trans ((xs_k hg74 (by decide)).trans enq)) ((xs_k hg76 (by decide)).trans ((xs_k hg74 (by decide)).trans ewt)) hs_wt ((xs_k hg76 (by decide)).trans ((xs_k hg74 (by decide)).trans ewp)) hs_wp (by rw [(Eq.trans (xv_a hg76 (xne hs_wt hs_a0 (by decide))) (xv_a hg74 (xne hs_wt hs_a0 (by decide)))), (Eq.trans (xv_a hg76 (xne hs_wp hs_a0 (by decide))) (xv_a hg74 (xne hs_wp hs_a0 (by decide))))]; exact hp0) (by omega) (by omega) (by rw [show (na + 1) - 1 = na by omega, ← k5]; omega) (by omega)) hs_a0 ⟨by decide, rfl⟩ dX7_readOne_103 rfl rfl (by simp [Value.category]) (by decide) (by decide) (by decide) (by decide) (fun r78 S80 g79 pr78 qr78 hg79 => ?_)
        obtain ⟨rfl, rfl, k81⟩ := pr78
        refine X_st [] rfl ?_
        obtain ⟨Ft82, at82, ot82, qt82, eFt82, lFt82, uFt82, eat82, lat82, uat82, eot82, lot82, uot82, eqt82, lqt82, uqt82, kt82⟩ := k81
        have cat82 : at82 ≤ 300 := by have h9 := (show xTB (xv g79 wt) (xv g79 wp) tk tl cn from (by rw [(Eq.trans (Eq.trans (xv_m hg79 hs_wt (by decide) (by decide)) (xv_a hg76 (xne hs_wt hs_a0 (by decide)))) (xv_a hg74 (xne hs_wt hs_a0 (by decide)))), (Eq.trans (Eq.trans (xv_m hg79 hs_wp (by decide) (by decide)) (xv_a hg76 (xne hs_wp hs_a0 (by decide)))) (xv_a hg74 (xne hs_wp hs_a0 (by decide))))]; exact hp0)).2.2.2; omega
        refine X_goto hK 148 dX7_readOne_106 (by decide) ?_
        exact hret _ _ _ _ _ _ dX7_readOne_148 ⟨rfl, rfl, ⟨Ft82, at82, ot82, qt82, eFt82, by omega, by omega, eat82, by omega, by omega, eot82, by omega, by omega, eqt82, by omega, by omega, (by have h9 := kt82; rw [show na + 1 - 1 = na by omega, show no + 1 - 1 = no by omega] at h9; exact h9)⟩⟩ (Nat.le_refl _) (Nat.le_refl _)

set_option maxHeartbeats 4000000 in
set_option maxRecDepth 100000 in
theorem c3_readAll_9 (l : Launch) (D : va_G) (kA : Nat → ClassId) (b0 : Nat) (t0 : Nat → Nat) (S : xT) (g : xG) (a0 : Nat) (a1 : Nat) (x2 : Int) (na : Int) (no : Int) (nf : Int) (nq : Int) (wt : Nat) (wp : Nat) (tk : Int → Int) (tl : Int → Int) (cn : Int) (hs_a0 : S a0 = some (8, 0)) (hs_a1 : S a1 = some (11, 0)) (hx2 : 9 ≤ x2 ∧ x2 ≤ 9) (hna : 0 ≤ na ∧ na ≤ 300) (ena : g a0 2 = .int (iI na)) (hno : 0 ≤ no ∧ no ≤ 50) (eno : g a0 3 = .int (iI no)) (hnf : 0 ≤ nf ∧ nf ≤ 0) (enf : g a0 5 = .int (iI nf)) (hnq : 0 ≤ nq ∧ nq ≤ 300) (enq : g a0 6 = .int (iI nq)) (ewt : g a0 0 = .ref wt) (hs_wt : S wt = some (12900, 301)) (ewp : g a0 1 = .ref wp) (hs_wp : S wp = some (13000, 301)) (hp0 : xTB (xv g wt) (xv g wp) tk tl cn) (hp1 : na ≤ cn) (hp2 : cn ≤ 300) : xMt l yX7_readAll cX7_readAll 4 none 8 0 0 185 D kA b0 t0 [(8, 5), (8, 6), (8, 3), (8, 2), (14000, 0), (11, 2)] [.ref a0, .ref a1, .int (iI x2)] S g (fun (r : Option Value) (S1 : xT) (g1 : xG) => S = S1 ∧ r = none ∧ (∃ F a o q : Int, g1 a0 5 = .int (iI F) ∧ -2147483648 ≤ F ∧ F ≤ 2147483647 ∧ g1 a0 2 = .int (iI a) ∧ 0 ≤ a ∧ a ≤ cn ∧ g1 a0 3 = .int (iI o) ∧ 0 ≤ o ∧ o ≤ 50 ∧ g1 a0 6 = .int (iI q) ∧ 0 ≤ q ∧ q ≤ 300 ∧ xRR tk tl 1 9 na no F a o q)) := by
  refine xEnterV (by decide) (by simp [lg_sl, Value.category]) [(0, .ref a0), (1, .ref a1), (2, .int (iI x2))] rfl ?_
  intro K E hK hret _ _ _
  refine X_aloadn hK (i := 0) 0 dX7_readAll_0 rfl rfl ?_
  refine X_aloadn hK (i := 1) 1 dX7_readAll_1 rfl rfl ?_
  refine X_iloadn hK (i := 2) 2 dX7_readAll_2 rfl rfl ?_
  refine X_callV hK [.ref a1, .int (iI x2)] [] lk_X7_132 (c3_readOne_9 _ _ _ _ _ S g a0 a1 x2 na no nf nq wt wp tk tl cn hs_a0 hs_a1 (by omega) (by omega) ena (by omega) eno (by omega) enf (by omega) enq ewt hs_wt ewp hs_wp hp0 (by omega) (by omega)) hs_a0 ⟨by decide, rfl⟩ dX7_readAll_3 rfl rfl (by simp [Value.category]) (by decide) (by decide) (by decide) (by decide) (fun r1 S3 g2 pr1 qr1 hg2 => ?_)
  obtain ⟨rfl, rfl, k4⟩ := pr1
  refine X_st [] rfl ?_
  obtain ⟨Ft5, at5, ot5, qt5, eFt5, lFt5, uFt5, eat5, lat5, uat5, eot5, lot5, uot5, eqt5, lqt5, uqt5, kt5⟩ := k4
  have cat5 : at5 ≤ 300 := by have h9 := (show xTB (xv g2 wt) (xv g2 wp) tk tl cn from (by rw [(xv_m hg2 hs_wt (by decide) (by decide)), (xv_m hg2 hs_wp (by decide) (by decide))]; exact hp0)).2.2.2; omega
  refine X_iconst hK dX7_readAll_6 ?_
  refine X_istoren hK (i := 3) [(3, .int (iI 0)), (0, .ref a0), (1, .ref a1), (2, .int (iI x2))] dX7_readAll_7 rfl (by decide) rfl ?_
  have P120 : ∀ (nP120 : Nat) (g98 : xG) (_ : xM [(14000, 0), (11, 2), (8, 5), (8, 6), (8, 3), (8, 2)] S g2 g98) (z97 : Int) (_ : 0 ≤ z97) (_ : z97 ≤ 50) (q99 : Int) (_ : 0 ≤ q99) (_ : q99 ≤ 300) (_ : g98 a0 2 = .int (iI q99)) (q100 : Int) (_ : 0 ≤ q100) (_ : q100 ≤ 50) (_ : g98 a0 3 = .int (iI q100)) (q101 : Int) (_ : (-2147483648) ≤ q101) (_ : q101 ≤ 2147483647) (_ : g98 a0 5 = .int (iI q101)) (q102 : Int) (_ : 0 ≤ q102) (_ : q102 ≤ 300) (_ : g98 a0 6 = .int (iI q102)) (_ : xIn tk tl 1 9 na no q101 q99 q100 q102) (_ : q101 = 0 → no + 1 + z97 ≤ q100) (_ : q99 ≤ cn) (_ : 60 - z97 < (nP120 : Int)), X K E 8 [(3, .int (iI z97)), (0, .ref a0), (1, .ref a1), (2, .int (iI x2))] [] S g98 0 0 := by
    intro nP120
    induction nP120 with
    | zero => intro g98 hg98 z97 lz97 uz97 q99 lq99 uq99 eq99 q100 lq100 uq100 eq100 q101 lq101 uq101 eq101 q102 lq102 uq102 eq102 v121 v122 v123 mP120; exact False.elim (by omega)
    | succ nP120 ihP120 =>
      intro g98 hg98 z97 lz97 uz97 q99 lq99 uq99 eq99 q100 lq100 uq100 eq100 q101 lq101 uq101 eq101 q102 lq102 uq102 eq102 v121 v122 v123 mP120
      refine X_iloadn hK (i := 3) 0 dX7_readAll_8 rfl rfl ?_
      refine X_bipush hK dX7_readAll_9 (by decide) ?_
      refine X_icmp_ge hK 60 (by omega) (by omega) dX7_readAll_11 (by decide) (fun c124 => ?_) (fun c124 => ?_)
      · exact hret _ _ _ _ _ _ dX7_readAll_60 ⟨rfl, rfl, ⟨q101, q99, q100, q102, eq101, by omega, by omega, eq99, by omega, by omega, eq100, by omega, by omega, eq102, by omega, by omega, (xIn.e v121 (fun h9 => False.elim (by have h8 := v122 h9; omega)))⟩⟩ (Nat.le_refl _) (Nat.le_refl _)
      · refine X_aloadn hK (i := 0) 1 dX7_readAll_14 rfl rfl ?_
        refine X_getK hK fl_X7_29_8 hs_a0 eq101 dX7_readAll_15 ?_
        refine X_if_ne hK 60 (by omega) dX7_readAll_18 (by decide) (fun c125 => ?_) (fun c125 => ?_)
        · exact hret _ _ _ _ _ _ dX7_readAll_60 ⟨rfl, rfl, ⟨q101, q99, q100, q102, eq101, by omega, by omega, eq99, by omega, by omega, eq100, by omega, by omega, eq102, by omega, by omega, (xIn.e v121 (fun h9 => False.elim (by have h8 := v122 h9; omega)))⟩⟩ (Nat.le_refl _) (Nat.le_refl _)
        · refine X_aloadn hK (i := 0) 1 dX7_readAll_21 rfl rfl ?_
          refine X_callV hK [] [] lk_X7_47 (c3_now _ _ _ _ _ S g98 a0 q99 wt wp tk tl cn hs_a0 (by omega) eq99 ((hg98 a0 8 0 0 hs_a0 (by decide)).trans ((hg2 a0 8 0 0 hs_a0 (by decide)).trans ewt)) hs_wt ((hg98 a0 8 0 1 hs_a0 (by decide)).trans ((hg2 a0 8 0 1 hs_a0 (by decide)).trans ewp)) hs_wp (by rw [(Eq.trans (xv_m hg98 hs_wt (by decide) (by decide)) (xv_m hg2 hs_wt (by decide) (by decide))), (Eq.trans (xv_m hg98 hs_wp (by decide) (by decide)) (xv_m hg2 hs_wp (by decide) (by decide)))]; exact hp0) (by omega) (by omega)) hs_a0 ⟨by decide, rfl⟩ dX7_readAll_22 rfl rfl (by simp [Value.category]) (by decide) (by decide) (by decide) (by decide) (fun r126 S128 g127 pr126 qr126 hg127 => ?_)
          obtain ⟨rfl, rfl, z129, rfl, lz129, uz129, k130⟩ := pr126
          refine X_st [.int (iI z129)] rfl ?_
          refine X_bipush hK dX7_readAll_25 (by decide) ?_
          refine X_icmp_ne hK 60 (by omega) (by omega) dX7_readAll_27 (by decide) (fun c131 => ?_) (fun c131 => ?_)
          · exact hret _ _ _ _ _ _ dX7_readAll_60 ⟨rfl, rfl, ⟨q101, q99, q100, q102, eq101, by omega, by omega, eq99, by omega, by omega, eq100, by omega, by omega, eq102, by omega, by omega, (xIn.e v121 (fun h9 => Or.inl ⟨rfl, by rw [← k130]; omega⟩))⟩⟩ (Nat.le_refl _) (Nat.le_refl _)
          · refine X_aloadn hK (i := 0) 1 dX7_readAll_30 rfl rfl ?_
            refine X_dup hK dX7_readAll_31 rfl ?_
            have hl132 := xTB.lt (A := xv g98 wt) (B := xv g98 wp) (tk := tk) (tl := tl) (c := cn) (a := q99) (by rw [(Eq.trans (xv_m hg98 hs_wt (by decide) (by decide)) (xv_m hg2 hs_wt (by decide) (by decide))), (Eq.trans (xv_m hg98 hs_wp (by decide) (by decide)) (xv_m hg2 hs_wp (by decide) (by decide)))]; exact hp0) (by omega) (by rw [← k130]; omega)
            refine X_getK hK fl_X7_18_8 hs_a0 eq99 dX7_readAll_32 ?_
            refine X_iconst hK dX7_readAll_35 ?_
            refine X_iadd hK dX7_readAll_36 ?_
            refine X_puti hK fl_X7_18_8 hs_a0 (by decide) sl_8_2 (by omega) (by omega) dX7_readAll_37 (fun g133 hg133 => ?_)
            refine X_aloadn hK (i := 0) 1 dX7_readAll_40 rfl rfl ?_
            refine X_aloadn hK (i := 1) 2 dX7_readAll_41 rfl rfl ?_
            refine X_iloadn hK (i := 2) 3 dX7_readAll_42 rfl rfl ?_
            refine X_callV hK [.ref a1, .int (iI x2)] [] lk_X7_132 (c3_readOne_9 _ _ _ _ _ S g133 a0 a1 x2 (q99 + 1) q100 q101 q102 wt wp tk tl cn hs_a0 hs_a1 (by omega) (by omega) (xs_s hg133) (by omega) ((xs_k hg133 (by decide)).trans eq100) (by omega) ((xs_k hg133 (by decide)).trans eq101) (by omega) ((xs_k hg133 (by decide)).trans eq102) ((xs_k hg133 (by decide)).trans ((hg98 a0 8 0 0 hs_a0 (by decide)).trans ((hg2 a0 8 0 0 hs_a0 (by decide)).trans ewt))) hs_wt ((xs_k hg133 (by decide)).trans ((hg98 a0 8 0 1 hs_a0 (by decide)).trans ((hg2 a0 8 0 1 hs_a0 (by decide)).trans ewp))) hs_wp (by rw [(Eq.trans (Eq.trans (xv_a hg133 (xne hs_wt hs_a0 (by decide))) (xv_m hg98 hs_wt (by decide) (by decide))) (xv_m hg2 hs_wt (by decide) (by decide))), (Eq.trans (Eq.trans (xv_a hg133 (xne hs_wp hs_a0 (by decide))) (xv_m hg98 hs_wp (by decide) (by decide))) (xv_m hg2 hs_wp (by decide) (by decide)))]; exact hp0) (by omega) (by omega)) hs_a0 ⟨by decide, rfl⟩ dX7_readAll_43 rfl rfl (by simp [Value.category]) (by decide) (by decide) (by decide) (by decide) (fun r134 S136 g135 pr134 qr134 hg135 => ?_)
            obtain ⟨rfl, rfl, k137⟩ := pr134
            refine X_st [] rfl ?_
            obtain ⟨Ft138, at138, ot138, qt138, eFt138, lFt138, uFt138, eat138, lat138, uat138, eot138, lot138, uot138, eqt138, lqt138, uqt138, kt138⟩ := k137
            have cat138 : at138 ≤ 300 := by have h9 := (show xTB (xv g135 wt) (xv g135 wp) tk tl cn from (by rw [(Eq.trans (Eq.trans (Eq.trans (xv_m hg135 hs_wt (by decide) (by decide)) (xv_a hg133 (xne hs_wt hs_a0 (by decide)))) (xv_m hg98 hs_wt (by decide) (by decide))) (xv_m hg2 hs_wt (by decide) (by decide))), (Eq.trans (Eq.trans (Eq.trans (xv_m hg135 hs_wp (by decide) (by decide)) (xv_a hg133 (xne hs_wp hs_a0 (by decide)))) (xv_m hg98 hs_wp (by decide) (by decide))) (xv_m hg2 hs_wp (by decide) (by decide)))]; exact hp0)).2.2.2; omega
            refine X_aloadn hK (i := 1) 2 dX7_readAll_46 rfl rfl ?_
            refine X_bipush hK dX7_readAll_47 (by decide) ?_
            refine X_iconst hK dX7_readAll_49 ?_
            refine X_iconst hK dX7_readAll_50 ?_
            refine X_callV hK [.int (iI 13), .int (iI 0), .int (iI 0)] [] lk_X7_129 (c_X10_addStep _ _ _ _ _ S g135 a1 13 0 0 hs_a1 (by omega) (by omega) (by omega)) hs_a1 ⟨by decide, rfl⟩ dX7_readAll_51 rfl rfl (by simp [Value.category]) (by decide) (by decide) (by decide) (by decide) (fun r139 S141 g140 pr139 qr139 hg140 => ?_)
            obtain ⟨rfl, rfl⟩ := pr139
            refine X_st [] rfl ?_
            refine X_iinc hK (i := 3) (z := z97) (n := 1) 0 [(3, .int (iI (z97 + 1))), (0, .ref a0), (1, .ref a1), (2, .int (iI x2))] dX7_readAll_54 rfl (by decide) rfl ?_
            refine X_goto hK 8 dX7_readAll_57 (by decide) ?_
            exact ihP120  g140 (xM.tr (xM.tr (xM_up (xM.tr xM.rf xLe.rf hg98 (by decide)) hg133 hs_a0 (by decide) (by decide)) xLe.rf hg135 (by decide)) xLe.rf hg140 (by decide)) (z97 + 1) (by omega) (by omega) at138 (by omega) (by omega) ((hg140 a0 8 0 2 hs_a0 (by decide)).trans eat138) ot138 (by omega) (by omega) ((hg140 a0 8 0 3 hs_a0 (by decide)).trans eot138) Ft138 (by omega) (by omega) ((hg140 a0 8 0 5 hs_a0 (by decide)).trans eFt138) qt138 (by omega) (by omega) ((hg140 a0 8 0 6 hs_a0 (by decide)).trans eqt138) (xIn.s (Or.inl ⟨rfl, rfl, (by rw [← k130]; omega)⟩) v121 (by omega) kt138) (fun h9 => by have h8 := xRR.b kt138 h9; omega) (by omega) (by omega)
  exact P120 ((60 - 0 : Int).toNat + 1) g2 xM.rf 0 (by omega) (by omega) at5 (by omega) (by omega) eat5 ot5 (by omega) (by omega) eot5 Ft5 (by omega) (by omega) eFt5 qt5 (by omega) (by omega) eqt5 (xIn.z (Or.inl ⟨rfl, rfl⟩) kt5) (fun h9 => by have h8 := xRR.b kt5 h9; omega) (by omega) (by omega)

set_option maxHeartbeats 4000000 in
set_option maxRecDepth 100000 in
theorem c3_readCond_9 (l : Launch) (D : va_G) (kA : Nat → ClassId) (b0 : Nat) (t0 : Nat → Nat) (S : xT) (g : xG) (a0 : Nat) (a1 : Nat) (x2 : Int) (na : Int) (no : Int) (nf : Int) (nq : Int) (wt : Nat) (wp : Nat) (tk : Int → Int) (tl : Int → Int) (cn : Int) (hs_a0 : S a0 = some (8, 0)) (hs_a1 : S a1 = some (11, 0)) (hx2 : 9 ≤ x2 ∧ x2 ≤ 9) (hna : 0 ≤ na ∧ na ≤ 300) (ena : g a0 2 = .int (iI na)) (hno : 0 ≤ no ∧ no ≤ 50) (eno : g a0 3 = .int (iI no)) (hnf : 0 ≤ nf ∧ nf ≤ 0) (enf : g a0 5 = .int (iI nf)) (hnq : 0 ≤ nq ∧ nq ≤ 300) (enq : g a0 6 = .int (iI nq)) (ewt : g a0 0 = .ref wt) (hs_wt : S wt = some (12900, 301)) (ewp : g a0 1 = .ref wp) (hs_wp : S wp = some (13000, 301)) (hp0 : xTB (xv g wt) (xv g wp) tk tl cn) (hp1 : na ≤ cn) (hp2 : cn ≤ 300) : xMt l yX7_readCond cX7_readCond 4 none 9 0 0 208 D kA b0 t0 [(8, 5), (8, 6), (8, 3), (8, 2), (14000, 0), (11, 2)] [.ref a0, .ref a1, .int (iI x2)] S g (fun (r : Option Value) (S1 : xT) (g1 : xG) => S = S1 ∧ r = none ∧ (∃ F a o q : Int, g1 a0 5 = .int (iI F) ∧ -2147483648 ≤ F ∧ F ≤ 2147483647 ∧ g1 a0 2 = .int (iI a) ∧ 0 ≤ a ∧ a ≤ cn ∧ g1 a0 3 = .int (iI o) ∧ 0 ≤ o ∧ o ≤ 50 ∧ g1 a0 6 = .int (iI q) ∧ 0 ≤ q ∧ q ≤ 300 ∧ xRR tk tl 2 9 na no F a o q)) := by
  refine xEnterV (by decide) (by simp [lg_sl, Value.category]) [(0, .ref a0), (1, .ref a1), (2, .int (iI x2))] rfl ?_
  intro K E hK hret _ _ _
  refine X_aloadn hK (i := 0) 0 dX7_readCond_0 rfl rfl ?_
  refine X_aloadn hK (i := 1) 1 dX7_readCond_1 rfl rfl ?_
  refine X_iloadn hK (i := 2) 2 dX7_readCond_2 rfl rfl ?_
  refine X_callV hK [.ref a1, .int (iI x2)] [] lk_X7_126 (c3_readAll_9 _ _ _ _ _ S g a0 a1 x2 na no nf nq wt wp tk tl cn hs_a0 hs_a1 (by omega) (by omega) ena (by omega) eno (by omega) enf (by omega) enq ewt hs_wt ewp hs_wp hp0 (by omega) (by omega)) hs_a0 ⟨by decide, rfl⟩ dX7_readCond_3 rfl rfl (by simp [Value.category]) (by decide) (by decide) (by decide) (by decide) (fun r1 S3 g2 pr1 qr1 hg2 => ?_)
  obtain ⟨rfl, rfl, k4⟩ := pr1
  refine X_st [] rfl ?_
  obtain ⟨Ft5, at5, ot5, qt5, eFt5, lFt5, uFt5, eat5, lat5, uat5, eot5, lot5, uot5, eqt5, lqt5, uqt5, kt5⟩ := k4
  have cat5 : at5 ≤ 300 := by have h9 := (show xTB (xv g2 wt) (xv g2 wp) tk tl cn from (by rw [(xv_m hg2 hs_wt (by decide) (by decide)), (xv_m hg2 hs_wp (by decide) (by decide))]; exact hp0)).2.2.2; omega
  refine X_iconst hK dX7_readCond_6 ?_
  refine X_istoren hK (i := 3) [(3, .int (iI 0)), (0, .ref a0), (1, .ref a1), (2, .int (iI x2))] dX7_readCond_7 rfl (by decide) rfl ?_
  have P120 : ∀ (nP120 : Nat) (g98 : xG) (_ : xM [(14000, 0), (11, 2), (8, 5), (8, 6), (8, 3), (8, 2)] S g2 g98) (z97 : Int) (_ : 0 ≤ z97) (_ : z97 ≤ 50) (q99 : Int) (_ : 0 ≤ q99) (_ : q99 ≤ 300) (_ : g98 a0 2 = .int (iI q99)) (q100 : Int) (_ : 0 ≤ q100) (_ : q100 ≤ 50) (_ : g98 a0 3 = .int (iI q100)) (q101 : Int) (_ : (-2147483648) ≤ q101) (_ : q101 ≤ 2147483647) (_ : g98 a0 5 = .int (iI q101)) (q102 : Int) (_ : 0 ≤ q102) (_ : q102 ≤ 300) (_ : g98 a0 6 = .int (iI q102)) (_ : xIn tk tl 2 9 na no q101 q99 q100 q102) (_ : q101 = 0 → no + 1 + z97 ≤ q100) (_ : q99 ≤ cn) (_ : 60 - z97 < (nP120 : Int)), X K E 8 [(3, .int (iI z97)), (0, .ref a0), (1, .ref a1), (2, .int (iI x2))] [] S g98 0 0 := by
    intro nP120
    induction nP120 with
    | zero => intro g98 hg98 z97 lz97 uz97 q99 lq99 uq99 eq99 q100 lq100 uq100 eq100 q101 lq101 uq101 eq101 q102 lq102 uq102 eq102 v121 v122 v123 mP120; exact False.elim (by omega)
    | succ nP120 ihP120 =>
      intro g98 hg98 z97 lz97 uz97 q99 lq99 uq99 eq99 q100 lq100 uq100 eq100 q101 lq101 uq101 eq101 q102 lq102 uq102 eq102 v121 v122 v123 mP120
      refine X_iloadn hK (i := 3) 0 dX7_readCond_8 rfl rfl ?_
      refine X_bipush hK dX7_readCond_9 (by decide) ?_
      refine X_icmp_ge hK 60 (by omega) (by omega) dX7_readCond_11 (by decide) (fun c124 => ?_) (fun c124 => ?_)
      · exact hret _ _ _ _ _ _ dX7_readCond_60 ⟨rfl, rfl, ⟨q101, q99, q100, q102, eq101, by omega, by omega, eq99, by omega, by omega, eq100, by omega, by omega, eq102, by omega, by omega, (xIn.e v121 (fun h9 => False.elim (by have h8 := v122 h9; omega)))⟩⟩ (Nat.le_refl _) (Nat.le_refl _)
      · refine X_aloadn hK (i := 0) 1 dX7_readCond_14 rfl rfl ?_
        refine X_getK hK fl_X7_29_8 hs_a0 eq101 dX7_readCond_15 ?_
        refine X_if_ne hK 60 (by omega) dX7_readCond_18 (by decide) (fun c125 => ?_) (fun c125 => ?_)
        · exact hret _ _ _ _ _ _ dX7_readCond_60 ⟨rfl, rfl, ⟨q101, q99, q100, q102, eq101, by omega, by omega, eq99, by omega, by omega, eq100, by omega, by omega, eq102, by omega, by omega, (xIn.e v121 (fun h9 => False.elim (by have h8 := v122 h9; omega)))⟩⟩ (Nat.le_refl _) (Nat.le_refl _)
        · refine X_aloadn hK (i := 0) 1 dX7_readCond_21 rfl rfl ?_
          refine X_callV hK [] [] lk_X7_47 (c3_now _ _ _ _ _ S g98 a0 q99 wt wp tk tl cn hs_a0 (by omega) eq99 ((hg98 a0 8 0 0 hs_a0 (by decide)).trans ((hg2 a0 8 0 0 hs_a0 (by decide)).trans ewt)) hs_wt ((hg98 a0 8 0 1 hs_a0 (by decide)).trans ((hg2 a0 8 0 1 hs_a0 (by decide)).trans ewp)) hs_wp (by rw [(Eq.trans (xv_m hg98 hs_wt (by decide) (by decide)) (xv_m hg2 hs_wt (by decide) (by decide))), (Eq.trans (xv_m hg98 hs_wp (by decide) (by decide)) (xv_m hg2 hs_wp (by decide) (by decide)))]; exact hp0) (by omega) (by omega)) hs_a0 ⟨by decide, rfl⟩ dX7_readCond_22 rfl rfl (by simp [Value.category]) (by decide) (by decide) (by decide) (by decide) (fun r126 S128 g127 pr126 qr126 hg127 => ?_)
          obtain ⟨rfl, rfl, z129, rfl, lz129, uz129, k130⟩ := pr126
          refine X_st [.int (iI z129)] rfl ?_
          refine X_bipush hK dX7_readCond_25 (by decide) ?_
          refine X_icmp_ne hK 60 (by omega) (by omega) dX7_readCond_27 (by decide) (fun c131 => ?_) (fun c131 => ?_)
          · exact hret _ _ _ _ _ _ dX7_readCond_60 ⟨rfl, rfl, ⟨q101, q99, q100, q102, eq101, by omega, by omega, eq99, by omega, by omega, eq100, by omega, by omega, eq102, by omega, by omega, (xIn.e v121 (fun h9 => Or.inr ⟨rfl, by rw [← k130]; omega⟩))⟩⟩ (Nat.le_refl _) (Nat.le_refl _)
          · refine X_aloadn hK (i := 0) 1 dX7_readCond_30 rfl rfl ?_
            refine X_dup hK dX7_readCond_31 rfl ?_
            have hl132 := xTB.lt (A := xv g98 wt) (B := xv g98 wp) (tk := tk) (tl := tl) (c := cn) (a := q99) (by rw [(Eq.trans (xv_m hg98 hs_wt (by decide) (by decide)) (xv_m hg2 hs_wt (by decide) (by decide))), (Eq.trans (xv_m hg98 hs_wp (by decide) (by decide)) (xv_m hg2 hs_wp (by decide) (by decide)))]; exact hp0) (by omega) (by rw [← k130]; omega)
            refine X_getK hK fl_X7_18_8 hs_a0 eq99 dX7_readCond_32 ?_
            refine X_iconst hK dX7_readCond_35 ?_
            refine X_iadd hK dX7_readCond_36 ?_
            refine X_puti hK fl_X7_18_8 hs_a0 (by decide) sl_8_2 (by omega) (by omega) dX7_readCond_37 (fun g133 hg133 => ?_)
            refine X_aloadn hK (i := 0) 1 dX7_readCond_40 rfl rfl ?_
            refine X_aloadn hK (i := 1) 2 dX7_readCond_41 rfl rfl ?_
            refine X_iloadn hK (i := 2) 3 dX7_readCond_42 rfl rfl ?_
            refine X_callV hK [.ref a1, .int (iI x2)] [] lk_X7_126 (c3_readAll_9 _ _ _ _ _ S g133 a0 a1 x2 (q99 + 1) q100 q101 q102 wt wp tk tl cn hs_a0 hs_a1 (by omega) (by omega) (xs_s hg133) (by omega) ((xs_k hg133 (by decide)).trans eq100) (by omega) ((xs_k hg133 (by decide)).trans eq101) (by omega) ((xs_k hg133 (by decide)).trans eq102) ((xs_k hg133 (by decide)).trans ((hg98 a0 8 0 0 hs_a0 (by decide)).trans ((hg2 a0 8 0 0 hs_a0 (by decide)).trans ewt))) hs_wt ((xs_k hg133 (by decide)).trans ((hg98 a0 8 0 1 hs_a0 (by decide)).trans ((hg2 a0 8 0 1 hs_a0 (by decide)).trans ewp))) hs_wp (by rw [(Eq.trans (Eq.trans (xv_a hg133 (xne hs_wt hs_a0 (by decide))) (xv_m hg98 hs_wt (by decide) (by decide))) (xv_m hg2 hs_wt (by decide) (by decide))), (Eq.trans (Eq.trans (xv_a hg133 (xne hs_wp hs_a0 (by decide))) (xv_m hg98 hs_wp (by decide) (by decide))) (xv_m hg2 hs_wp (by decide) (by decide)))]; exact hp0) (by omega) (by omega)) hs_a0 ⟨by decide, rfl⟩ dX7_readCond_43 rfl rfl (by simp [Value.category]) (by decide) (by decide) (by decide) (by decide) (fun r134 S136 g135 pr134 qr134 hg135 => ?_)
            obtain ⟨rfl, rfl, k137⟩ := pr134
            refine X_st [] rfl ?_
            obtain ⟨Ft138, at138, ot138, qt138, eFt138, lFt138, uFt138, eat138, lat138, uat138, eot138, lot138, uot138, eqt138, lqt138, uqt138, kt138⟩ := k137
            have cat138 : at138 ≤ 300 := by have h9 := (show xTB (xv g135 wt) (xv g135 wp) tk tl cn from (by rw [(Eq.trans (Eq.trans (Eq.trans (xv_m hg135 hs_wt (by decide) (by decide)) (xv_a hg133 (xne hs_wt hs_a0 (by decide)))) (xv_m hg98 hs_wt (by decide) (by decide))) (xv_m hg2 hs_wt (by decide) (by decide))), (Eq.trans (Eq.trans (Eq.trans (xv_m hg135 hs_wp (by decide) (by decide)) (xv_a hg133 (xne hs_wp hs_a0 (by decide)))) (xv_m hg98 hs_wp (by decide) (by decide))) (xv_m hg2 hs_wp (by decide) (by decide)))]; exact hp0)).2.2.2; omega
            refine X_aloadn hK (i := 1) 2 dX7_readCond_46 rfl rfl ?_
            refine X_bipush hK dX7_readCond_47 (by decide) ?_
            refine X_iconst hK dX7_readCond_49 ?_
            refine X_iconst hK dX7_readCond_50 ?_
            refine X_callV hK [.int (iI 14), .int (iI 0), .int (iI 0)] [] lk_X7_129 (c_X10_addStep _ _ _ _ _ S g135 a1 14 0 0 hs_a1 (by omega) (by omega) (by omega)) hs_a1 ⟨by decide, rfl⟩ dX7_readCond_51 rfl rfl (by simp [Value.category]) (by decide) (by decide) (by decide) (by decide) (fun r139 S141 g140 pr139 qr139 hg140 => ?_)
            obtain ⟨rfl, rfl⟩ := pr139
            refine X_st [] rfl ?_
            refine X_iinc hK (i := 3) (z := z97) (n := 1) 0 [(3, .int (iI (z97 + 1))), (0, .ref a0), (1, .ref a1), (2, .int (iI x2))] dX7_readCond_54 rfl (by decide) rfl ?_
            refine X_goto hK 8 dX7_readCond_57 (by decide) ?_
            exact ihP120  g140 (xM.tr (xM.tr (xM_up (xM.tr xM.rf xLe.rf hg98 (by decide)) hg133 hs_a0 (by decide) (by decide)) xLe.rf hg135 (by decide)) xLe.rf hg140 (by decide)) (z97 + 1) (by omega) (by omega) at138 (by omega) (by omega) ((hg140 a0 8 0 2 hs_a0 (by decide)).trans eat138) ot138 (by omega) (by omega) ((hg140 a0 8 0 3 hs_a0 (by decide)).trans eot138) Ft138 (by omega) (by omega) ((hg140 a0 8 0 5 hs_a0 (by decide)).trans eFt138) qt138 (by omega) (by omega) ((hg140 a0 8 0 6 hs_a0 (by decide)).trans eqt138) (xIn.s (Or.inr ⟨rfl, rfl, (by rw [← k130]; omega)⟩) v121 (by omega) kt138) (fun h9 => by have h8 := xRR.b1 kt138 h9; omega) (by omega) (by omega)
  exact P120 ((60 - 0 : Int).toNat + 1) g2 xM.rf 0 (by omega) (by omega) at5 (by omega) (by omega) eat5 ot5 (by omega) (by omega) eot5 Ft5 (by omega) (by omega) eFt5 qt5 (by omega) (by omega) eqt5 (xIn.z (Or.inr ⟨rfl, rfl⟩) kt5) (fun h9 => by have h8 := xRR.b1 kt5 h9; omega) (by omega) (by omega)

set_option maxHeartbeats 4000000 in
set_option maxRecDepth 100000 in
theorem c3_readOne_8 (l : Launch) (D : va_G) (kA : Nat → ClassId) (b0 : Nat) (t0 : Nat → Nat) (S : xT) (g : xG) (a0 : Nat) (a1 : Nat) (x2 : Int) (na : Int) (no : Int) (nf : Int) (nq : Int) (wt : Nat) (wp : Nat) (tk : Int → Int) (tl : Int → Int) (cn : Int) (hs_a0 : S a0 = some (8, 0)) (hs_a1 : S a1 = some (11, 0)) (hx2 : 8 ≤ x2 ∧ x2 ≤ 8) (hna : 0 ≤ na ∧ na ≤ 300) (ena : g a0 2 = .int (iI na)) (hno : 0 ≤ no ∧ no ≤ 50) (eno : g a0 3 = .int (iI no)) (hnf : 0 ≤ nf ∧ nf ≤ 0) (enf : g a0 5 = .int (iI nf)) (hnq : 0 ≤ nq ∧ nq ≤ 300) (enq : g a0 6 = .int (iI nq)) (ewt : g a0 0 = .ref wt) (hs_wt : S wt = some (12900, 301)) (ewp : g a0 1 = .ref wp) (hs_wp : S wp = some (13000, 301)) (hp0 : xTB (xv g wt) (xv g wp) tk tl cn) (hp1 : na ≤ cn) (hp2 : cn ≤ 300) : xMt l yX7_readOne cX7_readOne 5 none 10 0 0 231 D kA b0 t0 [(8, 5), (8, 6), (8, 3), (8, 2), (14000, 0), (11, 2)] [.ref a0, .ref a1, .int (iI x2)] S g (fun (r : Option Value) (S1 : xT) (g1 : xG) => S = S1 ∧ r = none ∧ (∃ F a o q : Int, g1 a0 5 = .int (iI F) ∧ -2147483648 ≤ F ∧ F ≤ 2147483647 ∧ g1 a0 2 = .int (iI a) ∧ 0 ≤ a ∧ a ≤ cn ∧ g1 a0 3 = .int (iI o) ∧ 0 ≤ o ∧ o ≤ 50 ∧ g1 a0 6 = .int (iI q) ∧ 0 ≤ q ∧ q ≤ 300 ∧ xRR tk tl 0 8 na no F a o q)) := by
  refine xEnterV (by decide) (by simp [lg_sl, Value.category]) [(0, .ref a0), (1, .ref a1), (2, .int (iI x2))] rfl ?_
  intro K E hK hret _ _ _
  refine X_aloadn hK (i := 0) 0 dX7_readOne_0 rfl rfl ?_
  refine X_callV hK [] [] lk_X7_47 (c3_now _ _ _ _ _ S g a0 na wt wp tk tl cn hs_a0 (by omega) ena ewt hs_wt ewp hs_wp hp0 (by omega) (by omega)) hs_a0 ⟨by decide, rfl⟩ dX7_readOne_1 rfl rfl (by simp [Value.category]) (by decide) (by decide) (by decide) (by decide) (fun r1 S3 g2 pr1 qr1 hg2 => ?_)
  obtain ⟨rfl, rfl, z4, rfl, lz4, uz4, k5⟩ := pr1
  refine X_st [.int (iI z4)] rfl ?_
  refine X_istoren hK (i := 3) [(3, .int (iI z4)), (0, .ref a0), (1, .ref a1), (2, .int (iI x2))] dX7_readOne_4 rfl (by decide) rfl ?_
  refine X_iloadn hK (i := 3) 0 dX7_readOne_5 rfl rfl ?_
  refine X_bipush hK dX7_readOne_6 (by decide) ?_
  refine X_icmp_lt hK 21 (by omega) (by omega) dX7_readOne_8 (by decide) (fun c6 => ?_) (fun c6 => ?_)
  · refine X_iconst hK dX7_readOne_21 ?_
    refine X_istore hK (i := 4) [(4, .int (iI 0)), (3, .int (iI z4)), (0, .ref a0), (1, .ref a1), (2, .int (iI x2))] dX7_readOne_22 (by decide) rfl ?_
    refine X_iload hK (i := 4) 0 dX7_readOne_24 rfl ?_
    refine X_if_ne hK 49 (by omega) dX7_readOne_26 (by decide) (fun c7 => False.elim (by omega)) (fun c7 => ?_)
    refine X_iloadn hK (i := 3) 1 dX7_readOne_29 rfl rfl ?_
    refine X_bipush hK dX7_readOne_30 (by decide) ?_
    refine X_icmp_eq hK 49 (by omega) (by omega) dX7_readOne_32 (by decide) (fun c8 => ?_) (fun c8 => ?_)
    · refine X_aloadn hK (i := 0) 2 dX7_readOne_49 rfl rfl ?_
      refine X_getK hK fl_X7_22_8 hs_a0 eno dX7_readOne_50 ?_
      refine X_bipush hK dX7_readOne_53 (by decide) ?_
      refine X_icmp_ge hK 64 (by omega) (by omega) dX7_readOne_55 (by decide) (fun c9 => ?_) (fun c9 => ?_)
      · refine X_aloadn hK (i := 0) 2 dX7_readOne_64 rfl rfl ?_
        refine X_iconst hK dX7_readOne_65 ?_
        refine X_callV hK [.int (iI 4)] [] lk_X7_60 (c3_tell _ _ _ _ _ S g a0 4 na no nf nq wt wp tk tl cn hs_a0 (by omega) (by omega) ena (by omega) eno (by omega) enf (by omega) enq ewt hs_wt ewp hs_wp hp0 (by omega) (by omega)) hs_a0 ⟨by decide, rfl⟩ dX7_readOne_66 rfl rfl (by simp [Value.category]) (by decide) (by decide) (by decide) (by decide) (fun r10 S12 g11 pr10 qr10 hg11 => ?_)
        obtain ⟨rfl, rfl, k13⟩ := pr10
        refine X_st [] rfl ?_
        obtain ⟨Ft14, at14, ot14, qt14, eFt14, lFt14, uFt14, eat14, lat14, uat14, eot14, lot14, uot14, eqt14, lqt14, uqt14, kt14⟩ := k13
        have cat14 : at14 ≤ 300 := by have h9 := (show xTB (xv g11 wt) (xv g11 wp) tk tl cn from (by rw [(xv_m hg11 hs_wt (by decide) (by decide)), (xv_m hg11 hs_wp (by decide) (by decide))]; exact hp0)).2.2.2; omega
        refine X_goto hK 148 dX7_readOne_69 (by decide) ?_
        exact hret _ _ _ _ _ _ dX7_readOne_148 ⟨rfl, rfl, ⟨Ft14, at14, ot14, qt14, eFt14, by omega, by omega, eat14, by omega, by omega, eot14, by omega, by omega, eqt14, by omega, by omega, (by obtain ⟨h8, h7, h6⟩ := kt14; have h5 := h8.resolve_left (fun q9 => by omega); rw [h5.2.1]; exact xRR.f4 (by rw [← k5]; omega) (by omega) h5.2.2)⟩⟩ (Nat.le_refl _) (Nat.le_refl _)
      · refine X_iloadn hK (i := 2) 4 dX7_readOne_58 rfl rfl ?_
        refine X_bipush hK dX7_readOne_59 (by decide) ?_
        refine X_icmp_le hK 72 (by omega) (by omega) dX7_readOne_61 (by decide) (fun c15 => ?_) (fun c15 => False.elim (by omega))
        refine X_aloadn hK (i := 0) 2 dX7_readOne_72 rfl rfl ?_
        refine X_dup hK dX7_readOne_73 rfl ?_
        refine X_getK hK fl_X7_22_8 hs_a0 eno dX7_readOne_74 ?_
        refine X_iconst hK dX7_readOne_77 ?_
        refine X_iadd hK dX7_readOne_78 ?_
        refine X_puti hK fl_X7_22_8 hs_a0 (by decide) sl_8_3 (by omega) (by omega) dX7_readOne_79 (fun g16 hg16 => ?_)
        refine X_aloadn hK (i := 0) 2 dX7_readOne_82 rfl rfl ?_
        refine X_dup hK dX7_readOne_83 rfl ?_
        have hl17 := xTB.lt (A := xv g16 wt) (B := xv g16 wp) (tk := tk) (tl := tl) (c := cn) (a := na) (by rw [(xv_a hg16 (xne hs_wt hs_a0 (by decide))), (xv_a hg16 (xne hs_wp hs_a0 (by decide)))]; exact hp0) (by omega) (by rw [← k5]; omega)
        refine X_getK hK fl_X7_18_8 hs_a0 ((xs_k hg16 (by decide)).trans ena) dX7_readOne_84 ?_
        refine X_iconst hK dX7_readOne_87 ?_
        refine X_iadd hK dX7_readOne_88 ?_
        refine X_puti hK fl_X7_18_8 hs_a0 (by decide) sl_8_2 (by omega) (by omega) dX7_readOne_89 (fun g18 hg18 => ?_)
        refine X_iload hK (i := 4) 0 dX7_readOne_92 rfl ?_
        refine X_if_eq hK 109 (by omega) dX7_readOne_94 (by decide) (fun c19 => ?_) (fun c19 => False.elim (by omega))
        refine X_iloadn hK (i := 3) 1 dX7_readOne_109 rfl rfl ?_
        refine X_bipush hK dX7_readOne_110 (by decide) ?_
        refine X_icmp_ne hK 132 (by omega) (by omega) dX7_readOne_112 (by decide) (fun c20 => ?_) (fun c20 => False.elim (by omega))
        refine X_aloadn hK (i := 0) 2 dX7_readOne_132 rfl rfl ?_
        refine X_aloadn hK (i := 1) 3 dX7_readOne_133 rfl rfl ?_
        refine X_iloadn hK (i := 2) 4 dX7_readOne_134 rfl rfl ?_
        refine X_iconst hK dX7_readOne_135 ?_
        refine X_iadd hK dX7_readOne_136 ?_
        refine X_callV hK [.ref a1, .int (iI (x2 + 1))] [] lk_X7_132 (c3_readOne_9 _ _ _ _ _ S g18 a0 a1 (x2 + 1) (na + 1) (no + 1) nf nq wt wp tk tl cn hs_a0 hs_a1 (by omega) (by omega) (xs_s hg18) (by omega) ((xs_k hg18 (by decide)).trans (xs_s hg16)) (by omega) ((xs_k hg18 (by decide)).trans ((xs_k hg16 (by decide)).trans enf)) (by omega) ((xs_k hg18 (by decide)).trans ((xs_k hg16 (by decide)).trans enq)) ((xs_k hg18 (by decide)).trans ((xs_k hg16 (by decide)).trans ewt)) hs_wt ((xs_k hg18 (by decide)).trans ((xs_k hg16 (by decide)).trans ewp)) hs_wp (by rw [(Eq.trans (xv_a hg18 (xne hs_wt hs_a0 (by decide))) (xv_a hg16 (xne hs_wt hs_a0 (by decide)))), (Eq.trans (xv_a hg18 (xne hs_wp hs_a0 (by decide))) (xv_a hg16 (xne hs_wp hs_a0 (by decide))))]; exact hp0) (by omega) (by omega)) hs_a0 ⟨by decide, rfl⟩ dX7_readOne_137 rfl rfl (by simp [Value.category]) (by decide) (by decide) (by decide) (by decide) (fun r21 S23 g22 pr21 qr21 hg22 => ?_)
        obtain ⟨rfl, rfl, k24⟩ := pr21
        refine X_st [] rfl ?_
        obtain ⟨Ft25, at25, ot25, qt25, eFt25, lFt25, uFt25, eat25, lat25, uat25, eot25, lot25, uot25, eqt25, lqt25, uqt25, kt25⟩ := k24
        have cat25 : at25 ≤ 300 := by have h9 := (show xTB (xv g22 wt) (xv g22 wp) tk tl cn from (by rw [(Eq.trans (Eq.trans (xv_m hg22 hs_wt (by decide) (by decide)) (xv_a hg18 (xne hs_wt hs_a0 (by decide)))) (xv_a hg16 (xne hs_wt hs_a0 (by decide)))), (Eq.trans (Eq.trans (xv_m hg22 hs_wp (by decide) (by decide)) (xv_a hg18 (xne hs_wp hs_a0 (by decide)))) (xv_a hg16 (xne hs_wp hs_a0 (by decide))))]; exact hp0)).2.2.2; omega
        refine X_aloadn hK (i := 1) 3 dX7_readOne_140 rfl rfl ?_
        refine X_bipush hK dX7_readOne_141 (by decide) ?_
        refine X_iconst hK dX7_readOne_143 ?_
        refine X_iconst hK dX7_readOne_144 ?_
        refine X_callV hK [.int (iI 12), .int (iI 0), .int (iI 0)] [] lk_X7_129 (c_X10_addStep _ _ _ _ _ S g22 a1 12 0 0 hs_a1 (by omega) (by omega) (by omega)) hs_a1 ⟨by decide, rfl⟩ dX7_readOne_145 rfl rfl (by simp [Value.category]) (by decide) (by decide) (by decide) (by decide) (fun r26 S28 g27 pr26 qr26 hg27 => ?_)
        obtain ⟨rfl, rfl⟩ := pr26
        refine X_st [] rfl ?_
        exact hret _ _ _ _ _ _ dX7_readOne_148 ⟨rfl, rfl, ⟨Ft25, at25, ot25, qt25, ((hg27 a0 8 0 5 hs_a0 (by decide)).trans eFt25), by omega, by omega, ((hg27 a0 8 0 2 hs_a0 (by decide)).trans eat25), by omega, by omega, ((hg27 a0 8 0 3 hs_a0 (by decide)).trans eot25), by omega, by omega, ((hg27 a0 8 0 6 hs_a0 (by decide)).trans eqt25), by omega, by omega, (xRR.nt (by rw [← k5]; omega) (by omega) kt25)⟩⟩ (Nat.le_refl _) (Nat.le_refl _)
    · refine X_iloadn hK (i := 3) 1 dX7_readOne_35 rfl rfl ?_
      refine X_bipush hK dX7_readOne_36 (by decide) ?_
      refine X_icmp_eq hK 49 (by omega) (by omega) dX7_readOne_38 (by decide) (fun c29 => False.elim (by omega)) (fun c29 => ?_)
      refine X_aloadn hK (i := 0) 2 dX7_readOne_41 rfl rfl ?_
      refine X_iconst hK dX7_readOne_42 ?_
      refine X_callV hK [.int (iI 1)] [] lk_X7_60 (c3_tell _ _ _ _ _ S g a0 1 na no nf nq wt wp tk tl cn hs_a0 (by omega) (by omega) ena (by omega) eno (by omega) enf (by omega) enq ewt hs_wt ewp hs_wp hp0 (by omega) (by omega)) hs_a0 ⟨by decide, rfl⟩ dX7_readOne_43 rfl rfl (by simp [Value.category]) (by decide) (by decide) (by decide) (by decide) (fun r30 S32 g31 pr30 qr30 hg31 => ?_)
      obtain ⟨rfl, rfl, k33⟩ := pr30
      refine X_st [] rfl ?_
      obtain ⟨Ft34, at34, ot34, qt34, eFt34, lFt34, uFt34, eat34, lat34, uat34, eot34, lot34, uot34, eqt34, lqt34, uqt34, kt34⟩ := k33
      have cat34 : at34 ≤ 300 := by have h9 := (show xTB (xv g31 wt) (xv g31 wp) tk tl cn from (by rw [(xv_m hg31 hs_wt (by decide) (by decide)), (xv_m hg31 hs_wp (by decide) (by decide))]; exact hp0)).2.2.2; omega
      refine X_goto hK 148 dX7_readOne_46 (by decide) ?_
      exact hret _ _ _ _ _ _ dX7_readOne_148 ⟨rfl, rfl, ⟨Ft34, at34, ot34, qt34, eFt34, by omega, by omega, eat34, by omega, by omega, eot34, by omega, by omega, eqt34, by omega, by omega, (by obtain ⟨h8, h7, h6⟩ := kt34; have h5 := h8.resolve_left (fun q9 => by omega); rw [h5.2.1]; exact xRR.f1 (by rw [← k5]; omega) h5.2.2)⟩⟩ (Nat.le_refl _) (Nat.le_refl _)
  · refine X_iloadn hK (i := 3) 0 dX7_readOne_11 rfl rfl ?_
    refine X_bipush hK dX7_readOne_12 (by decide) ?_
    refine X_icmp_ge hK 21 (by omega) (by omega) dX7_readOne_14 (by decide) (fun c35 => ?_) (fun c35 => ?_)
    · refine X_iconst hK dX7_readOne_21 ?_
      refine X_istore hK (i := 4) [(4, .int (iI 0)), (3, .int (iI z4)), (0, .ref a0), (1, .ref a1), (2, .int (iI x2))] dX7_readOne_22 (by decide) rfl ?_
      refine X_iload hK (i := 4) 0 dX7_readOne_24 rfl ?_
      refine X_if_ne hK 49 (by omega) dX7_readOne_26 (by decide) (fun c36 => False.elim (by omega)) (fun c36 => ?_)
      refine X_iloadn hK (i := 3) 1 dX7_readOne_29 rfl rfl ?_
      refine X_bipush hK dX7_readOne_30 (by decide) ?_
      refine X_icmp_eq hK 49 (by omega) (by omega) dX7_readOne_32 (by decide) (fun c37 => False.elim (by omega)) (fun c37 => ?_)
      refine X_iloadn hK (i := 3) 1 dX7_readOne_35 rfl rfl ?_
      refine X_bipush hK dX7_readOne_36 (by decide) ?_
      refine X_icmp_eq hK 49 (by omega) (by omega) dX7_readOne_38 (by decide) (fun c38 => ?_) (fun c38 => ?_)
      · refine X_aloadn hK (i := 0) 2 dX7_readOne_49 rfl rfl ?_
        refine X_getK hK fl_X7_22_8 hs_a0 eno dX7_readOne_50 ?_
        refine X_bipush hK dX7_readOne_53 (by decide) ?_
        refine X_icmp_ge hK 64 (by omega) (by omega) dX7_readOne_55 (by decide) (fun c39 => ?_) (fun c39 => ?_)
        · refine X_aloadn hK (i := 0) 2 dX7_readOne_64 rfl rfl ?_
          refine X_iconst hK dX7_readOne_65 ?_
          refine X_callV hK [.int (iI 4)] [] lk_X7_60 (c3_tell _ _ _ _ _ S g a0 4 na no nf nq wt wp tk tl cn hs_a0 (by omega) (by omega) ena (by omega) eno (by omega) enf (by omega) enq ewt hs_wt ewp hs_wp hp0 (by omega) (by omega)) hs_a0 ⟨by decide, rfl⟩ dX7_readOne_66 rfl rfl (by simp [Value.category]) (by decide) (by decide) (by decide) (by decide) (fun r40 S42 g41 pr40 qr40 hg41 => ?_)
          obtain ⟨rfl, rfl, k43⟩ := pr40
          refine X_st [] rfl ?_
          obtain ⟨Ft44, at44, ot44, qt44, eFt44, lFt44, uFt44, eat44, lat44, uat44, eot44, lot44, uot44, eqt44, lqt44, uqt44, kt44⟩ := k43
          have cat44 : at44 ≤ 300 := by have h9 := (show xTB (xv g41 wt) (xv g41 wp) tk tl cn from (by rw [(xv_m hg41 hs_wt (by decide) (by decide)), (xv_m hg41 hs_wp (by decide) (by decide))]; exact hp0)).2.2.2; omega
          refine X_goto hK 148 dX7_readOne_69 (by decide) ?_
          exact hret _ _ _ _ _ _ dX7_readOne_148 ⟨rfl, rfl, ⟨Ft44, at44, ot44, qt44, eFt44, by omega, by omega, eat44, by omega, by omega, eot44, by omega, by omega, eqt44, by omega, by omega, (by obtain ⟨h8, h7, h6⟩ := kt44; have h5 := h8.resolve_left (fun q9 => by omega); rw [h5.2.1]; exact xRR.f4 (by rw [← k5]; omega) (by omega) h5.2.2)⟩⟩ (Nat.le_refl _) (Nat.le_refl _)
        · refine X_iloadn hK (i := 2) 4 dX7_readOne_58 rfl rfl ?_
          refine X_bipush hK dX7_readOne_59 (by decide) ?_
          refine X_icmp_le hK 72 (by omega) (by omega) dX7_readOne_61 (by decide) (fun c45 => ?_) (fun c45 => False.elim (by omega))
          refine X_aloadn hK (i := 0) 2 dX7_readOne_72 rfl rfl ?_
          refine X_dup hK dX7_readOne_73 rfl ?_
          refine X_getK hK fl_X7_22_8 hs_a0 eno dX7_readOne_74 ?_
          refine X_iconst hK dX7_readOne_77 ?_
          refine X_iadd hK dX7_readOne_78 ?_
          refine X_puti hK fl_X7_22_8 hs_a0 (by decide) sl_8_3 (by omega) (by omega) dX7_readOne_79 (fun g46 hg46 => ?_)
          refine X_aloadn hK (i := 0) 2 dX7_readOne_82 rfl rfl ?_
          refine X_dup hK dX7_readOne_83 rfl ?_
          have hl47 := xTB.lt (A := xv g46 wt) (B := xv g46 wp) (tk := tk) (tl := tl) (c := cn) (a := na) (by rw [(xv_a hg46 (xne hs_wt hs_a0 (by decide))), (xv_a hg46 (xne hs_wp hs_a0 (by decide)))]; exact hp0) (by omega) (by rw [← k5]; omega)
          refine X_getK hK fl_X7_18_8 hs_a0 ((xs_k hg46 (by decide)).trans ena) dX7_readOne_84 ?_
          refine X_iconst hK dX7_readOne_87 ?_
          refine X_iadd hK dX7_readOne_88 ?_
          refine X_puti hK fl_X7_18_8 hs_a0 (by decide) sl_8_2 (by omega) (by omega) dX7_readOne_89 (fun g48 hg48 => ?_)
          refine X_iload hK (i := 4) 0 dX7_readOne_92 rfl ?_
          refine X_if_eq hK 109 (by omega) dX7_readOne_94 (by decide) (fun c49 => ?_) (fun c49 => False.elim (by omega))
          refine X_iloadn hK (i := 3) 1 dX7_readOne_109 rfl rfl ?_
          refine X_bipush hK dX7_readOne_110 (by decide) ?_
          refine X_icmp_ne hK 132 (by omega) (by omega) dX7_readOne_112 (by decide) (fun c50 => False.elim (by omega)) (fun c50 => ?_)
          refine X_aloadn hK (i := 0) 2 dX7_readOne_115 rfl rfl ?_
          refine X_aloadn hK (i := 1) 3 dX7_readOne_116 rfl rfl ?_
          refine X_iloadn hK (i := 2) 4 dX7_readOne_117 rfl rfl ?_
          refine X_iconst hK dX7_readOne_118 ?_
          refine X_iadd hK dX7_readOne_119 ?_
          refine X_callV hK [.ref a1, .int (iI (x2 + 1))] [] lk_X7_115 (c3_readCond_9 _ _ _ _ _ S g48 a0 a1 (x2 + 1) (na + 1) (no + 1) nf nq wt wp tk tl cn hs_a0 hs_a1 (by omega) (by omega) (xs_s hg48) (by omega) ((xs_k hg48 (by decide)).trans (xs_s hg46)) (by omega) ((xs_k hg48 (by decide)).trans ((xs_k hg46 (by decide)).trans enf)) (by omega) ((xs_k hg48 (by decide)).trans ((xs_k hg46 (by decide)).trans enq)) ((xs_k hg48 (by decide)).trans ((xs_k hg46 (by decide)).trans ewt)) hs_wt ((xs_k hg48 (by decide)).trans ((xs_k hg46 (by decide)).trans ewp)) hs_wp (by rw [(Eq.trans (xv_a hg48 (xne hs_wt hs_a0 (by decide))) (xv_a hg46 (xne hs_wt hs_a0 (by decide)))), (Eq.trans (xv_a hg48 (xne hs_wp hs_a0 (by decide))) (xv_a hg46 (xne hs_wp hs_a0 (by decide))))]; exact hp0) (by omega) (by omega)) hs_a0 ⟨by decide, rfl⟩ dX7_readOne_120 rfl rfl (by simp [Value.category]) (by decide) (by decide) (by decide) (by decide) (fun r51 S53 g52 pr51 qr51 hg52 => ?_)
          obtain ⟨rfl, rfl, k54⟩ := pr51
          refine X_st [] rfl ?_
          obtain ⟨Ft55, at55, ot55, qt55, eFt55, lFt55, uFt55, eat55, lat55, uat55, eot55, lot55, uot55, eqt55, lqt55, uqt55, kt55⟩ := k54
          have cat55 : at55 ≤ 300 := by have h9 := (show xTB (xv g52 wt) (xv g52 wp) tk tl cn from (by rw [(Eq.trans (Eq.trans (xv_m hg52 hs_wt (by decide) (by decide)) (xv_a hg48 (xne hs_wt hs_a0 (by decide)))) (xv_a hg46 (xne hs_wt hs_a0 (by decide)))), (Eq.trans (Eq.trans (xv_m hg52 hs_wp (by decide) (by decide)) (xv_a hg48 (xne hs_wp hs_a0 (by decide)))) (xv_a hg46 (xne hs_wp hs_a0 (by decide))))]; exact hp0)).2.2.2; omega
          refine X_aloadn hK (i := 0) 2 dX7_readOne_123 rfl rfl ?_
          refine X_bipush hK dX7_readOne_124 (by decide) ?_
          refine X_callV hK [.int (iI 26)] [] lk_X7_119 (c3_expect _ _ _ _ _ S g52 a0 26 at55 ot55 Ft55 qt55 wt wp tk tl cn hs_a0 (by omega) (by omega) eat55 (by omega) eot55 (by omega) eFt55 (by omega) eqt55 ((hg52 a0 8 0 0 hs_a0 (by decide)).trans ((xs_k hg48 (by decide)).trans ((xs_k hg46 (by decide)).trans ewt))) hs_wt ((hg52 a0 8 0 1 hs_a0 (by decide)).trans ((xs_k hg48 (by decide)).trans ((xs_k hg46 (by decide)).trans ewp))) hs_wp (by rw [(Eq.trans (Eq.trans (xv_m hg52 hs_wt (by decide) (by decide)) (xv_a hg48 (xne hs_wt hs_a0 (by decide)))) (xv_a hg46 (xne hs_wt hs_a0 (by decide)))), (Eq.trans (Eq.trans (xv_m hg52 hs_wp (by decide) (by decide)) (xv_a hg48 (xne hs_wp hs_a0 (by decide)))) (xv_a hg46 (xne hs_wp hs_a0 (by decide))))]; exact hp0) (by omega) (by omega)) hs_a0 ⟨by decide, rfl⟩ dX7_readOne_126 rfl rfl (by simp [Value.category]) (by decide) (by decide) (by decide) (by decide) (fun r56 S58 g57 pr56 qr56 hg57 => ?_)
          obtain ⟨rfl, rfl, k59⟩ := pr56
          refine X_st [] rfl ?_
          obtain ⟨Ft60, at60, ot60, qt60, eFt60, lFt60, uFt60, eat60, lat60, uat60, eot60, lot60, uot60, eqt60, lqt60, uqt60, kt60⟩ := k59
          have cat60 : at60 ≤ 300 := by have h9 := (show xTB (xv g57 wt) (xv g57 wp) tk tl cn from (by rw [(Eq.trans (Eq.trans (Eq.trans (xv_m hg57 hs_wt (by decide) (by decide)) (xv_m hg52 hs_wt (by decide) (by decide))) (xv_a hg48 (xne hs_wt hs_a0 (by decide)))) (xv_a hg46 (xne hs_wt hs_a0 (by decide)))), (Eq.trans (Eq.trans (Eq.trans (xv_m hg57 hs_wp (by decide) (by decide)) (xv_m hg52 hs_wp (by decide) (by decide))) (xv_a hg48 (xne hs_wp hs_a0 (by decide)))) (xv_a hg46 (xne hs_wp hs_a0 (by decide))))]; exact hp0)).2.2.2; omega
          refine X_goto hK 148 dX7_readOne_129 (by decide) ?_
          exact hret _ _ _ _ _ _ dX7_readOne_148 ⟨rfl, rfl, ⟨Ft60, at60, ot60, qt60, eFt60, by omega, by omega, eat60, by omega, by omega, eot60, by omega, by omega, eqt60, by omega, by omega, (by obtain ⟨h8, h7⟩ := kt60; by_cases f9 : Ft55 = 0; (rcases h8 with ⟨c1, c2, c3, c4⟩ | ⟨c1, c2, c3⟩; (rw [show Ft60 = 0 by omega, c3, h7]; exact xRR.po (by rw [← k5]; omega) (by omega) (show xRR tk tl 2 (8 + 1) (na + 1) (no + 1) Ft55 at55 ot55 qt55 from kt55) f9 c1); (have c4 := c3.resolve_left (fun q9 => q9.1 f9); rw [c4.2.1]; exact xRR.px (by rw [← k5]; omega) (by omega) (show xRR tk tl 2 (8 + 1) (na + 1) (no + 1) Ft55 at55 ot55 qt55 from kt55) f9 c1 c4.2.2)); (have h6 : Ft60 = Ft55 ∧ qt60 = qt55 := (by omega); rw [h6.1, h6.2]; exact xRR.pf (by rw [← k5]; omega) (by omega) (show xRR tk tl 2 (8 + 1) (na + 1) (no + 1) Ft55 at55 ot55 qt55 from kt55) f9))⟩⟩ (Nat.le_refl _) (Nat.le_refl _)
      · refine X_aloadn hK (i := 0) 2 dX7_readOne_41 rfl rfl ?_
        refine X_iconst hK dX7_readOne_42 ?_
        refine X_callV hK [.int (iI 1)] [] lk_X7_60 (c3_tell _ _ _ _ _ S g a0 1 na no nf nq wt wp tk tl cn hs_a0 (by omega) (by omega) ena (by omega) eno (by omega) enf (by omega) enq ewt hs_wt ewp hs_wp hp0 (by omega) (by omega)) hs_a0 ⟨by decide, rfl⟩ dX7_readOne_43 rfl rfl (by simp [Value.category]) (by decide) (by decide) (by decide) (by decide) (fun r61 S63 g62 pr61 qr61 hg62 => ?_)
        obtain ⟨rfl, rfl, k64⟩ := pr61
        refine X_st [] rfl ?_
        obtain ⟨Ft65, at65, ot65, qt65, eFt65, lFt65, uFt65, eat65, lat65, uat65, eot65, lot65, uot65, eqt65, lqt65, uqt65, kt65⟩ := k64
        have cat65 : at65 ≤ 300 := by have h9 := (show xTB (xv g62 wt) (xv g62 wp) tk tl cn from (by rw [(xv_m hg62 hs_wt (by decide) (by decide)), (xv_m hg62 hs_wp (by decide) (by decide))]; exact hp0)).2.2.2; omega
        refine X_goto hK 148 dX7_readOne_46 (by decide) ?_
        exact hret _ _ _ _ _ _ dX7_readOne_148 ⟨rfl, rfl, ⟨Ft65, at65, ot65, qt65, eFt65, by omega, by omega, eat65, by omega, by omega, eot65, by omega, by omega, eqt65, by omega, by omega, (by obtain ⟨h8, h7, h6⟩ := kt65; have h5 := h8.resolve_left (fun q9 => by omega); rw [h5.2.1]; exact xRR.f1 (by rw [← k5]; omega) h5.2.2)⟩⟩ (Nat.le_refl _) (Nat.le_refl _)
    · refine X_iconst hK dX7_readOne_17 ?_
      refine X_goto hK 22 dX7_readOne_18 (by decide) ?_
      refine X_istore hK (i := 4) [(4, .int (iI 1)), (3, .int (iI z4)), (0, .ref a0), (1, .ref a1), (2, .int (iI x2))] dX7_readOne_22 (by decide) rfl ?_
      refine X_iload hK (i := 4) 0 dX7_readOne_24 rfl ?_
      refine X_if_ne hK 49 (by omega) dX7_readOne_26 (by decide) (fun c66 => ?_) (fun c66 => False.elim (by omega))
      refine X_aloadn hK (i := 0) 2 dX7_readOne_49 rfl rfl ?_
      refine X_getK hK fl_X7_22_8 hs_a0 eno dX7_readOne_50 ?_
      refine X_bipush hK dX7_readOne_53 (by decide) ?_
      refine X_icmp_ge hK 64 (by omega) (by omega) dX7_readOne_55 (by decide) (fun c67 => ?_) (fun c67 => ?_)
      · refine X_aloadn hK (i := 0) 2 dX7_readOne_64 rfl rfl ?_
        refine X_iconst hK dX7_readOne_65 ?_
        refine X_callV hK [.int (iI 4)] [] lk_X7_60 (c3_tell _ _ _ _ _ S g a0 4 na no nf nq wt wp tk tl cn hs_a0 (by omega) (by omega) ena (by omega) eno (by omega) enf (by omega) enq ewt hs_wt ewp hs_wp hp0 (by omega) (by omega)) hs_a0 ⟨by decide, rfl⟩ dX7_readOne_66 rfl rfl (by simp [Value.category]) (by decide) (by decide) (by decide) (by decide) (fun r68 S70 g69 pr68 qr68 hg69 => ?_)
        obtain ⟨rfl, rfl, k71⟩ := pr68
        refine X_st [] rfl ?_
        obtain ⟨Ft72, at72, ot72, qt72, eFt72, lFt72, uFt72, eat72, lat72, uat72, eot72, lot72, uot72, eqt72, lqt72, uqt72, kt72⟩ := k71
        have cat72 : at72 ≤ 300 := by have h9 := (show xTB (xv g69 wt) (xv g69 wp) tk tl cn from (by rw [(xv_m hg69 hs_wt (by decide) (by decide)), (xv_m hg69 hs_wp (by decide) (by decide))]; exact hp0)).2.2.2; omega
        refine X_goto hK 148 dX7_readOne_69 (by decide) ?_
        exact hret _ _ _ _ _ _ dX7_readOne_148 ⟨rfl, rfl, ⟨Ft72, at72, ot72, qt72, eFt72, by omega, by omega, eat72, by omega, by omega, eot72, by omega, by omega, eqt72, by omega, by omega, (by obtain ⟨h8, h7, h6⟩ := kt72; have h5 := h8.resolve_left (fun q9 => by omega); rw [h5.2.1]; exact xRR.f4 (by rw [← k5]; omega) (by omega) h5.2.2)⟩⟩ (Nat.le_refl _) (Nat.le_refl _)
      · refine X_iloadn hK (i := 2) 4 dX7_readOne_58 rfl rfl ?_
        refine X_bipush hK dX7_readOne_59 (by decide) ?_
        refine X_icmp_le hK 72 (by omega) (by omega) dX7_readOne_61 (by decide) (fun c73 => ?_) (fun c73 => False.elim (by omega))
        refine X_aloadn hK (i := 0) 2 dX7_readOne_72 rfl rfl ?_
        refine X_dup hK dX7_readOne_73 rfl ?_
        refine X_getK hK fl_X7_22_8 hs_a0 eno dX7_readOne_74 ?_
        refine X_iconst hK dX7_readOne_77 ?_
        refine X_iadd hK dX7_readOne_78 ?_
        refine X_puti hK fl_X7_22_8 hs_a0 (by decide) sl_8_3 (by omega) (by omega) dX7_readOne_79 (fun g74 hg74 => ?_)
        refine X_aloadn hK (i := 0) 2 dX7_readOne_82 rfl rfl ?_
        refine X_dup hK dX7_readOne_83 rfl ?_
        have hl75 := xTB.lt (A := xv g74 wt) (B := xv g74 wp) (tk := tk) (tl := tl) (c := cn) (a := na) (by rw [(xv_a hg74 (xne hs_wt hs_a0 (by decide))), (xv_a hg74 (xne hs_wp hs_a0 (by decide)))]; exact hp0) (by omega) (by rw [← k5]; omega)
        refine X_getK hK fl_X7_18_8 hs_a0 ((xs_k hg74 (by decide)).trans ena) dX7_readOne_84 ?_
        refine X_iconst hK dX7_readOne_87 ?_
        refine X_iadd hK dX7_readOne_88 ?_
        refine X_puti hK fl_X7_18_8 hs_a0 (by decide) sl_8_2 (by omega) (by omega) dX7_readOne_89 (fun g76 hg76 => ?_)
        refine X_iload hK (i := 4) 0 dX7_readOne_92 rfl ?_
        refine X_if_eq hK 109 (by omega) dX7_readOne_94 (by decide) (fun c77 => False.elim (by omega)) (fun c77 => ?_)
        refine X_aloadn hK (i := 0) 2 dX7_readOne_97 rfl rfl ?_
        refine X_aloadn hK (i := 1) 3 dX7_readOne_98 rfl rfl ?_
        refine X_iloadn hK (i := 3) 1 dX7_readOne_99 rfl rfl ?_
        refine X_bipush hK dX7_readOne_100 (by decide) ?_
        refine X_isub hK dX7_readOne_102 ?_
        refine X_callV hK [.ref a1, .int (iI (z4 - 10))] [] lk_X7_135 (c3_readFact _ _ _ _ _ S g76 a0 a1 (z4 - 10) (na + 1) (no + 1) nf nq wt wp tk tl cn 8 hs_a0 hs_a1 (by omega) (by omega) (xs_s hg76) (by omega) ((xs_k hg76 (by decide)).trans (xs_s hg74)) (by omega) ((xs_k hg76 (by decide)).trans ((xs_k hg74 (by decide)).trans enf)) (by omega) ((xs_k hg76 (by decide)).trans ((xs_k hg74 (by decide)).trans enq)) ((xs_k hg76 (by decide)).trans ((xs_k hg74 (by decide)).trans ewt)) hs_wt ((xs_k hg76 (by decide)).trans ((xs_k hg74 (by decide)).trans ewp)) hs_wp (by rw [(Eq.trans (xv_a hg76 (xne hs_wt hs_a0 (by decide))) (xv_a hg74 (xne hs_wt hs_a0 (by decide)))), (Eq.trans (xv_a hg76 (xne hs_wp hs_a0 (by decide))) (xv_a hg74 (xne hs_wp hs_a0 (by decide))))]; exact hp0) (by omega) (by omega) (by rw [show (na + 1) - 1 = na by omega, ← k5]; omega) (by omega)) hs_a0 ⟨by decide, rfl⟩ dX7_readOne_103 rfl rfl (by simp [Value.category]) (by decide) (by decide) (by decide) (by decide) (fun r78 S80 g79 pr78 qr78 hg79 => ?_)
        obtain ⟨rfl, rfl, k81⟩ := pr78
        refine X_st [] rfl ?_
        obtain ⟨Ft82, at82, ot82, qt82, eFt82, lFt82, uFt82, eat82, lat82, uat82, eot82, lot82, uot82, eqt82, lqt82, uqt82, kt82⟩ := k81
        have cat82 : at82 ≤ 300 := by have h9 := (show xTB (xv g79 wt) (xv g79 wp) tk tl cn from (by rw [(Eq.trans (Eq.trans (xv_m hg79 hs_wt (by decide) (by decide)) (xv_a hg76 (xne hs_wt hs_a0 (by decide)))) (xv_a hg74 (xne hs_wt hs_a0 (by decide)))), (Eq.trans (Eq.trans (xv_m hg79 hs_wp (by decide) (by decide)) (xv_a hg76 (xne hs_wp hs_a0 (by decide)))) (xv_a hg74 (xne hs_wp hs_a0 (by decide))))]; exact hp0)).2.2.2; omega
        refine X_goto hK 148 dX7_readOne_106 (by decide) ?_
        exact hret _ _ _ _ _ _ dX7_readOne_148 ⟨rfl, rfl, ⟨Ft82, at82, ot82, qt82, eFt82, by omega, by omega, eat82, by omega, by omega, eot82, by omega, by omega, eqt82, by omega, by omega, (by have h9 := kt82; rw [show na + 1 - 1 = na by omega, show no + 1 - 1 = no by omega] at h9; exact h9)⟩⟩ (Nat.le_refl _) (Nat.le_refl _)

set_option maxHeartbeats 4000000 in
set_option maxRecDepth 100000 in
theorem c3_readAll_8 (l : Launch) (D : va_G) (kA : Nat → ClassId) (b0 : Nat) (t0 : Nat → Nat) (S : xT) (g : xG) (a0 : Nat) (a1 : Nat) (x2 : Int) (na : Int) (no : Int) (nf : Int) (nq : Int) (wt : Nat) (wp : Nat) (tk : Int → Int) (tl : Int → Int) (cn : Int) (hs_a0 : S a0 = some (8, 0)) (hs_a1 : S a1 = some (11, 0)) (hx2 : 8 ≤ x2 ∧ x2 ≤ 8) (hna : 0 ≤ na ∧ na ≤ 300) (ena : g a0 2 = .int (iI na)) (hno : 0 ≤ no ∧ no ≤ 50) (eno : g a0 3 = .int (iI no)) (hnf : 0 ≤ nf ∧ nf ≤ 0) (enf : g a0 5 = .int (iI nf)) (hnq : 0 ≤ nq ∧ nq ≤ 300) (enq : g a0 6 = .int (iI nq)) (ewt : g a0 0 = .ref wt) (hs_wt : S wt = some (12900, 301)) (ewp : g a0 1 = .ref wp) (hs_wp : S wp = some (13000, 301)) (hp0 : xTB (xv g wt) (xv g wp) tk tl cn) (hp1 : na ≤ cn) (hp2 : cn ≤ 300) : xMt l yX7_readAll cX7_readAll 4 none 11 0 0 255 D kA b0 t0 [(8, 5), (8, 6), (8, 3), (8, 2), (14000, 0), (11, 2)] [.ref a0, .ref a1, .int (iI x2)] S g (fun (r : Option Value) (S1 : xT) (g1 : xG) => S = S1 ∧ r = none ∧ (∃ F a o q : Int, g1 a0 5 = .int (iI F) ∧ -2147483648 ≤ F ∧ F ≤ 2147483647 ∧ g1 a0 2 = .int (iI a) ∧ 0 ≤ a ∧ a ≤ cn ∧ g1 a0 3 = .int (iI o) ∧ 0 ≤ o ∧ o ≤ 50 ∧ g1 a0 6 = .int (iI q) ∧ 0 ≤ q ∧ q ≤ 300 ∧ xRR tk tl 1 8 na no F a o q)) := by
  refine xEnterV (by decide) (by simp [lg_sl, Value.category]) [(0, .ref a0), (1, .ref a1), (2, .int (iI x2))] rfl ?_
  intro K E hK hret _ _ _
  refine X_aloadn hK (i := 0) 0 dX7_readAll_0 rfl rfl ?_
  refine X_aloadn hK (i := 1) 1 dX7_readAll_1 rfl rfl ?_
  refine X_iloadn hK (i := 2) 2 dX7_readAll_2 rfl rfl ?_
  refine X_callV hK [.ref a1, .int (iI x2)] [] lk_X7_132 (c3_readOne_8 _ _ _ _ _ S g a0 a1 x2 na no nf nq wt wp tk tl cn hs_a0 hs_a1 (by omega) (by omega) ena (by omega) eno (by omega) enf (by omega) enq ewt hs_wt ewp hs_wp hp0 (by omega) (by omega)) hs_a0 ⟨by decide, rfl⟩ dX7_readAll_3 rfl rfl (by simp [Value.category]) (by decide) (by decide) (by decide) (by decide) (fun r1 S3 g2 pr1 qr1 hg2 => ?_)
  obtain ⟨rfl, rfl, k4⟩ := pr1
  refine X_st [] rfl ?_
  obtain ⟨Ft5, at5, ot5, qt5, eFt5, lFt5, uFt5, eat5, lat5, uat5, eot5, lot5, uot5, eqt5, lqt5, uqt5, kt5⟩ := k4
  have cat5 : at5 ≤ 300 := by have h9 := (show xTB (xv g2 wt) (xv g2 wp) tk tl cn from (by rw [(xv_m hg2 hs_wt (by decide) (by decide)), (xv_m hg2 hs_wp (by decide) (by decide))]; exact hp0)).2.2.2; omega
  refine X_iconst hK dX7_readAll_6 ?_
  refine X_istoren hK (i := 3) [(3, .int (iI 0)), (0, .ref a0), (1, .ref a1), (2, .int (iI x2))] dX7_readAll_7 rfl (by decide) rfl ?_
  have P120 : ∀ (nP120 : Nat) (g98 : xG) (_ : xM [(14000, 0), (11, 2), (8, 5), (8, 6), (8, 3), (8, 2)] S g2 g98) (z97 : Int) (_ : 0 ≤ z97) (_ : z97 ≤ 50) (q99 : Int) (_ : 0 ≤ q99) (_ : q99 ≤ 300) (_ : g98 a0 2 = .int (iI q99)) (q100 : Int) (_ : 0 ≤ q100) (_ : q100 ≤ 50) (_ : g98 a0 3 = .int (iI q100)) (q101 : Int) (_ : (-2147483648) ≤ q101) (_ : q101 ≤ 2147483647) (_ : g98 a0 5 = .int (iI q101)) (q102 : Int) (_ : 0 ≤ q102) (_ : q102 ≤ 300) (_ : g98 a0 6 = .int (iI q102)) (_ : xIn tk tl 1 8 na no q101 q99 q100 q102) (_ : q101 = 0 → no + 1 + z97 ≤ q100) (_ : q99 ≤ cn) (_ : 60 - z97 < (nP120 : Int)), X K E 8 [(3, .int (iI z97)), (0, .ref a0), (1, .ref a1), (2, .int (iI x2))] [] S g98 0 0 := by
    intro nP120
    induction nP120 with
    | zero => intro g98 hg98 z97 lz97 uz97 q99 lq99 uq99 eq99 q100 lq100 uq100 eq100 q101 lq101 uq101 eq101 q102 lq102 uq102 eq102 v121 v122 v123 mP120; exact False.elim (by omega)
    | succ nP120 ihP120 =>
      intro g98 hg98 z97 lz97 uz97 q99 lq99 uq99 eq99 q100 lq100 uq100 eq100 q101 lq101 uq101 eq101 q102 lq102 uq102 eq102 v121 v122 v123 mP120
      refine X_iloadn hK (i := 3) 0 dX7_readAll_8 rfl rfl ?_
      refine X_bipush hK dX7_readAll_9 (by decide) ?_
      refine X_icmp_ge hK 60 (by omega) (by omega) dX7_readAll_11 (by decide) (fun c124 => ?_) (fun c124 => ?_)
      · exact hret _ _ _ _ _ _ dX7_readAll_60 ⟨rfl, rfl, ⟨q101, q99, q100, q102, eq101, by omega, by omega, eq99, by omega, by omega, eq100, by omega, by omega, eq102, by omega, by omega, (xIn.e v121 (fun h9 => False.elim (by have h8 := v122 h9; omega)))⟩⟩ (Nat.le_refl _) (Nat.le_refl _)
      · refine X_aloadn hK (i := 0) 1 dX7_readAll_14 rfl rfl ?_
        refine X_getK hK fl_X7_29_8 hs_a0 eq101 dX7_readAll_15 ?_
        refine X_if_ne hK 60 (by omega) dX7_readAll_18 (by decide) (fun c125 => ?_) (fun c125 => ?_)
        · exact hret _ _ _ _ _ _ dX7_readAll_60 ⟨rfl, rfl, ⟨q101, q99, q100, q102, eq101, by omega, by omega, eq99, by omega, by omega, eq100, by omega, by omega, eq102, by omega, by omega, (xIn.e v121 (fun h9 => False.elim (by have h8 := v122 h9; omega)))⟩⟩ (Nat.le_refl _) (Nat.le_refl _)
        · refine X_aloadn hK (i := 0) 1 dX7_readAll_21 rfl rfl ?_
          refine X_callV hK [] [] lk_X7_47 (c3_now _ _ _ _ _ S g98 a0 q99 wt wp tk tl cn hs_a0 (by omega) eq99 ((hg98 a0 8 0 0 hs_a0 (by decide)).trans ((hg2 a0 8 0 0 hs_a0 (by decide)).trans ewt)) hs_wt ((hg98 a0 8 0 1 hs_a0 (by decide)).trans ((hg2 a0 8 0 1 hs_a0 (by decide)).trans ewp)) hs_wp (by rw [(Eq.trans (xv_m hg98 hs_wt (by decide) (by decide)) (xv_m hg2 hs_wt (by decide) (by decide))), (Eq.trans (xv_m hg98 hs_wp (by decide) (by decide)) (xv_m hg2 hs_wp (by decide) (by decide)))]; exact hp0) (by omega) (by omega)) hs_a0 ⟨by decide, rfl⟩ dX7_readAll_22 rfl rfl (by simp [Value.category]) (by decide) (by decide) (by decide) (by decide) (fun r126 S128 g127 pr126 qr126 hg127 => ?_)
          obtain ⟨rfl, rfl, z129, rfl, lz129, uz129, k130⟩ := pr126
          refine X_st [.int (iI z129)] rfl ?_
          refine X_bipush hK dX7_readAll_25 (by decide) ?_
          refine X_icmp_ne hK 60 (by omega) (by omega) dX7_readAll_27 (by decide) (fun c131 => ?_) (fun c131 => ?_)
          · exact hret _ _ _ _ _ _ dX7_readAll_60 ⟨rfl, rfl, ⟨q101, q99, q100, q102, eq101, by omega, by omega, eq99, by omega, by omega, eq100, by omega, by omega, eq102, by omega, by omega, (xIn.e v121 (fun h9 => Or.inl ⟨rfl, by rw [← k130]; omega⟩))⟩⟩ (Nat.le_refl _) (Nat.le_refl _)
          · refine X_aloadn hK (i := 0) 1 dX7_readAll_30 rfl rfl ?_
            refine X_dup hK dX7_readAll_31 rfl ?_
            have hl132 := xTB.lt (A := xv g98 wt) (B := xv g98 wp) (tk := tk) (tl := tl) (c := cn) (a := q99) (by rw [(Eq.trans (xv_m hg98 hs_wt (by decide) (by decide)) (xv_m hg2 hs_wt (by decide) (by decide))), (Eq.trans (xv_m hg98 hs_wp (by decide) (by decide)) (xv_m hg2 hs_wp (by decide) (by decide)))]; exact hp0) (by omega) (by rw [← k130]; omega)
            refine X_getK hK fl_X7_18_8 hs_a0 eq99 dX7_readAll_32 ?_
            refine X_iconst hK dX7_readAll_35 ?_
            refine X_iadd hK dX7_readAll_36 ?_
            refine X_puti hK fl_X7_18_8 hs_a0 (by decide) sl_8_2 (by omega) (by omega) dX7_readAll_37 (fun g133 hg133 => ?_)
            refine X_aloadn hK (i := 0) 1 dX7_readAll_40 rfl rfl ?_
            refine X_aloadn hK (i := 1) 2 dX7_readAll_41 rfl rfl ?_
            refine X_iloadn hK (i := 2) 3 dX7_readAll_42 rfl rfl ?_
            refine X_callV hK [.ref a1, .int (iI x2)] [] lk_X7_132 (c3_readOne_8 _ _ _ _ _ S g133 a0 a1 x2 (q99 + 1) q100 q101 q102 wt wp tk tl cn hs_a0 hs_a1 (by omega) (by omega) (xs_s hg133) (by omega) ((xs_k hg133 (by decide)).trans eq100) (by omega) ((xs_k hg133 (by decide)).trans eq101) (by omega) ((xs_k hg133 (by decide)).trans eq102) ((xs_k hg133 (by decide)).trans ((hg98 a0 8 0 0 hs_a0 (by decide)).trans ((hg2 a0 8 0 0 hs_a0 (by decide)).trans ewt))) hs_wt ((xs_k hg133 (by decide)).trans ((hg98 a0 8 0 1 hs_a0 (by decide)).trans ((hg2 a0 8 0 1 hs_a0 (by decide)).trans ewp))) hs_wp (by rw [(Eq.trans (Eq.trans (xv_a hg133 (xne hs_wt hs_a0 (by decide))) (xv_m hg98 hs_wt (by decide) (by decide))) (xv_m hg2 hs_wt (by decide) (by decide))), (Eq.trans (Eq.trans (xv_a hg133 (xne hs_wp hs_a0 (by decide))) (xv_m hg98 hs_wp (by decide) (by decide))) (xv_m hg2 hs_wp (by decide) (by decide)))]; exact hp0) (by omega) (by omega)) hs_a0 ⟨by decide, rfl⟩ dX7_readAll_43 rfl rfl (by simp [Value.category]) (by decide) (by decide) (by decide) (by decide) (fun r134 S136 g135 pr134 qr134 hg135 => ?_)
            obtain ⟨rfl, rfl, k137⟩ := pr134
            refine X_st [] rfl ?_
            obtain ⟨Ft138, at138, ot138, qt138, eFt138, lFt138, uFt138, eat138, lat138, uat138, eot138, lot138, uot138, eqt138, lqt138, uqt138, kt138⟩ := k137
            have cat138 : at138 ≤ 300 := by have h9 := (show xTB (xv g135 wt) (xv g135 wp) tk tl cn from (by rw [(Eq.trans (Eq.trans (Eq.trans (xv_m hg135 hs_wt (by decide) (by decide)) (xv_a hg133 (xne hs_wt hs_a0 (by decide)))) (xv_m hg98 hs_wt (by decide) (by decide))) (xv_m hg2 hs_wt (by decide) (by decide))), (Eq.trans (Eq.trans (Eq.trans (xv_m hg135 hs_wp (by decide) (by decide)) (xv_a hg133 (xne hs_wp hs_a0 (by decide)))) (xv_m hg98 hs_wp (by decide) (by decide))) (xv_m hg2 hs_wp (by decide) (by decide)))]; exact hp0)).2.2.2; omega
            refine X_aloadn hK (i := 1) 2 dX7_readAll_46 rfl rfl ?_
            refine X_bipush hK dX7_readAll_47 (by decide) ?_
            refine X_iconst hK dX7_readAll_49 ?_
            refine X_iconst hK dX7_readAll_50 ?_
            refine X_callV hK [.int (iI 13), .int (iI 0), .int (iI 0)] [] lk_X7_129 (c_X10_addStep _ _ _ _ _ S g135 a1 13 0 0 hs_a1 (by omega) (by omega) (by omega)) hs_a1 ⟨by decide, rfl⟩ dX7_readAll_51 rfl rfl (by simp [Value.category]) (by decide) (by decide) (by decide) (by decide) (fun r139 S141 g140 pr139 qr139 hg140 => ?_)
            obtain ⟨rfl, rfl⟩ := pr139
            refine X_st [] rfl ?_
            refine X_iinc hK (i := 3) (z := z97) (n := 1) 0 [(3, .int (iI (z97 + 1))), (0, .ref a0), (1, .ref a1), (2, .int (iI x2))] dX7_readAll_54 rfl (by decide) rfl ?_
            refine X_goto hK 8 dX7_readAll_57 (by decide) ?_
            exact ihP120  g140 (xM.tr (xM.tr (xM_up (xM.tr xM.rf xLe.rf hg98 (by decide)) hg133 hs_a0 (by decide) (by decide)) xLe.rf hg135 (by decide)) xLe.rf hg140 (by decide)) (z97 + 1) (by omega) (by omega) at138 (by omega) (by omega) ((hg140 a0 8 0 2 hs_a0 (by decide)).trans eat138) ot138 (by omega) (by omega) ((hg140 a0 8 0 3 hs_a0 (by decide)).trans eot138) Ft138 (by omega) (by omega) ((hg140 a0 8 0 5 hs_a0 (by decide)).trans eFt138) qt138 (by omega) (by omega) ((hg140 a0 8 0 6 hs_a0 (by decide)).trans eqt138) (xIn.s (Or.inl ⟨rfl, rfl, (by rw [← k130]; omega)⟩) v121 (by omega) kt138) (fun h9 => by have h8 := xRR.b kt138 h9; omega) (by omega) (by omega)
  exact P120 ((60 - 0 : Int).toNat + 1) g2 xM.rf 0 (by omega) (by omega) at5 (by omega) (by omega) eat5 ot5 (by omega) (by omega) eot5 Ft5 (by omega) (by omega) eFt5 qt5 (by omega) (by omega) eqt5 (xIn.z (Or.inl ⟨rfl, rfl⟩) kt5) (fun h9 => by have h8 := xRR.b kt5 h9; omega) (by omega) (by omega)

set_option maxHeartbeats 4000000 in
set_option maxRecDepth 100000 in
theorem c3_readCond_8 (l : Launch) (D : va_G) (kA : Nat → ClassId) (b0 : Nat) (t0 : Nat → Nat) (S : xT) (g : xG) (a0 : Nat) (a1 : Nat) (x2 : Int) (na : Int) (no : Int) (nf : Int) (nq : Int) (wt : Nat) (wp : Nat) (tk : Int → Int) (tl : Int → Int) (cn : Int) (hs_a0 : S a0 = some (8, 0)) (hs_a1 : S a1 = some (11, 0)) (hx2 : 8 ≤ x2 ∧ x2 ≤ 8) (hna : 0 ≤ na ∧ na ≤ 300) (ena : g a0 2 = .int (iI na)) (hno : 0 ≤ no ∧ no ≤ 50) (eno : g a0 3 = .int (iI no)) (hnf : 0 ≤ nf ∧ nf ≤ 0) (enf : g a0 5 = .int (iI nf)) (hnq : 0 ≤ nq ∧ nq ≤ 300) (enq : g a0 6 = .int (iI nq)) (ewt : g a0 0 = .ref wt) (hs_wt : S wt = some (12900, 301)) (ewp : g a0 1 = .ref wp) (hs_wp : S wp = some (13000, 301)) (hp0 : xTB (xv g wt) (xv g wp) tk tl cn) (hp1 : na ≤ cn) (hp2 : cn ≤ 300) : xMt l yX7_readCond cX7_readCond 4 none 12 0 0 278 D kA b0 t0 [(8, 5), (8, 6), (8, 3), (8, 2), (14000, 0), (11, 2)] [.ref a0, .ref a1, .int (iI x2)] S g (fun (r : Option Value) (S1 : xT) (g1 : xG) => S = S1 ∧ r = none ∧ (∃ F a o q : Int, g1 a0 5 = .int (iI F) ∧ -2147483648 ≤ F ∧ F ≤ 2147483647 ∧ g1 a0 2 = .int (iI a) ∧ 0 ≤ a ∧ a ≤ cn ∧ g1 a0 3 = .int (iI o) ∧ 0 ≤ o ∧ o ≤ 50 ∧ g1 a0 6 = .int (iI q) ∧ 0 ≤ q ∧ q ≤ 300 ∧ xRR tk tl 2 8 na no F a o q)) := by
  refine xEnterV (by decide) (by simp [lg_sl, Value.category]) [(0, .ref a0), (1, .ref a1), (2, .int (iI x2))] rfl ?_
  intro K E hK hret _ _ _
  refine X_aloadn hK (i := 0) 0 dX7_readCond_0 rfl rfl ?_
  refine X_aloadn hK (i := 1) 1 dX7_readCond_1 rfl rfl ?_
  refine X_iloadn hK (i := 2) 2 dX7_readCond_2 rfl rfl ?_
  refine X_callV hK [.ref a1, .int (iI x2)] [] lk_X7_126 (c3_readAll_8 _ _ _ _ _ S g a0 a1 x2 na no nf nq wt wp tk tl cn hs_a0 hs_a1 (by omega) (by omega) ena (by omega) eno (by omega) enf (by omega) enq ewt hs_wt ewp hs_wp hp0 (by omega) (by omega)) hs_a0 ⟨by decide, rfl⟩ dX7_readCond_3 rfl rfl (by simp [Value.category]) (by decide) (by decide) (by decide) (by decide) (fun r1 S3 g2 pr1 qr1 hg2 => ?_)
  obtain ⟨rfl, rfl, k4⟩ := pr1
  refine X_st [] rfl ?_
  obtain ⟨Ft5, at5, ot5, qt5, eFt5, lFt5, uFt5, eat5, lat5, uat5, eot5, lot5, uot5, eqt5, lqt5, uqt5, kt5⟩ := k4
  have cat5 : at5 ≤ 300 := by have h9 := (show xTB (xv g2 wt) (xv g2 wp) tk tl cn from (by rw [(xv_m hg2 hs_wt (by decide) (by decide)), (xv_m hg2 hs_wp (by decide) (by decide))]; exact hp0)).2.2.2; omega
  refine X_iconst hK dX7_readCond_6 ?_
  refine X_istoren hK (i := 3) [(3, .int (iI 0)), (0, .ref a0), (1, .ref a1), (2, .int (iI x2))] dX7_readCond_7 rfl (by decide) rfl ?_
  have P120 : ∀ (nP120 : Nat) (g98 : xG) (_ : xM [(14000, 0), (11, 2), (8, 5), (8, 6), (8, 3), (8, 2)] S g2 g98) (z97 : Int) (_ : 0 ≤ z97) (_ : z97 ≤ 50) (q99 : Int) (_ : 0 ≤ q99) (_ : q99 ≤ 300) (_ : g98 a0 2 = .int (iI q99)) (q100 : Int) (_ : 0 ≤ q100) (_ : q100 ≤ 50) (_ : g98 a0 3 = .int (iI q100)) (q101 : Int) (_ : (-2147483648) ≤ q101) (_ : q101 ≤ 2147483647) (_ : g98 a0 5 = .int (iI q101)) (q102 : Int) (_ : 0 ≤ q102) (_ : q102 ≤ 300) (_ : g98 a0 6 = .int (iI q102)) (_ : xIn tk tl 2 8 na no q101 q99 q100 q102) (_ : q101 = 0 → no + 1 + z97 ≤ q100) (_ : q99 ≤ cn) (_ : 60 - z97 < (nP120 : Int)), X K E 8 [(3, .int (iI z97)), (0, .ref a0), (1, .ref a1), (2, .int (iI x2))] [] S g98 0 0 := by
    intro nP120
    induction nP120 with
    | zero => intro g98 hg98 z97 lz97 uz97 q99 lq99 uq99 eq99 q100 lq100 uq100 eq100 q101 lq101 uq101 eq101 q102 lq102 uq102 eq102 v121 v122 v123 mP120; exact False.elim (by omega)
    | succ nP120 ihP120 =>
      intro g98 hg98 z97 lz97 uz97 q99 lq99 uq99 eq99 q100 lq100 uq100 eq100 q101 lq101 uq101 eq101 q102 lq102 uq102 eq102 v121 v122 v123 mP120
      refine X_iloadn hK (i := 3) 0 dX7_readCond_8 rfl rfl ?_
      refine X_bipush hK dX7_readCond_9 (by decide) ?_
      refine X_icmp_ge hK 60 (by omega) (by omega) dX7_readCond_11 (by decide) (fun c124 => ?_) (fun c124 => ?_)
      · exact hret _ _ _ _ _ _ dX7_readCond_60 ⟨rfl, rfl, ⟨q101, q99, q100, q102, eq101, by omega, by omega, eq99, by omega, by omega, eq100, by omega, by omega, eq102, by omega, by omega, (xIn.e v121 (fun h9 => False.elim (by have h8 := v122 h9; omega)))⟩⟩ (Nat.le_refl _) (Nat.le_refl _)
      · refine X_aloadn hK (i := 0) 1 dX7_readCond_14 rfl rfl ?_
        refine X_getK hK fl_X7_29_8 hs_a0 eq101 dX7_readCond_15 ?_
        refine X_if_ne hK 60 (by omega) dX7_readCond_18 (by decide) (fun c125 => ?_) (fun c125 => ?_)
        · exact hret _ _ _ _ _ _ dX7_readCond_60 ⟨rfl, rfl, ⟨q101, q99, q100, q102, eq101, by omega, by omega, eq99, by omega, by omega, eq100, by omega, by omega, eq102, by omega, by omega, (xIn.e v121 (fun h9 => False.elim (by have h8 := v122 h9; omega)))⟩⟩ (Nat.le_refl _) (Nat.le_refl _)
        · refine X_aloadn hK (i := 0) 1 dX7_readCond_21 rfl rfl ?_
          refine X_callV hK [] [] lk_X7_47 (c3_now _ _ _ _ _ S g98 a0 q99 wt wp tk tl cn hs_a0 (by omega) eq99 ((hg98 a0 8 0 0 hs_a0 (by decide)).trans ((hg2 a0 8 0 0 hs_a0 (by decide)).trans ewt)) hs_wt ((hg98 a0 8 0 1 hs_a0 (by decide)).trans ((hg2 a0 8 0 1 hs_a0 (by decide)).trans ewp)) hs_wp (by rw [(Eq.trans (xv_m hg98 hs_wt (by decide) (by decide)) (xv_m hg2 hs_wt (by decide) (by decide))), (Eq.trans (xv_m hg98 hs_wp (by decide) (by decide)) (xv_m hg2 hs_wp (by decide) (by decide)))]; exact hp0) (by omega) (by omega)) hs_a0 ⟨by decide, rfl⟩ dX7_readCond_22 rfl rfl (by simp [Value.category]) (by decide) (by decide) (by decide) (by decide) (fun r126 S128 g127 pr126 qr126 hg127 => ?_)
          obtain ⟨rfl, rfl, z129, rfl, lz129, uz129, k130⟩ := pr126
          refine X_st [.int (iI z129)] rfl ?_
          refine X_bipush hK dX7_readCond_25 (by decide) ?_
          refine X_icmp_ne hK 60 (by omega) (by omega) dX7_readCond_27 (by decide) (fun c131 => ?_) (fun c131 => ?_)
          · exact hret _ _ _ _ _ _ dX7_readCond_60 ⟨rfl, rfl, ⟨q101, q99, q100, q102, eq101, by omega, by omega, eq99, by omega, by omega, eq100, by omega, by omega, eq102, by omega, by omega, (xIn.e v121 (fun h9 => Or.inr ⟨rfl, by rw [← k130]; omega⟩))⟩⟩ (Nat.le_refl _) (Nat.le_refl _)
          · refine X_aloadn hK (i := 0) 1 dX7_readCond_30 rfl rfl ?_
            refine X_dup hK dX7_readCond_31 rfl ?_
            have hl132 := xTB.lt (A := xv g98 wt) (B := xv g98 wp) (tk := tk) (tl := tl) (c := cn) (a := q99) (by rw [(Eq.trans (xv_m hg98 hs_wt (by decide) (by decide)) (xv_m hg2 hs_wt (by decide) (by decide))), (Eq.trans (xv_m hg98 hs_wp (by decide) (by decide)) (xv_m hg2 hs_wp (by decide) (by decide)))]; exact hp0) (by omega) (by rw [← k130]; omega)
            refine X_getK hK fl_X7_18_8 hs_a0 eq99 dX7_readCond_32 ?_
            refine X_iconst hK dX7_readCond_35 ?_
            refine X_iadd hK dX7_readCond_36 ?_
            refine X_puti hK fl_X7_18_8 hs_a0 (by decide) sl_8_2 (by omega) (by omega) dX7_readCond_37 (fun g133 hg133 => ?_)
            refine X_aloadn hK (i := 0) 1 dX7_readCond_40 rfl rfl ?_
            refine X_aloadn hK (i := 1) 2 dX7_readCond_41 rfl rfl ?_
            refine X_iloadn hK (i := 2) 3 dX7_readCond_42 rfl rfl ?_
            refine X_callV hK [.ref a1, .int (iI x2)] [] lk_X7_126 (c3_readAll_8 _ _ _ _ _ S g133 a0 a1 x2 (q99 + 1) q100 q101 q102 wt wp tk tl cn hs_a0 hs_a1 (by omega) (by omega) (xs_s hg133) (by omega) ((xs_k hg133 (by decide)).trans eq100) (by omega) ((xs_k hg133 (by decide)).trans eq101) (by omega) ((xs_k hg133 (by decide)).trans eq102) ((xs_k hg133 (by decide)).trans ((hg98 a0 8 0 0 hs_a0 (by decide)).trans ((hg2 a0 8 0 0 hs_a0 (by decide)).trans ewt))) hs_wt ((xs_k hg133 (by decide)).trans ((hg98 a0 8 0 1 hs_a0 (by decide)).trans ((hg2 a0 8 0 1 hs_a0 (by decide)).trans ewp))) hs_wp (by rw [(Eq.trans (Eq.trans (xv_a hg133 (xne hs_wt hs_a0 (by decide))) (xv_m hg98 hs_wt (by decide) (by decide))) (xv_m hg2 hs_wt (by decide) (by decide))), (Eq.trans (Eq.trans (xv_a hg133 (xne hs_wp hs_a0 (by decide))) (xv_m hg98 hs_wp (by decide) (by decide))) (xv_m hg2 hs_wp (by decide) (by decide)))]; exact hp0) (by omega) (by omega)) hs_a0 ⟨by decide, rfl⟩ dX7_readCond_43 rfl rfl (by simp [Value.category]) (by decide) (by decide) (by decide) (by decide) (fun r134 S136 g135 pr134 qr134 hg135 => ?_)
            obtain ⟨rfl, rfl, k137⟩ := pr134
            refine X_st [] rfl ?_
            obtain ⟨Ft138, at138, ot138, qt138, eFt138, lFt138, uFt138, eat138, lat138, uat138, eot138, lot138, uot138, eqt138, lqt138, uqt138, kt138⟩ := k137
            have cat138 : at138 ≤ 300 := by have h9 := (show xTB (xv g135 wt) (xv g135 wp) tk tl cn from (by rw [(Eq.trans (Eq.trans (Eq.trans (xv_m hg135 hs_wt (by decide) (by decide)) (xv_a hg133 (xne hs_wt hs_a0 (by decide)))) (xv_m hg98 hs_wt (by decide) (by decide))) (xv_m hg2 hs_wt (by decide) (by decide))), (Eq.trans (Eq.trans (Eq.trans (xv_m hg135 hs_wp (by decide) (by decide)) (xv_a hg133 (xne hs_wp hs_a0 (by decide)))) (xv_m hg98 hs_wp (by decide) (by decide))) (xv_m hg2 hs_wp (by decide) (by decide)))]; exact hp0)).2.2.2; omega
            refine X_aloadn hK (i := 1) 2 dX7_readCond_46 rfl rfl ?_
            refine X_bipush hK dX7_readCond_47 (by decide) ?_
            refine X_iconst hK dX7_readCond_49 ?_
            refine X_iconst hK dX7_readCond_50 ?_
            refine X_callV hK [.int (iI 14), .int (iI 0), .int (iI 0)] [] lk_X7_129 (c_X10_addStep _ _ _ _ _ S g135 a1 14 0 0 hs_a1 (by omega) (by omega) (by omega)) hs_a1 ⟨by decide, rfl⟩ dX7_readCond_51 rfl rfl (by simp [Value.category]) (by decide) (by decide) (by decide) (by decide) (fun r139 S141 g140 pr139 qr139 hg140 => ?_)
            obtain ⟨rfl, rfl⟩ := pr139
            refine X_st [] rfl ?_
            refine X_iinc hK (i := 3) (z := z97) (n := 1) 0 [(3, .int (iI (z97 + 1))), (0, .ref a0), (1, .ref a1), (2, .int (iI x2))] dX7_readCond_54 rfl (by decide) rfl ?_
            refine X_goto hK 8 dX7_readCond_57 (by decide) ?_
            exact ihP120  g140 (xM.tr (xM.tr (xM_up (xM.tr xM.rf xLe.rf hg98 (by decide)) hg133 hs_a0 (by decide) (by decide)) xLe.rf hg135 (by decide)) xLe.rf hg140 (by decide)) (z97 + 1) (by omega) (by omega) at138 (by omega) (by omega) ((hg140 a0 8 0 2 hs_a0 (by decide)).trans eat138) ot138 (by omega) (by omega) ((hg140 a0 8 0 3 hs_a0 (by decide)).trans eot138) Ft138 (by omega) (by omega) ((hg140 a0 8 0 5 hs_a0 (by decide)).trans eFt138) qt138 (by omega) (by omega) ((hg140 a0 8 0 6 hs_a0 (by decide)).trans eqt138) (xIn.s (Or.inr ⟨rfl, rfl, (by rw [← k130]; omega)⟩) v121 (by omega) kt138) (fun h9 => by have h8 := xRR.b1 kt138 h9; omega) (by omega) (by omega)
  exact P120 ((60 - 0 : Int).toNat + 1) g2 xM.rf 0 (by omega) (by omega) at5 (by omega) (by omega) eat5 ot5 (by omega) (by omega) eot5 Ft5 (by omega) (by omega) eFt5 qt5 (by omega) (by omega) eqt5 (xIn.z (Or.inr ⟨rfl, rfl⟩) kt5) (fun h9 => by have h8 := xRR.b1 kt5 h9; omega) (by omega) (by omega)

set_option maxHeartbeats 4000000 in
set_option maxRecDepth 100000 in
theorem c3_readOne_7 (l : Launch) (D : va_G) (kA : Nat → ClassId) (b0 : Nat) (t0 : Nat → Nat) (S : xT) (g : xG) (a0 : Nat) (a1 : Nat) (x2 : Int) (na : Int) (no : Int) (nf : Int) (nq : Int) (wt : Nat) (wp : Nat) (tk : Int → Int) (tl : Int → Int) (cn : Int) (hs_a0 : S a0 = some (8, 0)) (hs_a1 : S a1 = some (11, 0)) (hx2 : 7 ≤ x2 ∧ x2 ≤ 7) (hna : 0 ≤ na ∧ na ≤ 300) (ena : g a0 2 = .int (iI na)) (hno : 0 ≤ no ∧ no ≤ 50) (eno : g a0 3 = .int (iI no)) (hnf : 0 ≤ nf ∧ nf ≤ 0) (enf : g a0 5 = .int (iI nf)) (hnq : 0 ≤ nq ∧ nq ≤ 300) (enq : g a0 6 = .int (iI nq)) (ewt : g a0 0 = .ref wt) (hs_wt : S wt = some (12900, 301)) (ewp : g a0 1 = .ref wp) (hs_wp : S wp = some (13000, 301)) (hp0 : xTB (xv g wt) (xv g wp) tk tl cn) (hp1 : na ≤ cn) (hp2 : cn ≤ 300) : xMt l yX7_readOne cX7_readOne 5 none 13 0 0 301 D kA b0 t0 [(8, 5), (8, 6), (8, 3), (8, 2), (14000, 0), (11, 2)] [.ref a0, .ref a1, .int (iI x2)] S g (fun (r : Option Value) (S1 : xT) (g1 : xG) => S = S1 ∧ r = none ∧ (∃ F a o q : Int, g1 a0 5 = .int (iI F) ∧ -2147483648 ≤ F ∧ F ≤ 2147483647 ∧ g1 a0 2 = .int (iI a) ∧ 0 ≤ a ∧ a ≤ cn ∧ g1 a0 3 = .int (iI o) ∧ 0 ≤ o ∧ o ≤ 50 ∧ g1 a0 6 = .int (iI q) ∧ 0 ≤ q ∧ q ≤ 300 ∧ xRR tk tl 0 7 na no F a o q)) := by
  refine xEnterV (by decide) (by simp [lg_sl, Value.category]) [(0, .ref a0), (1, .ref a1), (2, .int (iI x2))] rfl ?_
  intro K E hK hret _ _ _
  refine X_aloadn hK (i := 0) 0 dX7_readOne_0 rfl rfl ?_
  refine X_callV hK [] [] lk_X7_47 (c3_now _ _ _ _ _ S g a0 na wt wp tk tl cn hs_a0 (by omega) ena ewt hs_wt ewp hs_wp hp0 (by omega) (by omega)) hs_a0 ⟨by decide, rfl⟩ dX7_readOne_1 rfl rfl (by simp [Value.category]) (by decide) (by decide) (by decide) (by decide) (fun r1 S3 g2 pr1 qr1 hg2 => ?_)
  obtain ⟨rfl, rfl, z4, rfl, lz4, uz4, k5⟩ := pr1
  refine X_st [.int (iI z4)] rfl ?_
  refine X_istoren hK (i := 3) [(3, .int (iI z4)), (0, .ref a0), (1, .ref a1), (2, .int (iI x2))] dX7_readOne_4 rfl (by decide) rfl ?_
  refine X_iloadn hK (i := 3) 0 dX7_readOne_5 rfl rfl ?_
  refine X_bipush hK dX7_readOne_6 (by decide) ?_
  refine X_icmp_lt hK 21 (by omega) (by omega) dX7_readOne_8 (by decide) (fun c6 => ?_) (fun c6 => ?_)
  · refine X_iconst hK dX7_readOne_21 ?_
    refine X_istore hK (i := 4) [(4, .int (iI 0)), (3, .int (iI z4)), (0, .ref a0), (1, .ref a1), (2, .int (iI x2))] dX7_readOne_22 (by decide) rfl ?_
    refine X_iload hK (i := 4) 0 dX7_readOne_24 rfl ?_
    refine X_if_ne hK 49 (by omega) dX7_readOne_26 (by decide) (fun c7 => False.elim (by omega)) (fun c7 => ?_)
    refine X_iloadn hK (i := 3) 1 dX7_readOne_29 rfl rfl ?_
    refine X_bipush hK dX7_readOne_30 (by decide) ?_
    refine X_icmp_eq hK 49 (by omega) (by omega) dX7_readOne_32 (by decide) (fun c8 => ?_) (fun c8 => ?_)
    · refine X_aloadn hK (i := 0) 2 dX7_readOne_49 rfl rfl ?_
      refine X_getK hK fl_X7_22_8 hs_a0 eno dX7_readOne_50 ?_
      refine X_bipush hK dX7_readOne_53 (by decide) ?_
      refine X_icmp_ge hK 64 (by omega) (by omega) dX7_readOne_55 (by decide) (fun c9 => ?_) (fun c9 => ?_)
      · refine X_aloadn hK (i := 0) 2 dX7_readOne_64 rfl rfl ?_
        refine X_iconst hK dX7_readOne_65 ?_
        refine X_callV hK [.int (iI 4)] [] lk_X7_60 (c3_tell _ _ _ _ _ S g a0 4 na no nf nq wt wp tk tl cn hs_a0 (by omega) (by omega) ena (by omega) eno (by omega) enf (by omega) enq ewt hs_wt ewp hs_wp hp0 (by omega) (by omega)) hs_a0 ⟨by decide, rfl⟩ dX7_readOne_66 rfl rfl (by simp [Value.category]) (by decide) (by decide) (by decide) (by decide) (fun r10 S12 g11 pr10 qr10 hg11 => ?_)
        obtain ⟨rfl, rfl, k13⟩ := pr10
        refine X_st [] rfl ?_
        obtain ⟨Ft14, at14, ot14, qt14, eFt14, lFt14, uFt14, eat14, lat14, uat14, eot14, lot14, uot14, eqt14, lqt14, uqt14, kt14⟩ := k13
        have cat14 : at14 ≤ 300 := by have h9 := (show xTB (xv g11 wt) (xv g11 wp) tk tl cn from (by rw [(xv_m hg11 hs_wt (by decide) (by decide)), (xv_m hg11 hs_wp (by decide) (by decide))]; exact hp0)).2.2.2; omega
        refine X_goto hK 148 dX7_readOne_69 (by decide) ?_
        exact hret _ _ _ _ _ _ dX7_readOne_148 ⟨rfl, rfl, ⟨Ft14, at14, ot14, qt14, eFt14, by omega, by omega, eat14, by omega, by omega, eot14, by omega, by omega, eqt14, by omega, by omega, (by obtain ⟨h8, h7, h6⟩ := kt14; have h5 := h8.resolve_left (fun q9 => by omega); rw [h5.2.1]; exact xRR.f4 (by rw [← k5]; omega) (by omega) h5.2.2)⟩⟩ (Nat.le_refl _) (Nat.le_refl _)
      · refine X_iloadn hK (i := 2) 4 dX7_readOne_58 rfl rfl ?_
        refine X_bipush hK dX7_readOne_59 (by decide) ?_
        refine X_icmp_le hK 72 (by omega) (by omega) dX7_readOne_61 (by decide) (fun c15 => ?_) (fun c15 => False.elim (by omega))
        refine X_aloadn hK (i := 0) 2 dX7_readOne_72 rfl rfl ?_
        refine X_dup hK dX7_readOne_73 rfl ?_
        refine X_getK hK fl_X7_22_8 hs_a0 eno dX7_readOne_74 ?_
        refine X_iconst hK dX7_readOne_77 ?_
        refine X_iadd hK dX7_readOne_78 ?_
        refine X_puti hK fl_X7_22_8 hs_a0 (by decide) sl_8_3 (by omega) (by omega) dX7_readOne_79 (fun g16 hg16 => ?_)
        refine X_aloadn hK (i := 0) 2 dX7_readOne_82 rfl rfl ?_
        refine X_dup hK dX7_readOne_83 rfl ?_
        have hl17 := xTB.lt (A := xv g16 wt) (B := xv g16 wp) (tk := tk) (tl := tl) (c := cn) (a := na) (by rw [(xv_a hg16 (xne hs_wt hs_a0 (by decide))), (xv_a hg16 (xne hs_wp hs_a0 (by decide)))]; exact hp0) (by omega) (by rw [← k5]; omega)
        refine X_getK hK fl_X7_18_8 hs_a0 ((xs_k hg16 (by decide)).trans ena) dX7_readOne_84 ?_
        refine X_iconst hK dX7_readOne_87 ?_
        refine X_iadd hK dX7_readOne_88 ?_
        refine X_puti hK fl_X7_18_8 hs_a0 (by decide) sl_8_2 (by omega) (by omega) dX7_readOne_89 (fun g18 hg18 => ?_)
        refine X_iload hK (i := 4) 0 dX7_readOne_92 rfl ?_
        refine X_if_eq hK 109 (by omega) dX7_readOne_94 (by decide) (fun c19 => ?_) (fun c19 => False.elim (by omega))
        refine X_iloadn hK (i := 3) 1 dX7_readOne_109 rfl rfl ?_
        refine X_bipush hK dX7_readOne_110 (by decide) ?_
        refine X_icmp_ne hK 132 (by omega) (by omega) dX7_readOne_112 (by decide) (fun c20 => ?_) (fun c20 => False.elim (by omega))
        refine X_aloadn hK (i := 0) 2 dX7_readOne_132 rfl rfl ?_
        refine X_aloadn hK (i := 1) 3 dX7_readOne_133 rfl rfl ?_
        refine X_iloadn hK (i := 2) 4 dX7_readOne_134 rfl rfl ?_
        refine X_iconst hK dX7_readOne_135 ?_
        refine X_iadd hK dX7_readOne_136 ?_
        refine X_callV hK [.ref a1, .int (iI (x2 + 1))] [] lk_X7_132 (c3_readOne_8 _ _ _ _ _ S g18 a0 a1 (x2 + 1) (na + 1) (no + 1) nf nq wt wp tk tl cn hs_a0 hs_a1 (by omega) (by omega) (xs_s hg18) (by omega) ((xs_k hg18 (by decide)).trans (xs_s hg16)) (by omega) ((xs_k hg18 (by decide)).trans ((xs_k hg16 (by decide)).trans enf)) (by omega) ((xs_k hg18 (by decide)).trans ((xs_k hg16 (by decide)).trans enq)) ((xs_k hg18 (by decide)).trans ((xs_k hg16 (by decide)).trans ewt)) hs_wt ((xs_k hg18 (by decide)).trans ((xs_k hg16 (by decide)).trans ewp)) hs_wp (by rw [(Eq.trans (xv_a hg18 (xne hs_wt hs_a0 (by decide))) (xv_a hg16 (xne hs_wt hs_a0 (by decide)))), (Eq.trans (xv_a hg18 (xne hs_wp hs_a0 (by decide))) (xv_a hg16 (xne hs_wp hs_a0 (by decide))))]; exact hp0) (by omega) (by omega)) hs_a0 ⟨by decide, rfl⟩ dX7_readOne_137 rfl rfl (by simp [Value.category]) (by decide) (by decide) (by decide) (by decide) (fun r21 S23 g22 pr21 qr21 hg22 => ?_)
        obtain ⟨rfl, rfl, k24⟩ := pr21
        refine X_st [] rfl ?_
        obtain ⟨Ft25, at25, ot25, qt25, eFt25, lFt25, uFt25, eat25, lat25, uat25, eot25, lot25, uot25, eqt25, lqt25, uqt25, kt25⟩ := k24
        have cat25 : at25 ≤ 300 := by have h9 := (show xTB (xv g22 wt) (xv g22 wp) tk tl cn from (by rw [(Eq.trans (Eq.trans (xv_m hg22 hs_wt (by decide) (by decide)) (xv_a hg18 (xne hs_wt hs_a0 (by decide)))) (xv_a hg16 (xne hs_wt hs_a0 (by decide)))), (Eq.trans (Eq.trans (xv_m hg22 hs_wp (by decide) (by decide)) (xv_a hg18 (xne hs_wp hs_a0 (by decide)))) (xv_a hg16 (xne hs_wp hs_a0 (by decide))))]; exact hp0)).2.2.2; omega
        refine X_aloadn hK (i := 1) 3 dX7_readOne_140 rfl rfl ?_
        refine X_bipush hK dX7_readOne_141 (by decide) ?_
        refine X_iconst hK dX7_readOne_143 ?_
        refine X_iconst hK dX7_readOne_144 ?_
        refine X_callV hK [.int (iI 12), .int (iI 0), .int (iI 0)] [] lk_X7_129 (c_X10_addStep _ _ _ _ _ S g22 a1 12 0 0 hs_a1 (by omega) (by omega) (by omega)) hs_a1 ⟨by decide, rfl⟩ dX7_readOne_145 rfl rfl (by simp [Value.category]) (by decide) (by decide) (by decide) (by decide) (fun r26 S28 g27 pr26 qr26 hg27 => ?_)
        obtain ⟨rfl, rfl⟩ := pr26
        refine X_st [] rfl ?_
        exact hret _ _ _ _ _ _ dX7_readOne_148 ⟨rfl, rfl, ⟨Ft25, at25, ot25, qt25, ((hg27 a0 8 0 5 hs_a0 (by decide)).trans eFt25), by omega, by omega, ((hg27 a0 8 0 2 hs_a0 (by decide)).trans eat25), by omega, by omega, ((hg27 a0 8 0 3 hs_a0 (by decide)).trans eot25), by omega, by omega, ((hg27 a0 8 0 6 hs_a0 (by decide)).trans eqt25), by omega, by omega, (xRR.nt (by rw [← k5]; omega) (by omega) kt25)⟩⟩ (Nat.le_refl _) (Nat.le_refl _)
    · refine X_iloadn hK (i := 3) 1 dX7_readOne_35 rfl rfl ?_
      refine X_bipush hK dX7_readOne_36 (by decide) ?_
      refine X_icmp_eq hK 49 (by omega) (by omega) dX7_readOne_38 (by decide) (fun c29 => False.elim (by omega)) (fun c29 => ?_)
      refine X_aloadn hK (i := 0) 2 dX7_readOne_41 rfl rfl ?_
      refine X_iconst hK dX7_readOne_42 ?_
      refine X_callV hK [.int (iI 1)] [] lk_X7_60 (c3_tell _ _ _ _ _ S g a0 1 na no nf nq wt wp tk tl cn hs_a0 (by omega) (by omega) ena (by omega) eno (by omega) enf (by omega) enq ewt hs_wt ewp hs_wp hp0 (by omega) (by omega)) hs_a0 ⟨by decide, rfl⟩ dX7_readOne_43 rfl rfl (by simp [Value.category]) (by decide) (by decide) (by decide) (by decide) (fun r30 S32 g31 pr30 qr30 hg31 => ?_)
      obtain ⟨rfl, rfl, k33⟩ := pr30
      refine X_st [] rfl ?_
      obtain ⟨Ft34, at34, ot34, qt34, eFt34, lFt34, uFt34, eat34, lat34, uat34, eot34, lot34, uot34, eqt34, lqt34, uqt34, kt34⟩ := k33
      have cat34 : at34 ≤ 300 := by have h9 := (show xTB (xv g31 wt) (xv g31 wp) tk tl cn from (by rw [(xv_m hg31 hs_wt (by decide) (by decide)), (xv_m hg31 hs_wp (by decide) (by decide))]; exact hp0)).2.2.2; omega
      refine X_goto hK 148 dX7_readOne_46 (by decide) ?_
      exact hret _ _ _ _ _ _ dX7_readOne_148 ⟨rfl, rfl, ⟨Ft34, at34, ot34, qt34, eFt34, by omega, by omega, eat34, by omega, by omega, eot34, by omega, by omega, eqt34, by omega, by omega, (by obtain ⟨h8, h7, h6⟩ := kt34; have h5 := h8.resolve_left (fun q9 => by omega); rw [h5.2.1]; exact xRR.f1 (by rw [← k5]; omega) h5.2.2)⟩⟩ (Nat.le_refl _) (Nat.le_refl _)
  · refine X_iloadn hK (i := 3) 0 dX7_readOne_11 rfl rfl ?_
    refine X_bipush hK dX7_readOne_12 (by decide) ?_
    refine X_icmp_ge hK 21 (by omega) (by omega) dX7_readOne_14 (by decide) (fun c35 => ?_) (fun c35 => ?_)
    · refine X_iconst hK dX7_readOne_21 ?_
      refine X_istore hK (i := 4) [(4, .int (iI 0)), (3, .int (iI z4)), (0, .ref a0), (1, .ref a1), (2, .int (iI x2))] dX7_readOne_22 (by decide) rfl ?_
      refine X_iload hK (i := 4) 0 dX7_readOne_24 rfl ?_
      refine X_if_ne hK 49 (by omega) dX7_readOne_26 (by decide) (fun c36 => False.elim (by omega)) (fun c36 => ?_)
      refine X_iloadn hK (i := 3) 1 dX7_readOne_29 rfl rfl ?_
      refine X_bipush hK dX7_readOne_30 (by decide) ?_
      refine X_icmp_eq hK 49 (by omega) (by omega) dX7_readOne_32 (by decide) (fun c37 => False.elim (by omega)) (fun c37 => ?_)
      refine X_iloadn hK (i := 3) 1 dX7_readOne_35 rfl rfl ?_
      refine X_bipush hK dX7_readOne_36 (by decide) ?_
      refine X_icmp_eq hK 49 (by omega) (by omega) dX7_readOne_38 (by decide) (fun c38 => ?_) (fun c38 => ?_)
      · refine X_aloadn hK (i := 0) 2 dX7_readOne_49 rfl rfl ?_
        refine X_getK hK fl_X7_22_8 hs_a0 eno dX7_readOne_50 ?_
        refine X_bipush hK dX7_readOne_53 (by decide) ?_
        refine X_icmp_ge hK 64 (by omega) (by omega) dX7_readOne_55 (by decide) (fun c39 => ?_) (fun c39 => ?_)
        · refine X_aloadn hK (i := 0) 2 dX7_readOne_64 rfl rfl ?_
          refine X_iconst hK dX7_readOne_65 ?_
          refine X_callV hK [.int (iI 4)] [] lk_X7_60 (c3_tell _ _ _ _ _ S g a0 4 na no nf nq wt wp tk tl cn hs_a0 (by omega) (by omega) ena (by omega) eno (by omega) enf (by omega) enq ewt hs_wt ewp hs_wp hp0 (by omega) (by omega)) hs_a0 ⟨by decide, rfl⟩ dX7_readOne_66 rfl rfl (by simp [Value.category]) (by decide) (by decide) (by decide) (by decide) (fun r40 S42 g41 pr40 qr40 hg41 => ?_)
          obtain ⟨rfl, rfl, k43⟩ := pr40
          refine X_st [] rfl ?_
          obtain ⟨Ft44, at44, ot44, qt44, eFt44, lFt44, uFt44, eat44, lat44, uat44, eot44, lot44, uot44, eqt44, lqt44, uqt44, kt44⟩ := k43
          have cat44 : at44 ≤ 300 := by have h9 := (show xTB (xv g41 wt) (xv g41 wp) tk tl cn from (by rw [(xv_m hg41 hs_wt (by decide) (by decide)), (xv_m hg41 hs_wp (by decide) (by decide))]; exact hp0)).2.2.2; omega
          refine X_goto hK 148 dX7_readOne_69 (by decide) ?_
          exact hret _ _ _ _ _ _ dX7_readOne_148 ⟨rfl, rfl, ⟨Ft44, at44, ot44, qt44, eFt44, by omega, by omega, eat44, by omega, by omega, eot44, by omega, by omega, eqt44, by omega, by omega, (by obtain ⟨h8, h7, h6⟩ := kt44; have h5 := h8.resolve_left (fun q9 => by omega); rw [h5.2.1]; exact xRR.f4 (by rw [← k5]; omega) (by omega) h5.2.2)⟩⟩ (Nat.le_refl _) (Nat.le_refl _)
        · refine X_iloadn hK (i := 2) 4 dX7_readOne_58 rfl rfl ?_
          refine X_bipush hK dX7_readOne_59 (by decide) ?_
          refine X_icmp_le hK 72 (by omega) (by omega) dX7_readOne_61 (by decide) (fun c45 => ?_) (fun c45 => False.elim (by omega))
          refine X_aloadn hK (i := 0) 2 dX7_readOne_72 rfl rfl ?_
          refine X_dup hK dX7_readOne_73 rfl ?_
          refine X_getK hK fl_X7_22_8 hs_a0 eno dX7_readOne_74 ?_
          refine X_iconst hK dX7_readOne_77 ?_
          refine X_iadd hK dX7_readOne_78 ?_
          refine X_puti hK fl_X7_22_8 hs_a0 (by decide) sl_8_3 (by omega) (by omega) dX7_readOne_79 (fun g46 hg46 => ?_)
          refine X_aloadn hK (i := 0) 2 dX7_readOne_82 rfl rfl ?_
          refine X_dup hK dX7_readOne_83 rfl ?_
          have hl47 := xTB.lt (A := xv g46 wt) (B := xv g46 wp) (tk := tk) (tl := tl) (c := cn) (a := na) (by rw [(xv_a hg46 (xne hs_wt hs_a0 (by decide))), (xv_a hg46 (xne hs_wp hs_a0 (by decide)))]; exact hp0) (by omega) (by rw [← k5]; omega)
          refine X_getK hK fl_X7_18_8 hs_a0 ((xs_k hg46 (by decide)).trans ena) dX7_readOne_84 ?_
          refine X_iconst hK dX7_readOne_87 ?_
          refine X_iadd hK dX7_readOne_88 ?_
          refine X_puti hK fl_X7_18_8 hs_a0 (by decide) sl_8_2 (by omega) (by omega) dX7_readOne_89 (fun g48 hg48 => ?_)
          refine X_iload hK (i := 4) 0 dX7_readOne_92 rfl ?_
          refine X_if_eq hK 109 (by omega) dX7_readOne_94 (by decide) (fun c49 => ?_) (fun c49 => False.elim (by omega))
          refine X_iloadn hK (i := 3) 1 dX7_readOne_109 rfl rfl ?_
          refine X_bipush hK dX7_readOne_110 (by decide) ?_
          refine X_icmp_ne hK 132 (by omega) (by omega) dX7_readOne_112 (by decide) (fun c50 => False.elim (by omega)) (fun c50 => ?_)
          refine X_aloadn hK (i := 0) 2 dX7_readOne_115 rfl rfl ?_
          refine X_aloadn hK (i := 1) 3 dX7_readOne_116 rfl rfl ?_
          refine X_iloadn hK (i := 2) 4 dX7_readOne_117 rfl rfl ?_
          refine X_iconst hK dX7_readOne_118 ?_
          refine X_iadd hK dX7_readOne_119 ?_
          refine X_callV hK [.ref a1, .int (iI (x2 + 1))] [] lk_X7_115 (c3_readCond_8 _ _ _ _ _ S g48 a0 a1 (x2 + 1) (na + 1) (no + 1) nf nq wt wp tk tl cn hs_a0 hs_a1 (by omega) (by omega) (xs_s hg48) (by omega) ((xs_k hg48 (by decide)).trans (xs_s hg46)) (by omega) ((xs_k hg48 (by decide)).trans ((xs_k hg46 (by decide)).trans enf)) (by omega) ((xs_k hg48 (by decide)).trans ((xs_k hg46 (by decide)).trans enq)) ((xs_k hg48 (by decide)).trans ((xs_k hg46 (by decide)).trans ewt)) hs_wt ((xs_k hg48 (by decide)).trans ((xs_k hg46 (by decide)).trans ewp)) hs_wp (by rw [(Eq.trans (xv_a hg48 (xne hs_wt hs_a0 (by decide))) (xv_a hg46 (xne hs_wt hs_a0 (by decide)))), (Eq.trans (xv_a hg48 (xne hs_wp hs_a0 (by decide))) (xv_a hg46 (xne hs_wp hs_a0 (by decide))))]; exact hp0) (by omega) (by omega)) hs_a0 ⟨by decide, rfl⟩ dX7_readOne_120 rfl rfl (by simp [Value.category]) (by decide) (by decide) (by decide) (by decide) (fun r51 S53 g52 pr51 qr51 hg52 => ?_)
          obtain ⟨rfl, rfl, k54⟩ := pr51
          refine X_st [] rfl ?_
          obtain ⟨Ft55, at55, ot55, qt55, eFt55, lFt55, uFt55, eat55, lat55, uat55, eot55, lot55, uot55, eqt55, lqt55, uqt55, kt55⟩ := k54
          have cat55 : at55 ≤ 300 := by have h9 := (show xTB (xv g52 wt) (xv g52 wp) tk tl cn from (by rw [(Eq.trans (Eq.trans (xv_m hg52 hs_wt (by decide) (by decide)) (xv_a hg48 (xne hs_wt hs_a0 (by decide)))) (xv_a hg46 (xne hs_wt hs_a0 (by decide)))), (Eq.trans (Eq.trans (xv_m hg52 hs_wp (by decide) (by decide)) (xv_a hg48 (xne hs_wp hs_a0 (by decide)))) (xv_a hg46 (xne hs_wp hs_a0 (by decide))))]; exact hp0)).2.2.2; omega
          refine X_aloadn hK (i := 0) 2 dX7_readOne_123 rfl rfl ?_
          refine X_bipush hK dX7_readOne_124 (by decide) ?_
          refine X_callV hK [.int (iI 26)] [] lk_X7_119 (c3_expect _ _ _ _ _ S g52 a0 26 at55 ot55 Ft55 qt55 wt wp tk tl cn hs_a0 (by omega) (by omega) eat55 (by omega) eot55 (by omega) eFt55 (by omega) eqt55 ((hg52 a0 8 0 0 hs_a0 (by decide)).trans ((xs_k hg48 (by decide)).trans ((xs_k hg46 (by decide)).trans ewt))) hs_wt ((hg52 a0 8 0 1 hs_a0 (by decide)).trans ((xs_k hg48 (by decide)).trans ((xs_k hg46 (by decide)).trans ewp))) hs_wp (by rw [(Eq.trans (Eq.trans (xv_m hg52 hs_wt (by decide) (by decide)) (xv_a hg48 (xne hs_wt hs_a0 (by decide)))) (xv_a hg46 (xne hs_wt hs_a0 (by decide)))), (Eq.trans (Eq.trans (xv_m hg52 hs_wp (by decide) (by decide)) (xv_a hg48 (xne hs_wp hs_a0 (by decide)))) (xv_a hg46 (xne hs_wp hs_a0 (by decide))))]; exact hp0) (by omega) (by omega)) hs_a0 ⟨by decide, rfl⟩ dX7_readOne_126 rfl rfl (by simp [Value.category]) (by decide) (by decide) (by decide) (by decide) (fun r56 S58 g57 pr56 qr56 hg57 => ?_)
          obtain ⟨rfl, rfl, k59⟩ := pr56
          refine X_st [] rfl ?_
          obtain ⟨Ft60, at60, ot60, qt60, eFt60, lFt60, uFt60, eat60, lat60, uat60, eot60, lot60, uot60, eqt60, lqt60, uqt60, kt60⟩ := k59
          have cat60 : at60 ≤ 300 := by have h9 := (show xTB (xv g57 wt) (xv g57 wp) tk tl cn from (by rw [(Eq.trans (Eq.trans (Eq.trans (xv_m hg57 hs_wt (by decide) (by decide)) (xv_m hg52 hs_wt (by decide) (by decide))) (xv_a hg48 (xne hs_wt hs_a0 (by decide)))) (xv_a hg46 (xne hs_wt hs_a0 (by decide)))), (Eq.trans (Eq.trans (Eq.trans (xv_m hg57 hs_wp (by decide) (by decide)) (xv_m hg52 hs_wp (by decide) (by decide))) (xv_a hg48 (xne hs_wp hs_a0 (by decide)))) (xv_a hg46 (xne hs_wp hs_a0 (by decide))))]; exact hp0)).2.2.2; omega
          refine X_goto hK 148 dX7_readOne_129 (by decide) ?_
          exact hret _ _ _ _ _ _ dX7_readOne_148 ⟨rfl, rfl, ⟨Ft60, at60, ot60, qt60, eFt60, by omega, by omega, eat60, by omega, by omega, eot60, by omega, by omega, eqt60, by omega, by omega, (by obtain ⟨h8, h7⟩ := kt60; by_cases f9 : Ft55 = 0; (rcases h8 with ⟨c1, c2, c3, c4⟩ | ⟨c1, c2, c3⟩; (rw [show Ft60 = 0 by omega, c3, h7]; exact xRR.po (by rw [← k5]; omega) (by omega) (show xRR tk tl 2 (7 + 1) (na + 1) (no + 1) Ft55 at55 ot55 qt55 from kt55) f9 c1); (have c4 := c3.resolve_left (fun q9 => q9.1 f9); rw [c4.2.1]; exact xRR.px (by rw [← k5]; omega) (by omega) (show xRR tk tl 2 (7 + 1) (na + 1) (no + 1) Ft55 at55 ot55 qt55 from kt55) f9 c1 c4.2.2)); (have h6 : Ft60 = Ft55 ∧ qt60 = qt55 := (by omega); rw [h6.1, h6.2]; exact xRR.pf (by rw [← k5]; omega) (by omega) (show xRR tk tl 2 (7 + 1) (na + 1) (no + 1) Ft55 at55 ot55 qt55 from kt55) f9))⟩⟩ (Nat.le_refl _) (Nat.le_refl _)
      · refine X_aloadn hK (i := 0) 2 dX7_readOne_41 rfl rfl ?_
        refine X_iconst hK dX7_readOne_42 ?_
        refine X_callV hK [.int (iI 1)] [] lk_X7_60 (c3_tell _ _ _ _ _ S g a0 1 na no nf nq wt wp tk tl cn hs_a0 (by omega) (by omega) ena (by omega) eno (by omega) enf (by omega) enq ewt hs_wt ewp hs_wp hp0 (by omega) (by omega)) hs_a0 ⟨by decide, rfl⟩ dX7_readOne_43 rfl rfl (by simp [Value.category]) (by decide) (by decide) (by decide) (by decide) (fun r61 S63 g62 pr61 qr61 hg62 => ?_)
        obtain ⟨rfl, rfl, k64⟩ := pr61
        refine X_st [] rfl ?_
        obtain ⟨Ft65, at65, ot65, qt65, eFt65, lFt65, uFt65, eat65, lat65, uat65, eot65, lot65, uot65, eqt65, lqt65, uqt65, kt65⟩ := k64
        have cat65 : at65 ≤ 300 := by have h9 := (show xTB (xv g62 wt) (xv g62 wp) tk tl cn from (by rw [(xv_m hg62 hs_wt (by decide) (by decide)), (xv_m hg62 hs_wp (by decide) (by decide))]; exact hp0)).2.2.2; omega
        refine X_goto hK 148 dX7_readOne_46 (by decide) ?_
        exact hret _ _ _ _ _ _ dX7_readOne_148 ⟨rfl, rfl, ⟨Ft65, at65, ot65, qt65, eFt65, by omega, by omega, eat65, by omega, by omega, eot65, by omega, by omega, eqt65, by omega, by omega, (by obtain ⟨h8, h7, h6⟩ := kt65; have h5 := h8.resolve_left (fun q9 => by omega); rw [h5.2.1]; exact xRR.f1 (by rw [← k5]; omega) h5.2.2)⟩⟩ (Nat.le_refl _) (Nat.le_refl _)
    · refine X_iconst hK dX7_readOne_17 ?_
      refine X_goto hK 22 dX7_readOne_18 (by decide) ?_
      refine X_istore hK (i := 4) [(4, .int (iI 1)), (3, .int (iI z4)), (0, .ref a0), (1, .ref a1), (2, .int (iI x2))] dX7_readOne_22 (by decide) rfl ?_
      refine X_iload hK (i := 4) 0 dX7_readOne_24 rfl ?_
      refine X_if_ne hK 49 (by omega) dX7_readOne_26 (by decide) (fun c66 => ?_) (fun c66 => False.elim (by omega))
      refine X_aloadn hK (i := 0) 2 dX7_readOne_49 rfl rfl ?_
      refine X_getK hK fl_X7_22_8 hs_a0 eno dX7_readOne_50 ?_
      refine X_bipush hK dX7_readOne_53 (by decide) ?_
      refine X_icmp_ge hK 64 (by omega) (by omega) dX7_readOne_55 (by decide) (fun c67 => ?_) (fun c67 => ?_)
      · refine X_aloadn hK (i := 0) 2 dX7_readOne_64 rfl rfl ?_
        refine X_iconst hK dX7_readOne_65 ?_
        refine X_callV hK [.int (iI 4)] [] lk_X7_60 (c3_tell _ _ _ _ _ S g a0 4 na no nf nq wt wp tk tl cn hs_a0 (by omega) (by omega) ena (by omega) eno (by omega) enf (by omega) enq ewt hs_wt ewp hs_wp hp0 (by omega) (by omega)) hs_a0 ⟨by decide, rfl⟩ dX7_readOne_66 rfl rfl (by simp [Value.category]) (by decide) (by decide) (by decide) (by decide) (fun r68 S70 g69 pr68 qr68 hg69 => ?_)
        obtain ⟨rfl, rfl, k71⟩ := pr68
        refine X_st [] rfl ?_
        obtain ⟨Ft72, at72, ot72, qt72, eFt72, lFt72, uFt72, eat72, lat72, uat72, eot72, lot72, uot72, eqt72, lqt72, uqt72, kt72⟩ := k71
        have cat72 : at72 ≤ 300 := by have h9 := (show xTB (xv g69 wt) (xv g69 wp) tk tl cn from (by rw [(xv_m hg69 hs_wt (by decide) (by decide)), (xv_m hg69 hs_wp (by decide) (by decide))]; exact hp0)).2.2.2; omega
        refine X_goto hK 148 dX7_readOne_69 (by decide) ?_
        exact hret _ _ _ _ _ _ dX7_readOne_148 ⟨rfl, rfl, ⟨Ft72, at72, ot72, qt72, eFt72, by omega, by omega, eat72, by omega, by omega, eot72, by omega, by omega, eqt72, by omega, by omega, (by obtain ⟨h8, h7, h6⟩ := kt72; have h5 := h8.resolve_left (fun q9 => by omega); rw [h5.2.1]; exact xRR.f4 (by rw [← k5]; omega) (by omega) h5.2.2)⟩⟩ (Nat.le_refl _) (Nat.le_refl _)
      · refine X_iloadn hK (i := 2) 4 dX7_readOne_58 rfl rfl ?_
        refine X_bipush hK dX7_readOne_59 (by decide) ?_
        refine X_icmp_le hK 72 (by omega) (by omega) dX7_readOne_61 (by decide) (fun c73 => ?_) (fun c73 => False.elim (by omega))
        refine X_aloadn hK (i := 0) 2 dX7_readOne_72 rfl rfl ?_
        refine X_dup hK dX7_readOne_73 rfl ?_
        refine X_getK hK fl_X7_22_8 hs_a0 eno dX7_readOne_74 ?_
        refine X_iconst hK dX7_readOne_77 ?_
        refine X_iadd hK dX7_readOne_78 ?_
        refine X_puti hK fl_X7_22_8 hs_a0 (by decide) sl_8_3 (by omega) (by omega) dX7_readOne_79 (fun g74 hg74 => ?_)
        refine X_aloadn hK (i := 0) 2 dX7_readOne_82 rfl rfl ?_
        refine X_dup hK dX7_readOne_83 rfl ?_
        have hl75 := xTB.lt (A := xv g74 wt) (B := xv g74 wp) (tk := tk) (tl := tl) (c := cn) (a := na) (by rw [(xv_a hg74 (xne hs_wt hs_a0 (by decide))), (xv_a hg74 (xne hs_wp hs_a0 (by decide)))]; exact hp0) (by omega) (by rw [← k5]; omega)
        refine X_getK hK fl_X7_18_8 hs_a0 ((xs_k hg74 (by decide)).trans ena) dX7_readOne_84 ?_
        refine X_iconst hK dX7_readOne_87 ?_
        refine X_iadd hK dX7_readOne_88 ?_
        refine X_puti hK fl_X7_18_8 hs_a0 (by decide) sl_8_2 (by omega) (by omega) dX7_readOne_89 (fun g76 hg76 => ?_)
        refine X_iload hK (i := 4) 0 dX7_readOne_92 rfl ?_
        refine X_if_eq hK 109 (by omega) dX7_readOne_94 (by decide) (fun c77 => False.elim (by omega)) (fun c77 => ?_)
        refine X_aloadn hK (i := 0) 2 dX7_readOne_97 rfl rfl ?_
        refine X_aloadn hK (i := 1) 3 dX7_readOne_98 rfl rfl ?_
        refine X_iloadn hK (i := 3) 1 dX7_readOne_99 rfl rfl ?_
        refine X_bipush hK dX7_readOne_100 (by decide) ?_
        refine X_isub hK dX7_readOne_102 ?_
        refine X_callV hK [.ref a1, .int (iI (z4 - 10))] [] lk_X7_135 (c3_readFact _ _ _ _ _ S g76 a0 a1 (z4 - 10) (na + 1) (no + 1) nf nq wt wp tk tl cn 7 hs_a0 hs_a1 (by omega) (by omega) (xs_s hg76) (by omega) ((xs_k hg76 (by decide)).trans (xs_s hg74)) (by omega) ((xs_k hg76 (by decide)).trans ((xs_k hg74 (by decide)).trans enf)) (by omega) ((xs_k hg76 (by decide)).trans ((xs_k hg74 (by decide)).trans enq)) ((xs_k hg76 (by decide)).trans ((xs_k hg74 (by decide)).trans ewt)) hs_wt ((xs_k hg76 (by decide)).trans ((xs_k hg74 (by decide)).trans ewp)) hs_wp (by rw [(Eq.trans (xv_a hg76 (xne hs_wt hs_a0 (by decide))) (xv_a hg74 (xne hs_wt hs_a0 (by decide)))), (Eq.trans (xv_a hg76 (xne hs_wp hs_a0 (by decide))) (xv_a hg74 (xne hs_wp hs_a0 (by decide))))]; exact hp0) (by omega) (by omega) (by rw [show (na + 1) - 1 = na by omega, ← k5]; omega) (by omega)) hs_a0 ⟨by decide, rfl⟩ dX7_readOne_103 rfl rfl (by simp [Value.category]) (by decide) (by decide) (by decide) (by decide) (fun r78 S80 g79 pr78 qr78 hg79 => ?_)
        obtain ⟨rfl, rfl, k81⟩ := pr78
        refine X_st [] rfl ?_
        obtain ⟨Ft82, at82, ot82, qt82, eFt82, lFt82, uFt82, eat82, lat82, uat82, eot82, lot82, uot82, eqt82, lqt82, uqt82, kt82⟩ := k81
        have cat82 : at82 ≤ 300 := by have h9 := (show xTB (xv g79 wt) (xv g79 wp) tk tl cn from (by rw [(Eq.trans (Eq.trans (xv_m hg79 hs_wt (by decide) (by decide)) (xv_a hg76 (xne hs_wt hs_a0 (by decide)))) (xv_a hg74 (xne hs_wt hs_a0 (by decide)))), (Eq.trans (Eq.trans (xv_m hg79 hs_wp (by decide) (by decide)) (xv_a hg76 (xne hs_wp hs_a0 (by decide)))) (xv_a hg74 (xne hs_wp hs_a0 (by decide))))]; exact hp0)).2.2.2; omega
        refine X_goto hK 148 dX7_readOne_106 (by decide) ?_
        exact hret _ _ _ _ _ _ dX7_readOne_148 ⟨rfl, rfl, ⟨Ft82, at82, ot82, qt82, eFt82, by omega, by omega, eat82, by omega, by omega, eot82, by omega, by omega, eqt82, by omega, by omega, (by have h9 := kt82; rw [show na + 1 - 1 = na by omega, show no + 1 - 1 = no by omega] at h9; exact h9)⟩⟩ (Nat.le_refl _) (Nat.le_refl _)

set_option maxHeartbeats 4000000 in
set_option maxRecDepth 100000 in
theorem c3_readAll_7 (l : Launch) (D : va_G) (kA : Nat → ClassId) (b0 : Nat) (t0 : Nat → Nat) (S : xT) (g : xG) (a0 : Nat) (a1 : Nat) (x2 : Int) (na : Int) (no : Int) (nf : Int) (nq : Int) (wt : Nat) (wp : Nat) (tk : Int → Int) (tl : Int → Int) (cn : Int) (hs_a0 : S a0 = some (8, 0)) (hs_a1 : S a1 = some (11, 0)) (hx2 : 7 ≤ x2 ∧ x2 ≤ 7) (hna : 0 ≤ na ∧ na ≤ 300) (ena : g a0 2 = .int (iI na)) (hno : 0 ≤ no ∧ no ≤ 50) (eno : g a0 3 = .int (iI no)) (hnf : 0 ≤ nf ∧ nf ≤ 0) (enf : g a0 5 = .int (iI nf)) (hnq : 0 ≤ nq ∧ nq ≤ 300) (enq : g a0 6 = .int (iI nq)) (ewt : g a0 0 = .ref wt) (hs_wt : S wt = some (12900, 301)) (ewp : g a0 1 = .ref wp) (hs_wp : S wp = some (13000, 301)) (hp0 : xTB (xv g wt) (xv g wp) tk tl cn) (hp1 : na ≤ cn) (hp2 : cn ≤ 300) : xMt l yX7_readAll cX7_readAll 4 none 14 0 0 325 D kA b0 t0 [(8, 5), (8, 6), (8, 3), (8, 2), (14000, 0), (11, 2)] [.ref a0, .ref a1, .int (iI x2)] S g (fun (r : Option Value) (S1 : xT) (g1 : xG) => S = S1 ∧ r = none ∧ (∃ F a o q : Int, g1 a0 5 = .int (iI F) ∧ -2147483648 ≤ F ∧ F ≤ 2147483647 ∧ g1 a0 2 = .int (iI a) ∧ 0 ≤ a ∧ a ≤ cn ∧ g1 a0 3 = .int (iI o) ∧ 0 ≤ o ∧ o ≤ 50 ∧ g1 a0 6 = .int (iI q) ∧ 0 ≤ q ∧ q ≤ 300 ∧ xRR tk tl 1 7 na no F a o q)) := by
  refine xEnterV (by decide) (by simp [lg_sl, Value.category]) [(0, .ref a0), (1, .ref a1), (2, .int (iI x2))] rfl ?_
  intro K E hK hret _ _ _
  refine X_aloadn hK (i := 0) 0 dX7_readAll_0 rfl rfl ?_
  refine X_aloadn hK (i := 1) 1 dX7_readAll_1 rfl rfl ?_
  refine X_iloadn hK (i := 2) 2 dX7_readAll_2 rfl rfl ?_
  refine X_callV hK [.ref a1, .int (iI x2)] [] lk_X7_132 (c3_readOne_7 _ _ _ _ _ S g a0 a1 x2 na no nf nq wt wp tk tl cn hs_a0 hs_a1 (by omega) (by omega) ena (by omega) eno (by omega) enf (by omega) enq ewt hs_wt ewp hs_wp hp0 (by omega) (by omega)) hs_a0 ⟨by decide, rfl⟩ dX7_readAll_3 rfl rfl (by simp [Value.category]) (by decide) (by decide) (by decide) (by decide) (fun r1 S3 g2 pr1 qr1 hg2 => ?_)
  obtain ⟨rfl, rfl, k4⟩ := pr1
  refine X_st [] rfl ?_
  obtain ⟨Ft5, at5, ot5, qt5, eFt5, lFt5, uFt5, eat5, lat5, uat5, eot5, lot5, uot5, eqt5, lqt5, uqt5, kt5⟩ := k4
  have cat5 : at5 ≤ 300 := by have h9 := (show xTB (xv g2 wt) (xv g2 wp) tk tl cn from (by rw [(xv_m hg2 hs_wt (by decide) (by decide)), (xv_m hg2 hs_wp (by decide) (by decide))]; exact hp0)).2.2.2; omega
  refine X_iconst hK dX7_readAll_6 ?_
  refine X_istoren hK (i := 3) [(3, .int (iI 0)), (0, .ref a0), (1, .ref a1), (2, .int (iI x2))] dX7_readAll_7 rfl (by decide) rfl ?_
  have P120 : ∀ (nP120 : Nat) (g98 : xG) (_ : xM [(14000, 0), (11, 2), (8, 5), (8, 6), (8, 3), (8, 2)] S g2 g98) (z97 : Int) (_ : 0 ≤ z97) (_ : z97 ≤ 50) (q99 : Int) (_ : 0 ≤ q99) (_ : q99 ≤ 300) (_ : g98 a0 2 = .int (iI q99)) (q100 : Int) (_ : 0 ≤ q100) (_ : q100 ≤ 50) (_ : g98 a0 3 = .int (iI q100)) (q101 : Int) (_ : (-2147483648) ≤ q101) (_ : q101 ≤ 2147483647) (_ : g98 a0 5 = .int (iI q101)) (q102 : Int) (_ : 0 ≤ q102) (_ : q102 ≤ 300) (_ : g98 a0 6 = .int (iI q102)) (_ : xIn tk tl 1 7 na no q101 q99 q100 q102) (_ : q101 = 0 → no + 1 + z97 ≤ q100) (_ : q99 ≤ cn) (_ : 60 - z97 < (nP120 : Int)), X K E 8 [(3, .int (iI z97)), (0, .ref a0), (1, .ref a1), (2, .int (iI x2))] [] S g98 0 0 := by
    intro nP120
    induction nP120 with
    | zero => intro g98 hg98 z97 lz97 uz97 q99 lq99 uq99 eq99 q100 lq100 uq100 eq100 q101 lq101 uq101 eq101 q102 lq102 uq102 eq102 v121 v122 v123 mP120; exact False.elim (by omega)
    | succ nP120 ihP120 =>
      intro g98 hg98 z97 lz97 uz97 q99 lq99 uq99 eq99 q100 lq100 uq100 eq100 q101 lq101 uq101 eq101 q102 lq102 uq102 eq102 v121 v122 v123 mP120
      refine X_iloadn hK (i := 3) 0 dX7_readAll_8 rfl rfl ?_
      refine X_bipush hK dX7_readAll_9 (by decide) ?_
      refine X_icmp_ge hK 60 (by omega) (by omega) dX7_readAll_11 (by decide) (fun c124 => ?_) (fun c124 => ?_)
      · exact hret _ _ _ _ _ _ dX7_readAll_60 ⟨rfl, rfl, ⟨q101, q99, q100, q102, eq101, by omega, by omega, eq99, by omega, by omega, eq100, by omega, by omega, eq102, by omega, by omega, (xIn.e v121 (fun h9 => False.elim (by have h8 := v122 h9; omega)))⟩⟩ (Nat.le_refl _) (Nat.le_refl _)
      · refine X_aloadn hK (i := 0) 1 dX7_readAll_14 rfl rfl ?_
        refine X_getK hK fl_X7_29_8 hs_a0 eq101 dX7_readAll_15 ?_
        refine X_if_ne hK 60 (by omega) dX7_readAll_18 (by decide) (fun c125 => ?_) (fun c125 => ?_)
        · exact hret _ _ _ _ _ _ dX7_readAll_60 ⟨rfl, rfl, ⟨q101, q99, q100, q102, eq101, by omega, by omega, eq99, by omega, by omega, eq100, by omega, by omega, eq102, by omega, by omega, (xIn.e v121 (fun h9 => False.elim (by have h8 := v122 h9; omega)))⟩⟩ (Nat.le_refl _) (Nat.le_refl _)
        · refine X_aloadn hK (i := 0) 1 dX7_readAll_21 rfl rfl ?_
          refine X_callV hK [] [] lk_X7_47 (c3_now _ _ _ _ _ S g98 a0 q99 wt wp tk tl cn hs_a0 (by omega) eq99 ((hg98 a0 8 0 0 hs_a0 (by decide)).trans ((hg2 a0 8 0 0 hs_a0 (by decide)).trans ewt)) hs_wt ((hg98 a0 8 0 1 hs_a0 (by decide)).trans ((hg2 a0 8 0 1 hs_a0 (by decide)).trans ewp)) hs_wp (by rw [(Eq.trans (xv_m hg98 hs_wt (by decide) (by decide)) (xv_m hg2 hs_wt (by decide) (by decide))), (Eq.trans (xv_m hg98 hs_wp (by decide) (by decide)) (xv_m hg2 hs_wp (by decide) (by decide)))]; exact hp0) (by omega) (by omega)) hs_a0 ⟨by decide, rfl⟩ dX7_readAll_22 rfl rfl (by simp [Value.category]) (by decide) (by decide) (by decide) (by decide) (fun r126 S128 g127 pr126 qr126 hg127 => ?_)
          obtain ⟨rfl, rfl, z129, rfl, lz129, uz129, k130⟩ := pr126
          refine X_st [.int (iI z129)] rfl ?_
          refine X_bipush hK dX7_readAll_25 (by decide) ?_
          refine X_icmp_ne hK 60 (by omega) (by omega) dX7_readAll_27 (by decide) (fun c131 => ?_) (fun c131 => ?_)
          · exact hret _ _ _ _ _ _ dX7_readAll_60 ⟨rfl, rfl, ⟨q101, q99, q100, q102, eq101, by omega, by omega, eq99, by omega, by omega, eq100, by omega, by omega, eq102, by omega, by omega, (xIn.e v121 (fun h9 => Or.inl ⟨rfl, by rw [← k130]; omega⟩))⟩⟩ (Nat.le_refl _) (Nat.le_refl _)
          · refine X_aloadn hK (i := 0) 1 dX7_readAll_30 rfl rfl ?_
            refine X_dup hK dX7_readAll_31 rfl ?_
            have hl132 := xTB.lt (A := xv g98 wt) (B := xv g98 wp) (tk := tk) (tl := tl) (c := cn) (a := q99) (by rw [(Eq.trans (xv_m hg98 hs_wt (by decide) (by decide)) (xv_m hg2 hs_wt (by decide) (by decide))), (Eq.trans (xv_m hg98 hs_wp (by decide) (by decide)) (xv_m hg2 hs_wp (by decide) (by decide)))]; exact hp0) (by omega) (by rw [← k130]; omega)
            refine X_getK hK fl_X7_18_8 hs_a0 eq99 dX7_readAll_32 ?_
            refine X_iconst hK dX7_readAll_35 ?_
            refine X_iadd hK dX7_readAll_36 ?_
            refine X_puti hK fl_X7_18_8 hs_a0 (by decide) sl_8_2 (by omega) (by omega) dX7_readAll_37 (fun g133 hg133 => ?_)
            refine X_aloadn hK (i := 0) 1 dX7_readAll_40 rfl rfl ?_
            refine X_aloadn hK (i := 1) 2 dX7_readAll_41 rfl rfl ?_
            refine X_iloadn hK (i := 2) 3 dX7_readAll_42 rfl rfl ?_
            refine X_callV hK [.ref a1, .int (iI x2)] [] lk_X7_132 (c3_readOne_7 _ _ _ _ _ S g133 a0 a1 x2 (q99 + 1) q100 q101 q102 wt wp tk tl cn hs_a0 hs_a1 (by omega) (by omega) (xs_s hg133) (by omega) ((xs_k hg133 (by decide)).trans eq100) (by omega) ((xs_k hg133 (by decide)).trans eq101) (by omega) ((xs_k hg133 (by decide)).trans eq102) ((xs_k hg133 (by decide)).trans ((hg98 a0 8 0 0 hs_a0 (by decide)).trans ((hg2 a0 8 0 0 hs_a0 (by decide)).trans ewt))) hs_wt ((xs_k hg133 (by decide)).trans ((hg98 a0 8 0 1 hs_a0 (by decide)).trans ((hg2 a0 8 0 1 hs_a0 (by decide)).trans ewp))) hs_wp (by rw [(Eq.trans (Eq.trans (xv_a hg133 (xne hs_wt hs_a0 (by decide))) (xv_m hg98 hs_wt (by decide) (by decide))) (xv_m hg2 hs_wt (by decide) (by decide))), (Eq.trans (Eq.trans (xv_a hg133 (xne hs_wp hs_a0 (by decide))) (xv_m hg98 hs_wp (by decide) (by decide))) (xv_m hg2 hs_wp (by decide) (by decide)))]; exact hp0) (by omega) (by omega)) hs_a0 ⟨by decide, rfl⟩ dX7_readAll_43 rfl rfl (by simp [Value.category]) (by decide) (by decide) (by decide) (by decide) (fun r134 S136 g135 pr134 qr134 hg135 => ?_)
            obtain ⟨rfl, rfl, k137⟩ := pr134
            refine X_st [] rfl ?_
            obtain ⟨Ft138, at138, ot138, qt138, eFt138, lFt138, uFt138, eat138, lat138, uat138, eot138, lot138, uot138, eqt138, lqt138, uqt138, kt138⟩ := k137
            have cat138 : at138 ≤ 300 := by have h9 := (show xTB (xv g135 wt) (xv g135 wp) tk tl cn from (by rw [(Eq.trans (Eq.trans (Eq.trans (xv_m hg135 hs_wt (by decide) (by decide)) (xv_a hg133 (xne hs_wt hs_a0 (by decide)))) (xv_m hg98 hs_wt (by decide) (by decide))) (xv_m hg2 hs_wt (by decide) (by decide))), (Eq.trans (Eq.trans (Eq.trans (xv_m hg135 hs_wp (by decide) (by decide)) (xv_a hg133 (xne hs_wp hs_a0 (by decide)))) (xv_m hg98 hs_wp (by decide) (by decide))) (xv_m hg2 hs_wp (by decide) (by decide)))]; exact hp0)).2.2.2; omega
            refine X_aloadn hK (i := 1) 2 dX7_readAll_46 rfl rfl ?_
            refine X_bipush hK dX7_readAll_47 (by decide) ?_
            refine X_iconst hK dX7_readAll_49 ?_
            refine X_iconst hK dX7_readAll_50 ?_
            refine X_callV hK [.int (iI 13), .int (iI 0), .int (iI 0)] [] lk_X7_129 (c_X10_addStep _ _ _ _ _ S g135 a1 13 0 0 hs_a1 (by omega) (by omega) (by omega)) hs_a1 ⟨by decide, rfl⟩ dX7_readAll_51 rfl rfl (by simp [Value.category]) (by decide) (by decide) (by decide) (by decide) (fun r139 S141 g140 pr139 qr139 hg140 => ?_)
            obtain ⟨rfl, rfl⟩ := pr139
            refine X_st [] rfl ?_
            refine X_iinc hK (i := 3) (z := z97) (n := 1) 0 [(3, .int (iI (z97 + 1))), (0, .ref a0), (1, .ref a1), (2, .int (iI x2))] dX7_readAll_54 rfl (by decide) rfl ?_
            refine X_goto hK 8 dX7_readAll_57 (by decide) ?_
            exact ihP120  g140 (xM.tr (xM.tr (xM_up (xM.tr xM.rf xLe.rf hg98 (by decide)) hg133 hs_a0 (by decide) (by decide)) xLe.rf hg135 (by decide)) xLe.rf hg140 (by decide)) (z97 + 1) (by omega) (by omega) at138 (by omega) (by omega) ((hg140 a0 8 0 2 hs_a0 (by decide)).trans eat138) ot138 (by omega) (by omega) ((hg140 a0 8 0 3 hs_a0 (by decide)).trans eot138) Ft138 (by omega) (by omega) ((hg140 a0 8 0 5 hs_a0 (by decide)).trans eFt138) qt138 (by omega) (by omega) ((hg140 a0 8 0 6 hs_a0 (by decide)).trans eqt138) (xIn.s (Or.inl ⟨rfl, rfl, (by rw [← k130]; omega)⟩) v121 (by omega) kt138) (fun h9 => by have h8 := xRR.b kt138 h9; omega) (by omega) (by omega)
  exact P120 ((60 - 0 : Int).toNat + 1) g2 xM.rf 0 (by omega) (by omega) at5 (by omega) (by omega) eat5 ot5 (by omega) (by omega) eot5 Ft5 (by omega) (by omega) eFt5 qt5 (by omega) (by omega) eqt5 (xIn.z (Or.inl ⟨rfl, rfl⟩) kt5) (fun h9 => by have h8 := xRR.b kt5 h9; omega) (by omega) (by omega)

set_option maxHeartbeats 4000000 in
set_option maxRecDepth 100000 in
theorem c3_readCond_7 (l : Launch) (D : va_G) (kA : Nat → ClassId) (b0 : Nat) (t0 : Nat → Nat) (S : xT) (g : xG) (a0 : Nat) (a1 : Nat) (x2 : Int) (na : Int) (no : Int) (nf : Int) (nq : Int) (wt : Nat) (wp : Nat) (tk : Int → Int) (tl : Int → Int) (cn : Int) (hs_a0 : S a0 = some (8, 0)) (hs_a1 : S a1 = some (11, 0)) (hx2 : 7 ≤ x2 ∧ x2 ≤ 7) (hna : 0 ≤ na ∧ na ≤ 300) (ena : g a0 2 = .int (iI na)) (hno : 0 ≤ no ∧ no ≤ 50) (eno : g a0 3 = .int (iI no)) (hnf : 0 ≤ nf ∧ nf ≤ 0) (enf : g a0 5 = .int (iI nf)) (hnq : 0 ≤ nq ∧ nq ≤ 300) (enq : g a0 6 = .int (iI nq)) (ewt : g a0 0 = .ref wt) (hs_wt : S wt = some (12900, 301)) (ewp : g a0 1 = .ref wp) (hs_wp : S wp = some (13000, 301)) (hp0 : xTB (xv g wt) (xv g wp) tk tl cn) (hp1 : na ≤ cn) (hp2 : cn ≤ 300) : xMt l yX7_readCond cX7_readCond 4 none 15 0 0 348 D kA b0 t0 [(8, 5), (8, 6), (8, 3), (8, 2), (14000, 0), (11, 2)] [.ref a0, .ref a1, .int (iI x2)] S g (fun (r : Option Value) (S1 : xT) (g1 : xG) => S = S1 ∧ r = none ∧ (∃ F a o q : Int, g1 a0 5 = .int (iI F) ∧ -2147483648 ≤ F ∧ F ≤ 2147483647 ∧ g1 a0 2 = .int (iI a) ∧ 0 ≤ a ∧ a ≤ cn ∧ g1 a0 3 = .int (iI o) ∧ 0 ≤ o ∧ o ≤ 50 ∧ g1 a0 6 = .int (iI q) ∧ 0 ≤ q ∧ q ≤ 300 ∧ xRR tk tl 2 7 na no F a o q)) := by
  refine xEnterV (by decide) (by simp [lg_sl, Value.category]) [(0, .ref a0), (1, .ref a1), (2, .int (iI x2))] rfl ?_
  intro K E hK hret _ _ _
  refine X_aloadn hK (i := 0) 0 dX7_readCond_0 rfl rfl ?_
  refine X_aloadn hK (i := 1) 1 dX7_readCond_1 rfl rfl ?_
  refine X_iloadn hK (i := 2) 2 dX7_readCond_2 rfl rfl ?_
  refine X_callV hK [.ref a1, .int (iI x2)] [] lk_X7_126 (c3_readAll_7 _ _ _ _ _ S g a0 a1 x2 na no nf nq wt wp tk tl cn hs_a0 hs_a1 (by omega) (by omega) ena (by omega) eno (by omega) enf (by omega) enq ewt hs_wt ewp hs_wp hp0 (by omega) (by omega)) hs_a0 ⟨by decide, rfl⟩ dX7_readCond_3 rfl rfl (by simp [Value.category]) (by decide) (by decide) (by decide) (by decide) (fun r1 S3 g2 pr1 qr1 hg2 => ?_)
  obtain ⟨rfl, rfl, k4⟩ := pr1
  refine X_st [] rfl ?_
  obtain ⟨Ft5, at5, ot5, qt5, eFt5, lFt5, uFt5, eat5, lat5, uat5, eot5, lot5, uot5, eqt5, lqt5, uqt5, kt5⟩ := k4
  have cat5 : at5 ≤ 300 := by have h9 := (show xTB (xv g2 wt) (xv g2 wp) tk tl cn from (by rw [(xv_m hg2 hs_wt (by decide) (by decide)), (xv_m hg2 hs_wp (by decide) (by decide))]; exact hp0)).2.2.2; omega
  refine X_iconst hK dX7_readCond_6 ?_
  refine X_istoren hK (i := 3) [(3, .int (iI 0)), (0, .ref a0), (1, .ref a1), (2, .int (iI x2))] dX7_readCond_7 rfl (by decide) rfl ?_
  have P120 : ∀ (nP120 : Nat) (g98 : xG) (_ : xM [(14000, 0), (11, 2), (8, 5), (8, 6), (8, 3), (8, 2)] S g2 g98) (z97 : Int) (_ : 0 ≤ z97) (_ : z97 ≤ 50) (q99 : Int) (_ : 0 ≤ q99) (_ : q99 ≤ 300) (_ : g98 a0 2 = .int (iI q99)) (q100 : Int) (_ : 0 ≤ q100) (_ : q100 ≤ 50) (_ : g98 a0 3 = .int (iI q100)) (q101 : Int) (_ : (-2147483648) ≤ q101) (_ : q101 ≤ 2147483647) (_ : g98 a0 5 = .int (iI q101)) (q102 : Int) (_ : 0 ≤ q102) (_ : q102 ≤ 300) (_ : g98 a0 6 = .int (iI q102)) (_ : xIn tk tl 2 7 na no q101 q99 q100 q102) (_ : q101 = 0 → no + 1 + z97 ≤ q100) (_ : q99 ≤ cn) (_ : 60 - z97 < (nP120 : Int)), X K E 8 [(3, .int (iI z97)), (0, .ref a0), (1, .ref a1), (2, .int (iI x2))] [] S g98 0 0 := by
    intro nP120
    induction nP120 with
    | zero => intro g98 hg98 z97 lz97 uz97 q99 lq99 uq99 eq99 q100 lq100 uq100 eq100 q101 lq101 uq101 eq101 q102 lq102 uq102 eq102 v121 v122 v123 mP120; exact False.elim (by omega)
    | succ nP120 ihP120 =>
      intro g98 hg98 z97 lz97 uz97 q99 lq99 uq99 eq99 q100 lq100 uq100 eq100 q101 lq101 uq101 eq101 q102 lq102 uq102 eq102 v121 v122 v123 mP120
      refine X_iloadn hK (i := 3) 0 dX7_readCond_8 rfl rfl ?_
      refine X_bipush hK dX7_readCond_9 (by decide) ?_
      refine X_icmp_ge hK 60 (by omega) (by omega) dX7_readCond_11 (by decide) (fun c124 => ?_) (fun c124 => ?_)
      · exact hret _ _ _ _ _ _ dX7_readCond_60 ⟨rfl, rfl, ⟨q101, q99, q100, q102, eq101, by omega, by omega, eq99, by omega, by omega, eq100, by omega, by omega, eq102, by omega, by omega, (xIn.e v121 (fun h9 => False.elim (by have h8 := v122 h9; omega)))⟩⟩ (Nat.le_refl _) (Nat.le_refl _)
      · refine X_aloadn hK (i := 0) 1 dX7_readCond_14 rfl rfl ?_
        refine X_getK hK fl_X7_29_8 hs_a0 eq101 dX7_readCond_15 ?_
        refine X_if_ne hK 60 (by omega) dX7_readCond_18 (by decide) (fun c125 => ?_) (fun c125 => ?_)
        · exact hret _ _ _ _ _ _ dX7_readCond_60 ⟨rfl, rfl, ⟨q101, q99, q100, q102, eq101, by omega, by omega, eq99, by omega, by omega, eq100, by omega, by omega, eq102, by omega, by omega, (xIn.e v121 (fun h9 => False.elim (by have h8 := v122 h9; omega)))⟩⟩ (Nat.le_refl _) (Nat.le_refl _)
        · refine X_aloadn hK (i := 0) 1 dX7_readCond_21 rfl rfl ?_
          refine X_callV hK [] [] lk_X7_47 (c3_now _ _ _ _ _ S g98 a0 q99 wt wp tk tl cn hs_a0 (by omega) eq99 ((hg98 a0 8 0 0 hs_a0 (by decide)).trans ((hg2 a0 8 0 0 hs_a0 (by decide)).trans ewt)) hs_wt ((hg98 a0 8 0 1 hs_a0 (by decide)).trans ((hg2 a0 8 0 1 hs_a0 (by decide)).trans ewp)) hs_wp (by rw [(Eq.trans (xv_m hg98 hs_wt (by decide) (by decide)) (xv_m hg2 hs_wt (by decide) (by decide))), (Eq.trans (xv_m hg98 hs_wp (by decide) (by decide)) (xv_m hg2 hs_wp (by decide) (by decide)))]; exact hp0) (by omega) (by omega)) hs_a0 ⟨by decide, rfl⟩ dX7_readCond_22 rfl rfl (by simp [Value.category]) (by decide) (by decide) (by decide) (by decide) (fun r126 S128 g127 pr126 qr126 hg127 => ?_)
          obtain ⟨rfl, rfl, z129, rfl, lz129, uz129, k130⟩ := pr126
          refine X_st [.int (iI z129)] rfl ?_
          refine X_bipush hK dX7_readCond_25 (by decide) ?_
          refine X_icmp_ne hK 60 (by omega) (by omega) dX7_readCond_27 (by decide) (fun c131 => ?_) (fun c131 => ?_)
          · exact hret _ _ _ _ _ _ dX7_readCond_60 ⟨rfl, rfl, ⟨q101, q99, q100, q102, eq101, by omega, by omega, eq99, by omega, by omega, eq100, by omega, by omega, eq102, by omega, by omega, (xIn.e v121 (fun h9 => Or.inr ⟨rfl, by rw [← k130]; omega⟩))⟩⟩ (Nat.le_refl _) (Nat.le_refl _)
          · refine X_aloadn hK (i := 0) 1 dX7_readCond_30 rfl rfl ?_
            refine X_dup hK dX7_readCond_31 rfl ?_
            have hl132 := xTB.lt (A := xv g98 wt) (B := xv g98 wp) (tk := tk) (tl := tl) (c := cn) (a := q99) (by rw [(Eq.trans (xv_m hg98 hs_wt (by decide) (by decide)) (xv_m hg2 hs_wt (by decide) (by decide))), (Eq.trans (xv_m hg98 hs_wp (by decide) (by decide)) (xv_m hg2 hs_wp (by decide) (by decide)))]; exact hp0) (by omega) (by rw [← k130]; omega)
            refine X_getK hK fl_X7_18_8 hs_a0 eq99 dX7_readCond_32 ?_
            refine X_iconst hK dX7_readCond_35 ?_
            refine X_iadd hK dX7_readCond_36 ?_
            refine X_puti hK fl_X7_18_8 hs_a0 (by decide) sl_8_2 (by omega) (by omega) dX7_readCond_37 (fun g133 hg133 => ?_)
            refine X_aloadn hK (i := 0) 1 dX7_readCond_40 rfl rfl ?_
            refine X_aloadn hK (i := 1) 2 dX7_readCond_41 rfl rfl ?_
            refine X_iloadn hK (i := 2) 3 dX7_readCond_42 rfl rfl ?_
            refine X_callV hK [.ref a1, .int (iI x2)] [] lk_X7_126 (c3_readAll_7 _ _ _ _ _ S g133 a0 a1 x2 (q99 + 1) q100 q101 q102 wt wp tk tl cn hs_a0 hs_a1 (by omega) (by omega) (xs_s hg133) (by omega) ((xs_k hg133 (by decide)).trans eq100) (by omega) ((xs_k hg133 (by decide)).trans eq101) (by omega) ((xs_k hg133 (by decide)).trans eq102) ((xs_k hg133 (by decide)).trans ((hg98 a0 8 0 0 hs_a0 (by decide)).trans ((hg2 a0 8 0 0 hs_a0 (by decide)).trans ewt))) hs_wt ((xs_k hg133 (by decide)).trans ((hg98 a0 8 0 1 hs_a0 (by decide)).trans ((hg2 a0 8 0 1 hs_a0 (by decide)).trans ewp))) hs_wp (by rw [(Eq.trans (Eq.trans (xv_a hg133 (xne hs_wt hs_a0 (by decide))) (xv_m hg98 hs_wt (by decide) (by decide))) (xv_m hg2 hs_wt (by decide) (by decide))), (Eq.trans (Eq.trans (xv_a hg133 (xne hs_wp hs_a0 (by decide))) (xv_m hg98 hs_wp (by decide) (by decide))) (xv_m hg2 hs_wp (by decide) (by decide)))]; exact hp0) (by omega) (by omega)) hs_a0 ⟨by decide, rfl⟩ dX7_readCond_43 rfl rfl (by simp [Value.category]) (by decide) (by decide) (by decide) (by decide) (fun r134 S136 g135 pr134 qr134 hg135 => ?_)
            obtain ⟨rfl, rfl, k137⟩ := pr134
            refine X_st [] rfl ?_
            obtain ⟨Ft138, at138, ot138, qt138, eFt138, lFt138, uFt138, eat138, lat138, uat138, eot138, lot138, uot138, eqt138, lqt138, uqt138, kt138⟩ := k137
            have cat138 : at138 ≤ 300 := by have h9 := (show xTB (xv g135 wt) (xv g135 wp) tk tl cn from (by rw [(Eq.trans (Eq.trans (Eq.trans (xv_m hg135 hs_wt (by decide) (by decide)) (xv_a hg133 (xne hs_wt hs_a0 (by decide)))) (xv_m hg98 hs_wt (by decide) (by decide))) (xv_m hg2 hs_wt (by decide) (by decide))), (Eq.trans (Eq.trans (Eq.trans (xv_m hg135 hs_wp (by decide) (by decide)) (xv_a hg133 (xne hs_wp hs_a0 (by decide)))) (xv_m hg98 hs_wp (by decide) (by decide))) (xv_m hg2 hs_wp (by decide) (by decide)))]; exact hp0)).2.2.2; omega
            refine X_aloadn hK (i := 1) 2 dX7_readCond_46 rfl rfl ?_
            refine X_bipush hK dX7_readCond_47 (by decide) ?_
            refine X_iconst hK dX7_readCond_49 ?_
            refine X_iconst hK dX7_readCond_50 ?_
            refine X_callV hK [.int (iI 14), .int (iI 0), .int (iI 0)] [] lk_X7_129 (c_X10_addStep _ _ _ _ _ S g135 a1 14 0 0 hs_a1 (by omega) (by omega) (by omega)) hs_a1 ⟨by decide, rfl⟩ dX7_readCond_51 rfl rfl (by simp [Value.category]) (by decide) (by decide) (by decide) (by decide) (fun r139 S141 g140 pr139 qr139 hg140 => ?_)
            obtain ⟨rfl, rfl⟩ := pr139
            refine X_st [] rfl ?_
            refine X_iinc hK (i := 3) (z := z97) (n := 1) 0 [(3, .int (iI (z97 + 1))), (0, .ref a0), (1, .ref a1), (2, .int (iI x2))] dX7_readCond_54 rfl (by decide) rfl ?_
            refine X_goto hK 8 dX7_readCond_57 (by decide) ?_
            exact ihP120  g140 (xM.tr (xM.tr (xM_up (xM.tr xM.rf xLe.rf hg98 (by decide)) hg133 hs_a0 (by decide) (by decide)) xLe.rf hg135 (by decide)) xLe.rf hg140 (by decide)) (z97 + 1) (by omega) (by omega) at138 (by omega) (by omega) ((hg140 a0 8 0 2 hs_a0 (by decide)).trans eat138) ot138 (by omega) (by omega) ((hg140 a0 8 0 3 hs_a0 (by decide)).trans eot138) Ft138 (by omega) (by omega) ((hg140 a0 8 0 5 hs_a0 (by decide)).trans eFt138) qt138 (by omega) (by omega) ((hg140 a0 8 0 6 hs_a0 (by decide)).trans eqt138) (xIn.s (Or.inr ⟨rfl, rfl, (by rw [← k130]; omega)⟩) v121 (by omega) kt138) (fun h9 => by have h8 := xRR.b1 kt138 h9; omega) (by omega) (by omega)
  exact P120 ((60 - 0 : Int).toNat + 1) g2 xM.rf 0 (by omega) (by omega) at5 (by omega) (by omega) eat5 ot5 (by omega) (by omega) eot5 Ft5 (by omega) (by omega) eFt5 qt5 (by omega) (by omega) eqt5 (xIn.z (Or.inr ⟨rfl, rfl⟩) kt5) (fun h9 => by have h8 := xRR.b1 kt5 h9; omega) (by omega) (by omega)

set_option maxHeartbeats 4000000 in
set_option maxRecDepth 100000 in
theorem c3_readOne_6 (l : Launch) (D : va_G) (kA : Nat → ClassId) (b0 : Nat) (t0 : Nat → Nat) (S : xT) (g : xG) (a0 : Nat) (a1 : Nat) (x2 : Int) (na : Int) (no : Int) (nf : Int) (nq : Int) (wt : Nat) (wp : Nat) (tk : Int → Int) (tl : Int → Int) (cn : Int) (hs_a0 : S a0 = some (8, 0)) (hs_a1 : S a1 = some (11, 0)) (hx2 : 6 ≤ x2 ∧ x2 ≤ 6) (hna : 0 ≤ na ∧ na ≤ 300) (ena : g a0 2 = .int (iI na)) (hno : 0 ≤ no ∧ no ≤ 50) (eno : g a0 3 = .int (iI no)) (hnf : 0 ≤ nf ∧ nf ≤ 0) (enf : g a0 5 = .int (iI nf)) (hnq : 0 ≤ nq ∧ nq ≤ 300) (enq : g a0 6 = .int (iI nq)) (ewt : g a0 0 = .ref wt) (hs_wt : S wt = some (12900, 301)) (ewp : g a0 1 = .ref wp) (hs_wp : S wp = some (13000, 301)) (hp0 : xTB (xv g wt) (xv g wp) tk tl cn) (hp1 : na ≤ cn) (hp2 : cn ≤ 300) : xMt l yX7_readOne cX7_readOne 5 none 16 0 0 371 D kA b0 t0 [(8, 5), (8, 6), (8, 3), (8, 2), (14000, 0), (11, 2)] [.ref a0, .ref a1, .int (iI x2)] S g (fun (r : Option Value) (S1 : xT) (g1 : xG) => S = S1 ∧ r = none ∧ (∃ F a o q : Int, g1 a0 5 = .int (iI F) ∧ -2147483648 ≤ F ∧ F ≤ 2147483647 ∧ g1 a0 2 = .int (iI a) ∧ 0 ≤ a ∧ a ≤ cn ∧ g1 a0 3 = .int (iI o) ∧ 0 ≤ o ∧ o ≤ 50 ∧ g1 a0 6 = .int (iI q) ∧ 0 ≤ q ∧ q ≤ 300 ∧ xRR tk tl 0 6 na no F a o q)) := by
  refine xEnterV (by decide) (by simp [lg_sl, Value.category]) [(0, .ref a0), (1, .ref a1), (2, .int (iI x2))] rfl ?_
  intro K E hK hret _ _ _
  refine X_aloadn hK (i := 0) 0 dX7_readOne_0 rfl rfl ?_
  refine X_callV hK [] [] lk_X7_47 (c3_now _ _ _ _ _ S g a0 na wt wp tk tl cn hs_a0 (by omega) ena ewt hs_wt ewp hs_wp hp0 (by omega) (by omega)) hs_a0 ⟨by decide, rfl⟩ dX7_readOne_1 rfl rfl (by simp [Value.category]) (by decide) (by decide) (by decide) (by decide) (fun r1 S3 g2 pr1 qr1 hg2 => ?_)
  obtain ⟨rfl, rfl, z4, rfl, lz4, uz4, k5⟩ := pr1
  refine X_st [.int (iI z4)] rfl ?_
  refine X_istoren hK (i := 3) [(3, .int (iI z4)), (0, .ref a0), (1, .ref a1), (2, .int (iI x2))] dX7_readOne_4 rfl (by decide) rfl ?_
  refine X_iloadn hK (i := 3) 0 dX7_readOne_5 rfl rfl ?_
  refine X_bipush hK dX7_readOne_6 (by decide) ?_
  refine X_icmp_lt hK 21 (by omega) (by omega) dX7_readOne_8 (by decide) (fun c6 => ?_) (fun c6 => ?_)
  · refine X_iconst hK dX7_readOne_21 ?_
    refine X_istore hK (i := 4) [(4, .int (iI 0)), (3, .int (iI z4)), (0, .ref a0), (1, .ref a1), (2, .int (iI x2))] dX7_readOne_22 (by decide) rfl ?_
    refine X_iload hK (i := 4) 0 dX7_readOne_24 rfl ?_
    refine X_if_ne hK 49 (by omega) dX7_readOne_26 (by decide) (fun c7 => False.elim (by omega)) (fun c7 => ?_)
    refine X_iloadn hK (i := 3) 1 dX7_readOne_29 rfl rfl ?_
    refine X_bipush hK dX7_readOne_30 (by decide) ?_
    refine X_icmp_eq hK 49 (by omega) (by omega) dX7_readOne_32 (by decide) (fun c8 => ?_) (fun c8 => ?_)
    · refine X_aloadn hK (i := 0) 2 dX7_readOne_49 rfl rfl ?_
      refine X_getK hK fl_X7_22_8 hs_a0 eno dX7_readOne_50 ?_
      refine X_bipush hK dX7_readOne_53 (by decide) ?_
      refine X_icmp_ge hK 64 (by omega) (by omega) dX7_readOne_55 (by decide) (fun c9 => ?_) (fun c9 => ?_)
      · refine X_aloadn hK (i := 0) 2 dX7_readOne_64 rfl rfl ?_
        refine X_iconst hK dX7_readOne_65 ?_
        refine X_callV hK [.int (iI 4)] [] lk_X7_60 (c3_tell _ _ _ _ _ S g a0 4 na no nf nq wt wp tk tl cn hs_a0 (by omega) (by omega) ena (by omega) eno (by omega) enf (by omega) enq ewt hs_wt ewp hs_wp hp0 (by omega) (by omega)) hs_a0 ⟨by decide, rfl⟩ dX7_readOne_66 rfl rfl (by simp [Value.category]) (by decide) (by decide) (by decide) (by decide) (fun r10 S12 g11 pr10 qr10 hg11 => ?_)
        obtain ⟨rfl, rfl, k13⟩ := pr10
        refine X_st [] rfl ?_
        obtain ⟨Ft14, at14, ot14, qt14, eFt14, lFt14, uFt14, eat14, lat14, uat14, eot14, lot14, uot14, eqt14, lqt14, uqt14, kt14⟩ := k13
        have cat14 : at14 ≤ 300 := by have h9 := (show xTB (xv g11 wt) (xv g11 wp) tk tl cn from (by rw [(xv_m hg11 hs_wt (by decide) (by decide)), (xv_m hg11 hs_wp (by decide) (by decide))]; exact hp0)).2.2.2; omega
        refine X_goto hK 148 dX7_readOne_69 (by decide) ?_
        exact hret _ _ _ _ _ _ dX7_readOne_148 ⟨rfl, rfl, ⟨Ft14, at14, ot14, qt14, eFt14, by omega, by omega, eat14, by omega, by omega, eot14, by omega, by omega, eqt14, by omega, by omega, (by obtain ⟨h8, h7, h6⟩ := kt14; have h5 := h8.resolve_left (fun q9 => by omega); rw [h5.2.1]; exact xRR.f4 (by rw [← k5]; omega) (by omega) h5.2.2)⟩⟩ (Nat.le_refl _) (Nat.le_refl _)
      · refine X_iloadn hK (i := 2) 4 dX7_readOne_58 rfl rfl ?_
        refine X_bipush hK dX7_readOne_59 (by decide) ?_
        refine X_icmp_le hK 72 (by omega) (by omega) dX7_readOne_61 (by decide) (fun c15 => ?_) (fun c15 => False.elim (by omega))
        refine X_aloadn hK (i := 0) 2 dX7_readOne_72 rfl rfl ?_
        refine X_dup hK dX7_readOne_73 rfl ?_
        refine X_getK hK fl_X7_22_8 hs_a0 eno dX7_readOne_74 ?_
        refine X_iconst hK dX7_readOne_77 ?_
        refine X_iadd hK dX7_readOne_78 ?_
        refine X_puti hK fl_X7_22_8 hs_a0 (by decide) sl_8_3 (by omega) (by omega) dX7_readOne_79 (fun g16 hg16 => ?_)
        refine X_aloadn hK (i := 0) 2 dX7_readOne_82 rfl rfl ?_
        refine X_dup hK dX7_readOne_83 rfl ?_
        have hl17 := xTB.lt (A := xv g16 wt) (B := xv g16 wp) (tk := tk) (tl := tl) (c := cn) (a := na) (by rw [(xv_a hg16 (xne hs_wt hs_a0 (by decide))), (xv_a hg16 (xne hs_wp hs_a0 (by decide)))]; exact hp0) (by omega) (by rw [← k5]; omega)
        refine X_getK hK fl_X7_18_8 hs_a0 ((xs_k hg16 (by decide)).trans ena) dX7_readOne_84 ?_
        refine X_iconst hK dX7_readOne_87 ?_
        refine X_iadd hK dX7_readOne_88 ?_
        refine X_puti hK fl_X7_18_8 hs_a0 (by decide) sl_8_2 (by omega) (by omega) dX7_readOne_89 (fun g18 hg18 => ?_)
        refine X_iload hK (i := 4) 0 dX7_readOne_92 rfl ?_
        refine X_if_eq hK 109 (by omega) dX7_readOne_94 (by decide) (fun c19 => ?_) (fun c19 => False.elim (by omega))
        refine X_iloadn hK (i := 3) 1 dX7_readOne_109 rfl rfl ?_
        refine X_bipush hK dX7_readOne_110 (by decide) ?_
        refine X_icmp_ne hK 132 (by omega) (by omega) dX7_readOne_112 (by decide) (fun c20 => ?_) (fun c20 => False.elim (by omega))
        refine X_aloadn hK (i := 0) 2 dX7_readOne_132 rfl rfl ?_
        refine X_aloadn hK (i := 1) 3 dX7_readOne_133 rfl rfl ?_
        refine X_iloadn hK (i := 2) 4 dX7_readOne_134 rfl rfl ?_
        refine X_iconst hK dX7_readOne_135 ?_
        refine X_iadd hK dX7_readOne_136 ?_
        refine X_callV hK [.ref a1, .int (iI (x2 + 1))] [] lk_X7_132 (c3_readOne_7 _ _ _ _ _ S g18 a0 a1 (x2 + 1) (na + 1) (no + 1) nf nq wt wp tk tl cn hs_a0 hs_a1 (by omega) (by omega) (xs_s hg18) (by omega) ((xs_k hg18 (by decide)).trans (xs_s hg16)) (by omega) ((xs_k hg18 (by decide)).trans ((xs_k hg16 (by decide)).trans enf)) (by omega) ((xs_k hg18 (by decide)).trans ((xs_k hg16 (by decide)).trans enq)) ((xs_k hg18 (by decide)).trans ((xs_k hg16 (by decide)).trans ewt)) hs_wt ((xs_k hg18 (by decide)).trans ((xs_k hg16 (by decide)).trans ewp)) hs_wp (by rw [(Eq.trans (xv_a hg18 (xne hs_wt hs_a0 (by decide))) (xv_a hg16 (xne hs_wt hs_a0 (by decide)))), (Eq.trans (xv_a hg18 (xne hs_wp hs_a0 (by decide))) (xv_a hg16 (xne hs_wp hs_a0 (by decide))))]; exact hp0) (by omega) (by omega)) hs_a0 ⟨by decide, rfl⟩ dX7_readOne_137 rfl rfl (by simp [Value.category]) (by decide) (by decide) (by decide) (by decide) (fun r21 S23 g22 pr21 qr21 hg22 => ?_)
        obtain ⟨rfl, rfl, k24⟩ := pr21
        refine X_st [] rfl ?_
        obtain ⟨Ft25, at25, ot25, qt25, eFt25, lFt25, uFt25, eat25, lat25, uat25, eot25, lot25, uot25, eqt25, lqt25, uqt25, kt25⟩ := k24
        have cat25 : at25 ≤ 300 := by have h9 := (show xTB (xv g22 wt) (xv g22 wp) tk tl cn from (by rw [(Eq.trans (Eq.trans (xv_m hg22 hs_wt (by decide) (by decide)) (xv_a hg18 (xne hs_wt hs_a0 (by decide)))) (xv_a hg16 (xne hs_wt hs_a0 (by decide)))), (Eq.trans (Eq.trans (xv_m hg22 hs_wp (by decide) (by decide)) (xv_a hg18 (xne hs_wp hs_a0 (by decide)))) (xv_a hg16 (xne hs_wp hs_a0 (by decide))))]; exact hp0)).2.2.2; omega
        refine X_aloadn hK (i := 1) 3 dX7_readOne_140 rfl rfl ?_
        refine X_bipush hK dX7_readOne_141 (by decide) ?_
        refine X_iconst hK dX7_readOne_143 ?_
        refine X_iconst hK dX7_readOne_144 ?_
        refine X_callV hK [.int (iI 12), .int (iI 0), .int (iI 0)] [] lk_X7_129 (c_X10_addStep _ _ _ _ _ S g22 a1 12 0 0 hs_a1 (by omega) (by omega) (by omega)) hs_a1 ⟨by decide, rfl⟩ dX7_readOne_145 rfl rfl (by simp [Value.category]) (by decide) (by decide) (by decide) (by decide) (fun r26 S28 g27 pr26 qr26 hg27 => ?_)
        obtain ⟨rfl, rfl⟩ := pr26
        refine X_st [] rfl ?_
        exact hret _ _ _ _ _ _ dX7_readOne_148 ⟨rfl, rfl, ⟨Ft25, at25, ot25, qt25, ((hg27 a0 8 0 5 hs_a0 (by decide)).trans eFt25), by omega, by omega, ((hg27 a0 8 0 2 hs_a0 (by decide)).trans eat25), by omega, by omega, ((hg27 a0 8 0 3 hs_a0 (by decide)).trans eot25), by omega, by omega, ((hg27 a0 8 0 6 hs_a0 (by decide)).trans eqt25), by omega, by omega, (xRR.nt (by rw [← k5]; omega) (by omega) kt25)⟩⟩ (Nat.le_refl _) (Nat.le_refl _)
    · refine X_iloadn hK (i := 3) 1 dX7_readOne_35 rfl rfl ?_
      refine X_bipush hK dX7_readOne_36 (by decide) ?_
      refine X_icmp_eq hK 49 (by omega) (by omega) dX7_readOne_38 (by decide) (fun c29 => False.elim (by omega)) (fun c29 => ?_)
      refine X_aloadn hK (i := 0) 2 dX7_readOne_41 rfl rfl ?_
      refine X_iconst hK dX7_readOne_42 ?_
      refine X_callV hK [.int (iI 1)] [] lk_X7_60 (c3_tell _ _ _ _ _ S g a0 1 na no nf nq wt wp tk tl cn hs_a0 (by omega) (by omega) ena (by omega) eno (by omega) enf (by omega) enq ewt hs_wt ewp hs_wp hp0 (by omega) (by omega)) hs_a0 ⟨by decide, rfl⟩ dX7_readOne_43 rfl rfl (by simp [Value.category]) (by decide) (by decide) (by decide) (by decide) (fun r30 S32 g31 pr30 qr30 hg31 => ?_)
      obtain ⟨rfl, rfl, k33⟩ := pr30
      refine X_st [] rfl ?_
      obtain ⟨Ft34, at34, ot34, qt34, eFt34, lFt34, uFt34, eat34, lat34, uat34, eot34, lot34, uot34, eqt34, lqt34, uqt34, kt34⟩ := k33
      have cat34 : at34 ≤ 300 := by have h9 := (show xTB (xv g31 wt) (xv g31 wp) tk tl cn from (by rw [(xv_m hg31 hs_wt (by decide) (by decide)), (xv_m hg31 hs_wp (by decide) (by decide))]; exact hp0)).2.2.2; omega
      refine X_goto hK 148 dX7_readOne_46 (by decide) ?_
      exact hret _ _ _ _ _ _ dX7_readOne_148 ⟨rfl, rfl, ⟨Ft34, at34, ot34, qt34, eFt34, by omega, by omega, eat34, by omega, by omega, eot34, by omega, by omega, eqt34, by omega, by omega, (by obtain ⟨h8, h7, h6⟩ := kt34; have h5 := h8.resolve_left (fun q9 => by omega); rw [h5.2.1]; exact xRR.f1 (by rw [← k5]; omega) h5.2.2)⟩⟩ (Nat.le_refl _) (Nat.le_refl _)
  · refine X_iloadn hK (i := 3) 0 dX7_readOne_11 rfl rfl ?_
    refine X_bipush hK dX7_readOne_12 (by decide) ?_
    refine X_icmp_ge hK 21 (by omega) (by omega) dX7_readOne_14 (by decide) (fun c35 => ?_) (fun c35 => ?_)
    · refine X_iconst hK dX7_readOne_21 ?_
      refine X_istore hK (i := 4) [(4, .int (iI 0)), (3, .int (iI z4)), (0, .ref a0), (1, .ref a1), (2, .int (iI x2))] dX7_readOne_22 (by decide) rfl ?_
      refine X_iload hK (i := 4) 0 dX7_readOne_24 rfl ?_
      refine X_if_ne hK 49 (by omega) dX7_readOne_26 (by decide) (fun c36 => False.elim (by omega)) (fun c36 => ?_)
      refine X_iloadn hK (i := 3) 1 dX7_readOne_29 rfl rfl ?_
      refine X_bipush hK dX7_readOne_30 (by decide) ?_
      refine X_icmp_eq hK 49 (by omega) (by omega) dX7_readOne_32 (by decide) (fun c37 => False.elim (by omega)) (fun c37 => ?_)
      refine X_iloadn hK (i := 3) 1 dX7_readOne_35 rfl rfl ?_
      refine X_bipush hK dX7_readOne_36 (by decide) ?_
      refine X_icmp_eq hK 49 (by omega) (by omega) dX7_readOne_38 (by decide) (fun c38 => ?_) (fun c38 => ?_)
      · refine X_aloadn hK (i := 0) 2 dX7_readOne_49 rfl rfl ?_
        refine X_getK hK fl_X7_22_8 hs_a0 eno dX7_readOne_50 ?_
        refine X_bipush hK dX7_readOne_53 (by decide) ?_
        refine X_icmp_ge hK 64 (by omega) (by omega) dX7_readOne_55 (by decide) (fun c39 => ?_) (fun c39 => ?_)
        · refine X_aloadn hK (i := 0) 2 dX7_readOne_64 rfl rfl ?_
          refine X_iconst hK dX7_readOne_65 ?_
          refine X_callV hK [.int (iI 4)] [] lk_X7_60 (c3_tell _ _ _ _ _ S g a0 4 na no nf nq wt wp tk tl cn hs_a0 (by omega) (by omega) ena (by omega) eno (by omega) enf (by omega) enq ewt hs_wt ewp hs_wp hp0 (by omega) (by omega)) hs_a0 ⟨by decide, rfl⟩ dX7_readOne_66 rfl rfl (by simp [Value.category]) (by decide) (by decide) (by decide) (by decide) (fun r40 S42 g41 pr40 qr40 hg41 => ?_)
          obtain ⟨rfl, rfl, k43⟩ := pr40
          refine X_st [] rfl ?_
          obtain ⟨Ft44, at44, ot44, qt44, eFt44, lFt44, uFt44, eat44, lat44, uat44, eot44, lot44, uot44, eqt44, lqt44, uqt44, kt44⟩ := k43
          have cat44 : at44 ≤ 300 := by have h9 := (show xTB (xv g41 wt) (xv g41 wp) tk tl cn from (by rw [(xv_m hg41 hs_wt (by decide) (by decide)), (xv_m hg41 hs_wp (by decide) (by decide))]; exact hp0)).2.2.2; omega
          refine X_goto hK 148 dX7_readOne_69 (by decide) ?_
          exact hret _ _ _ _ _ _ dX7_readOne_148 ⟨rfl, rfl, ⟨Ft44, at44, ot44, qt44, eFt44, by omega, by omega, eat44, by omega, by omega, eot44, by omega, by omega, eqt44, by omega, by omega, (by obtain ⟨h8, h7, h6⟩ := kt44; have h5 := h8.resolve_left (fun q9 => by omega); rw [h5.2.1]; exact xRR.f4 (by rw [← k5]; omega) (by omega) h5.2.2)⟩⟩ (Nat.le_refl _) (Nat.le_refl _)
        · refine X_iloadn hK (i := 2) 4 dX7_readOne_58 rfl rfl ?_
          refine X_bipush hK dX7_readOne_59 (by decide) ?_
          refine X_icmp_le hK 72 (by omega) (by omega) dX7_readOne_61 (by decide) (fun c45 => ?_) (fun c45 => False.elim (by omega))
          refine X_aloadn hK (i := 0) 2 dX7_readOne_72 rfl rfl ?_
          refine X_dup hK dX7_readOne_73 rfl ?_
          refine X_getK hK fl_X7_22_8 hs_a0 eno dX7_readOne_74 ?_
          refine X_iconst hK dX7_readOne_77 ?_
          refine X_iadd hK dX7_readOne_78 ?_
          refine X_puti hK fl_X7_22_8 hs_a0 (by decide) sl_8_3 (by omega) (by omega) dX7_readOne_79 (fun g46 hg46 => ?_)
          refine X_aloadn hK (i := 0) 2 dX7_readOne_82 rfl rfl ?_
          refine X_dup hK dX7_readOne_83 rfl ?_
          have hl47 := xTB.lt (A := xv g46 wt) (B := xv g46 wp) (tk := tk) (tl := tl) (c := cn) (a := na) (by rw [(xv_a hg46 (xne hs_wt hs_a0 (by decide))), (xv_a hg46 (xne hs_wp hs_a0 (by decide)))]; exact hp0) (by omega) (by rw [← k5]; omega)
          refine X_getK hK fl_X7_18_8 hs_a0 ((xs_k hg46 (by decide)).trans ena) dX7_readOne_84 ?_
          refine X_iconst hK dX7_readOne_87 ?_
          refine X_iadd hK dX7_readOne_88 ?_
          refine X_puti hK fl_X7_18_8 hs_a0 (by decide) sl_8_2 (by omega) (by omega) dX7_readOne_89 (fun g48 hg48 => ?_)
          refine X_iload hK (i := 4) 0 dX7_readOne_92 rfl ?_
          refine X_if_eq hK 109 (by omega) dX7_readOne_94 (by decide) (fun c49 => ?_) (fun c49 => False.elim (by omega))
          refine X_iloadn hK (i := 3) 1 dX7_readOne_109 rfl rfl ?_
          refine X_bipush hK dX7_readOne_110 (by decide) ?_
          refine X_icmp_ne hK 132 (by omega) (by omega) dX7_readOne_112 (by decide) (fun c50 => False.elim (by omega)) (fun c50 => ?_)
          refine X_aloadn hK (i := 0) 2 dX7_readOne_115 rfl rfl ?_
          refine X_aloadn hK (i := 1) 3 dX7_readOne_116 rfl rfl ?_
          refine X_iloadn hK (i := 2) 4 dX7_readOne_117 rfl rfl ?_
          refine X_iconst hK dX7_readOne_118 ?_
          refine X_iadd hK dX7_readOne_119 ?_
          refine X_callV hK [.ref a1, .int (iI (x2 + 1))] [] lk_X7_115 (c3_readCond_7 _ _ _ _ _ S g48 a0 a1 (x2 + 1) (na + 1) (no + 1) nf nq wt wp tk tl cn hs_a0 hs_a1 (by omega) (by omega) (xs_s hg48) (by omega) ((xs_k hg48 (by decide)).trans (xs_s hg46)) (by omega) ((xs_k hg48 (by decide)).trans ((xs_k hg46 (by decide)).trans enf)) (by omega) ((xs_k hg48 (by decide)).trans ((xs_k hg46 (by decide)).trans enq)) ((xs_k hg48 (by decide)).trans ((xs_k hg46 (by decide)).trans ewt)) hs_wt ((xs_k hg48 (by decide)).trans ((xs_k hg46 (by decide)).trans ewp)) hs_wp (by rw [(Eq.trans (xv_a hg48 (xne hs_wt hs_a0 (by decide))) (xv_a hg46 (xne hs_wt hs_a0 (by decide)))), (Eq.trans (xv_a hg48 (xne hs_wp hs_a0 (by decide))) (xv_a hg46 (xne hs_wp hs_a0 (by decide))))]; exact hp0) (by omega) (by omega)) hs_a0 ⟨by decide, rfl⟩ dX7_readOne_120 rfl rfl (by simp [Value.category]) (by decide) (by decide) (by decide) (by decide) (fun r51 S53 g52 pr51 qr51 hg52 => ?_)
          obtain ⟨rfl, rfl, k54⟩ := pr51
          refine X_st [] rfl ?_
          obtain ⟨Ft55, at55, ot55, qt55, eFt55, lFt55, uFt55, eat55, lat55, uat55, eot55, lot55, uot55, eqt55, lqt55, uqt55, kt55⟩ := k54
          have cat55 : at55 ≤ 300 := by have h9 := (show xTB (xv g52 wt) (xv g52 wp) tk tl cn from (by rw [(Eq.trans (Eq.trans (xv_m hg52 hs_wt (by decide) (by decide)) (xv_a hg48 (xne hs_wt hs_a0 (by decide)))) (xv_a hg46 (xne hs_wt hs_a0 (by decide)))), (Eq.trans (Eq.trans (xv_m hg52 hs_wp (by decide) (by decide)) (xv_a hg48 (xne hs_wp hs_a0 (by decide)))) (xv_a hg46 (xne hs_wp hs_a0 (by decide))))]; exact hp0)).2.2.2; omega
          refine X_aloadn hK (i := 0) 2 dX7_readOne_123 rfl rfl ?_
          refine X_bipush hK dX7_readOne_124 (by decide) ?_
          refine X_callV hK [.int (iI 26)] [] lk_X7_119 (c3_expect _ _ _ _ _ S g52 a0 26 at55 ot55 Ft55 qt55 wt wp tk tl cn hs_a0 (by omega) (by omega) eat55 (by omega) eot55 (by omega) eFt55 (by omega) eqt55 ((hg52 a0 8 0 0 hs_a0 (by decide)).trans ((xs_k hg48 (by decide)).trans ((xs_k hg46 (by decide)).trans ewt))) hs_wt ((hg52 a0 8 0 1 hs_a0 (by decide)).trans ((xs_k hg48 (by decide)).trans ((xs_k hg46 (by decide)).trans ewp))) hs_wp (by rw [(Eq.trans (Eq.trans (xv_m hg52 hs_wt (by decide) (by decide)) (xv_a hg48 (xne hs_wt hs_a0 (by decide)))) (xv_a hg46 (xne hs_wt hs_a0 (by decide)))), (Eq.trans (Eq.trans (xv_m hg52 hs_wp (by decide) (by decide)) (xv_a hg48 (xne hs_wp hs_a0 (by decide)))) (xv_a hg46 (xne hs_wp hs_a0 (by decide))))]; exact hp0) (by omega) (by omega)) hs_a0 ⟨by decide, rfl⟩ dX7_readOne_126 rfl rfl (by simp [Value.category]) (by decide) (by decide) (by decide) (by decide) (fun r56 S58 g57 pr56 qr56 hg57 => ?_)
          obtain ⟨rfl, rfl, k59⟩ := pr56
          refine X_st [] rfl ?_
          obtain ⟨Ft60, at60, ot60, qt60, eFt60, lFt60, uFt60, eat60, lat60, uat60, eot60, lot60, uot60, eqt60, lqt60, uqt60, kt60⟩ := k59
          have cat60 : at60 ≤ 300 := by have h9 := (show xTB (xv g57 wt) (xv g57 wp) tk tl cn from (by rw [(Eq.trans (Eq.trans (Eq.trans (xv_m hg57 hs_wt (by decide) (by decide)) (xv_m hg52 hs_wt (by decide) (by decide))) (xv_a hg48 (xne hs_wt hs_a0 (by decide)))) (xv_a hg46 (xne hs_wt hs_a0 (by decide)))), (Eq.trans (Eq.trans (Eq.trans (xv_m hg57 hs_wp (by decide) (by decide)) (xv_m hg52 hs_wp (by decide) (by decide))) (xv_a hg48 (xne hs_wp hs_a0 (by decide)))) (xv_a hg46 (xne hs_wp hs_a0 (by decide))))]; exact hp0)).2.2.2; omega
          refine X_goto hK 148 dX7_readOne_129 (by decide) ?_
          exact hret _ _ _ _ _ _ dX7_readOne_148 ⟨rfl, rfl, ⟨Ft60, at60, ot60, qt60, eFt60, by omega, by omega, eat60, by omega, by omega, eot60, by omega, by omega, eqt60, by omega, by omega, (by obtain ⟨h8, h7⟩ := kt60; by_cases f9 : Ft55 = 0; (rcases h8 with ⟨c1, c2, c3, c4⟩ | ⟨c1, c2, c3⟩; (rw [show Ft60 = 0 by omega, c3, h7]; exact xRR.po (by rw [← k5]; omega) (by omega) (show xRR tk tl 2 (6 + 1) (na + 1) (no + 1) Ft55 at55 ot55 qt55 from kt55) f9 c1); (have c4 := c3.resolve_left (fun q9 => q9.1 f9); rw [c4.2.1]; exact xRR.px (by rw [← k5]; omega) (by omega) (show xRR tk tl 2 (6 + 1) (na + 1) (no + 1) Ft55 at55 ot55 qt55 from kt55) f9 c1 c4.2.2)); (have h6 : Ft60 = Ft55 ∧ qt60 = qt55 := (by omega); rw [h6.1, h6.2]; exact xRR.pf (by rw [← k5]; omega) (by omega) (show xRR tk tl 2 (6 + 1) (na + 1) (no + 1) Ft55 at55 ot55 qt55 from kt55) f9))⟩⟩ (Nat.le_refl _) (Nat.le_refl _)
      · refine X_aloadn hK (i := 0) 2 dX7_readOne_41 rfl rfl ?_
        refine X_iconst hK dX7_readOne_42 ?_
        refine X_callV hK [.int (iI 1)] [] lk_X7_60 (c3_tell _ _ _ _ _ S g a0 1 na no nf nq wt wp tk tl cn hs_a0 (by omega) (by omega) ena (by omega) eno (by omega) enf (by omega) enq ewt hs_wt ewp hs_wp hp0 (by omega) (by omega)) hs_a0 ⟨by decide, rfl⟩ dX7_readOne_43 rfl rfl (by simp [Value.category]) (by decide) (by decide) (by decide) (by decide) (fun r61 S63 g62 pr61 qr61 hg62 => ?_)
        obtain ⟨rfl, rfl, k64⟩ := pr61
        refine X_st [] rfl ?_
        obtain ⟨Ft65, at65, ot65, qt65, eFt65, lFt65, uFt65, eat65, lat65, uat65, eot65, lot65, uot65, eqt65, lqt65, uqt65, kt65⟩ := k64
        have cat65 : at65 ≤ 300 := by have h9 := (show xTB (xv g62 wt) (xv g62 wp) tk tl cn from (by rw [(xv_m hg62 hs_wt (by decide) (by decide)), (xv_m hg62 hs_wp (by decide) (by decide))]; exact hp0)).2.2.2; omega
        refine X_goto hK 148 dX7_readOne_46 (by decide) ?_
        exact hret _ _ _ _ _ _ dX7_readOne_148 ⟨rfl, rfl, ⟨Ft65, at65, ot65, qt65, eFt65, by omega, by omega, eat65, by omega, by omega, eot65, by omega, by omega, eqt65, by omega, by omega, (by obtain ⟨h8, h7, h6⟩ := kt65; have h5 := h8.resolve_left (fun q9 => by omega); rw [h5.2.1]; exact xRR.f1 (by rw [← k5]; omega) h5.2.2)⟩⟩ (Nat.le_refl _) (Nat.le_refl _)
    · refine X_iconst hK dX7_readOne_17 ?_
      refine X_goto hK 22 dX7_readOne_18 (by decide) ?_
      refine X_istore hK (i := 4) [(4, .int (iI 1)), (3, .int (iI z4)), (0, .ref a0), (1, .ref a1), (2, .int (iI x2))] dX7_readOne_22 (by decide) rfl ?_
      refine X_iload hK (i := 4) 0 dX7_readOne_24 rfl ?_
      refine X_if_ne hK 49 (by omega) dX7_readOne_26 (by decide) (fun c66 => ?_) (fun c66 => False.elim (by omega))
      refine X_aloadn hK (i := 0) 2 dX7_readOne_49 rfl rfl ?_
      refine X_getK hK fl_X7_22_8 hs_a0 eno dX7_readOne_50 ?_
      refine X_bipush hK dX7_readOne_53 (by decide) ?_
      refine X_icmp_ge hK 64 (by omega) (by omega) dX7_readOne_55 (by decide) (fun c67 => ?_) (fun c67 => ?_)
      · refine X_aloadn hK (i := 0) 2 dX7_readOne_64 rfl rfl ?_
        refine X_iconst hK dX7_readOne_65 ?_
        refine X_callV hK [.int (iI 4)] [] lk_X7_60 (c3_tell _ _ _ _ _ S g a0 4 na no nf nq wt wp tk tl cn hs_a0 (by omega) (by omega) ena (by omega) eno (by omega) enf (by omega) enq ewt hs_wt ewp hs_wp hp0 (by omega) (by omega)) hs_a0 ⟨by decide, rfl⟩ dX7_readOne_66 rfl rfl (by simp [Value.category]) (by decide) (by decide) (by decide) (by decide) (fun r68 S70 g69 pr68 qr68 hg69 => ?_)
        obtain ⟨rfl, rfl, k71⟩ := pr68
        refine X_st [] rfl ?_
        obtain ⟨Ft72, at72, ot72, qt72, eFt72, lFt72, uFt72, eat72, lat72, uat72, eot72, lot72, uot72, eqt72, lqt72, uqt72, kt72⟩ := k71
        have cat72 : at72 ≤ 300 := by have h9 := (show xTB (xv g69 wt) (xv g69 wp) tk tl cn from (by rw [(xv_m hg69 hs_wt (by decide) (by decide)), (xv_m hg69 hs_wp (by decide) (by decide))]; exact hp0)).2.2.2; omega
        refine X_goto hK 148 dX7_readOne_69 (by decide) ?_
        exact hret _ _ _ _ _ _ dX7_readOne_148 ⟨rfl, rfl, ⟨Ft72, at72, ot72, qt72, eFt72, by omega, by omega, eat72, by omega, by omega, eot72, by omega, by omega, eqt72, by omega, by omega, (by obtain ⟨h8, h7, h6⟩ := kt72; have h5 := h8.resolve_left (fun q9 => by omega); rw [h5.2.1]; exact xRR.f4 (by rw [← k5]; omega) (by omega) h5.2.2)⟩⟩ (Nat.le_refl _) (Nat.le_refl _)
      · refine X_iloadn hK (i := 2) 4 dX7_readOne_58 rfl rfl ?_
        refine X_bipush hK dX7_readOne_59 (by decide) ?_
        refine X_icmp_le hK 72 (by omega) (by omega) dX7_readOne_61 (by decide) (fun c73 => ?_) (fun c73 => False.elim (by omega))
        refine X_aloadn hK (i := 0) 2 dX7_readOne_72 rfl rfl ?_
        refine X_dup hK dX7_readOne_73 rfl ?_
        refine X_getK hK fl_X7_22_8 hs_a0 eno dX7_readOne_74 ?_
        refine X_iconst hK dX7_readOne_77 ?_
        refine X_iadd hK dX7_readOne_78 ?_
        refine X_puti hK fl_X7_22_8 hs_a0 (by decide) sl_8_3 (by omega) (by omega) dX7_readOne_79 (fun g74 hg74 => ?_)
        refine X_aloadn hK (i := 0) 2 dX7_readOne_82 rfl rfl ?_
        refine X_dup hK dX7_readOne_83 rfl ?_
        have hl75 := xTB.lt (A := xv g74 wt) (B := xv g74 wp) (tk := tk) (tl := tl) (c := cn) (a := na) (by rw [(xv_a hg74 (xne hs_wt hs_a0 (by decide))), (xv_a hg74 (xne hs_wp hs_a0 (by decide)))]; exact hp0) (by omega) (by rw [← k5]; omega)
        refine X_getK hK fl_X7_18_8 hs_a0 ((xs_k hg74 (by decide)).trans ena) dX7_readOne_84 ?_
        refine X_iconst hK dX7_readOne_87 ?_
        refine X_iadd hK dX7_readOne_88 ?_
        refine X_puti hK fl_X7_18_8 hs_a0 (by decide) sl_8_2 (by omega) (by omega) dX7_readOne_89 (fun g76 hg76 => ?_)
        refine X_iload hK (i := 4) 0 dX7_readOne_92 rfl ?_
        refine X_if_eq hK 109 (by omega) dX7_readOne_94 (by decide) (fun c77 => False.elim (by omega)) (fun c77 => ?_)
        refine X_aloadn hK (i := 0) 2 dX7_readOne_97 rfl rfl ?_
        refine X_aloadn hK (i := 1) 3 dX7_readOne_98 rfl rfl ?_
        refine X_iloadn hK (i := 3) 1 dX7_readOne_99 rfl rfl ?_
        refine X_bipush hK dX7_readOne_100 (by decide) ?_
        refine X_isub hK dX7_readOne_102 ?_
        refine X_callV hK [.ref a1, .int (iI (z4 - 10))] [] lk_X7_135 (c3_readFact _ _ _ _ _ S g76 a0 a1 (z4 - 10) (na + 1) (no + 1) nf nq wt wp tk tl cn 6 hs_a0 hs_a1 (by omega) (by omega) (xs_s hg76) (by omega) ((xs_k hg76 (by decide)).trans (xs_s hg74)) (by omega) ((xs_k hg76 (by decide)).trans ((xs_k hg74 (by decide)).trans enf)) (by omega) ((xs_k hg76 (by decide)).trans ((xs_k hg74 (by decide)).trans enq)) ((xs_k hg76 (by decide)).trans ((xs_k hg74 (by decide)).trans ewt)) hs_wt ((xs_k hg76 (by decide)).trans ((xs_k hg74 (by decide)).trans ewp)) hs_wp (by rw [(Eq.trans (xv_a hg76 (xne hs_wt hs_a0 (by decide))) (xv_a hg74 (xne hs_wt hs_a0 (by decide)))), (Eq.trans (xv_a hg76 (xne hs_wp hs_a0 (by decide))) (xv_a hg74 (xne hs_wp hs_a0 (by decide))))]; exact hp0) (by omega) (by omega) (by rw [show (na + 1) - 1 = na by omega, ← k5]; omega) (by omega)) hs_a0 ⟨by decide, rfl⟩ dX7_readOne_103 rfl rfl (by simp [Value.category]) (by decide) (by decide) (by decide) (by decide) (fun r78 S80 g79 pr78 qr78 hg79 => ?_)
        obtain ⟨rfl, rfl, k81⟩ := pr78
        refine X_st [] rfl ?_
        obtain ⟨Ft82, at82, ot82, qt82, eFt82, lFt82, uFt82, eat82, lat82, uat82, eot82, lot82, uot82, eqt82, lqt82, uqt82, kt82⟩ := k81
        have cat82 : at82 ≤ 300 := by have h9 := (show xTB (xv g79 wt) (xv g79 wp) tk tl cn from (by rw [(Eq.trans (Eq.trans (xv_m hg79 hs_wt (by decide) (by decide)) (xv_a hg76 (xne hs_wt hs_a0 (by decide)))) (xv_a hg74 (xne hs_wt hs_a0 (by decide)))), (Eq.trans (Eq.trans (xv_m hg79 hs_wp (by decide) (by decide)) (xv_a hg76 (xne hs_wp hs_a0 (by decide)))) (xv_a hg74 (xne hs_wp hs_a0 (by decide))))]; exact hp0)).2.2.2; omega
        refine X_goto hK 148 dX7_readOne_106 (by decide) ?_
        exact hret _ _ _ _ _ _ dX7_readOne_148 ⟨rfl, rfl, ⟨Ft82, at82, ot82, qt82, eFt82, by omega, by omega, eat82, by omega, by omega, eot82, by omega, by omega, eqt82, by omega, by omega, (by have h9 := kt82; rw [show na + 1 - 1 = na by omega, show no + 1 - 1 = no by omega] at h9; exact h9)⟩⟩ (Nat.le_refl _) (Nat.le_refl _)

set_option maxHeartbeats 4000000 in
set_option maxRecDepth 100000 in
theorem c3_readAll_6 (l : Launch) (D : va_G) (kA : Nat → ClassId) (b0 : Nat) (t0 : Nat → Nat) (S : xT) (g : xG) (a0 : Nat) (a1 : Nat) (x2 : Int) (na : Int) (no : Int) (nf : Int) (nq : Int) (wt : Nat) (wp : Nat) (tk : Int → Int) (tl : Int → Int) (cn : Int) (hs_a0 : S a0 = some (8, 0)) (hs_a1 : S a1 = some (11, 0)) (hx2 : 6 ≤ x2 ∧ x2 ≤ 6) (hna : 0 ≤ na ∧ na ≤ 300) (ena : g a0 2 = .int (iI na)) (hno : 0 ≤ no ∧ no ≤ 50) (eno : g a0 3 = .int (iI no)) (hnf : 0 ≤ nf ∧ nf ≤ 0) (enf : g a0 5 = .int (iI nf)) (hnq : 0 ≤ nq ∧ nq ≤ 300) (enq : g a0 6 = .int (iI nq)) (ewt : g a0 0 = .ref wt) (hs_wt : S wt = some (12900, 301)) (ewp : g a0 1 = .ref wp) (hs_wp : S wp = some (13000, 301)) (hp0 : xTB (xv g wt) (xv g wp) tk tl cn) (hp1 : na ≤ cn) (hp2 : cn ≤ 300) : xMt l yX7_readAll cX7_readAll 4 none 17 0 0 395 D kA b0 t0 [(8, 5), (8, 6), (8, 3), (8, 2), (14000, 0), (11, 2)] [.ref a0, .ref a1, .int (iI x2)] S g (fun (r : Option Value) (S1 : xT) (g1 : xG) => S = S1 ∧ r = none ∧ (∃ F a o q : Int, g1 a0 5 = .int (iI F) ∧ -2147483648 ≤ F ∧ F ≤ 2147483647 ∧ g1 a0 2 = .int (iI a) ∧ 0 ≤ a ∧ a ≤ cn ∧ g1 a0 3 = .int (iI o) ∧ 0 ≤ o ∧ o ≤ 50 ∧ g1 a0 6 = .int (iI q) ∧ 0 ≤ q ∧ q ≤ 300 ∧ xRR tk tl 1 6 na no F a o q)) := by
  refine xEnterV (by decide) (by simp [lg_sl, Value.category]) [(0, .ref a0), (1, .ref a1), (2, .int (iI x2))] rfl ?_
  intro K E hK hret _ _ _
  refine X_aloadn hK (i := 0) 0 dX7_readAll_0 rfl rfl ?_
  refine X_aloadn hK (i := 1) 1 dX7_readAll_1 rfl rfl ?_
  refine X_iloadn hK (i := 2) 2 dX7_readAll_2 rfl rfl ?_
  refine X_callV hK [.ref a1, .int (iI x2)] [] lk_X7_132 (c3_readOne_6 _ _ _ _ _ S g a0 a1 x2 na no nf nq wt wp tk tl cn hs_a0 hs_a1 (by omega) (by omega) ena (by omega) eno (by omega) enf (by omega) enq ewt hs_wt ewp hs_wp hp0 (by omega) (by omega)) hs_a0 ⟨by decide, rfl⟩ dX7_readAll_3 rfl rfl (by simp [Value.category]) (by decide) (by decide) (by decide) (by decide) (fun r1 S3 g2 pr1 qr1 hg2 => ?_)
  obtain ⟨rfl, rfl, k4⟩ := pr1
  refine X_st [] rfl ?_
  obtain ⟨Ft5, at5, ot5, qt5, eFt5, lFt5, uFt5, eat5, lat5, uat5, eot5, lot5, uot5, eqt5, lqt5, uqt5, kt5⟩ := k4
  have cat5 : at5 ≤ 300 := by have h9 := (show xTB (xv g2 wt) (xv g2 wp) tk tl cn from (by rw [(xv_m hg2 hs_wt (by decide) (by decide)), (xv_m hg2 hs_wp (by decide) (by decide))]; exact hp0)).2.2.2; omega
  refine X_iconst hK dX7_readAll_6 ?_
  refine X_istoren hK (i := 3) [(3, .int (iI 0)), (0, .ref a0), (1, .ref a1), (2, .int (iI x2))] dX7_readAll_7 rfl (by decide) rfl ?_
  have P120 : ∀ (nP120 : Nat) (g98 : xG) (_ : xM [(14000, 0), (11, 2), (8, 5), (8, 6), (8, 3), (8, 2)] S g2 g98) (z97 : Int) (_ : 0 ≤ z97) (_ : z97 ≤ 50) (q99 : Int) (_ : 0 ≤ q99) (_ : q99 ≤ 300) (_ : g98 a0 2 = .int (iI q99)) (q100 : Int) (_ : 0 ≤ q100) (_ : q100 ≤ 50) (_ : g98 a0 3 = .int (iI q100)) (q101 : Int) (_ : (-2147483648) ≤ q101) (_ : q101 ≤ 2147483647) (_ : g98 a0 5 = .int (iI q101)) (q102 : Int) (_ : 0 ≤ q102) (_ : q102 ≤ 300) (_ : g98 a0 6 = .int (iI q102)) (_ : xIn tk tl 1 6 na no q101 q99 q100 q102) (_ : q101 = 0 → no + 1 + z97 ≤ q100) (_ : q99 ≤ cn) (_ : 60 - z97 < (nP120 : Int)), X K E 8 [(3, .int (iI z97)), (0, .ref a0), (1, .ref a1), (2, .int (iI x2))] [] S g98 0 0 := by
    intro nP120
    induction nP120 with
    | zero => intro g98 hg98 z97 lz97 uz97 q99 lq99 uq99 eq99 q100 lq100 uq100 eq100 q101 lq101 uq101 eq101 q102 lq102 uq102 eq102 v121 v122 v123 mP120; exact False.elim (by omega)
    | succ nP120 ihP120 =>
      intro g98 hg98 z97 lz97 uz97 q99 lq99 uq99 eq99 q100 lq100 uq100 eq100 q101 lq101 uq101 eq101 q102 lq102 uq102 eq102 v121 v122 v123 mP120
      refine X_iloadn hK (i := 3) 0 dX7_readAll_8 rfl rfl ?_
      refine X_bipush hK dX7_readAll_9 (by decide) ?_
      refine X_icmp_ge hK 60 (by omega) (by omega) dX7_readAll_11 (by decide) (fun c124 => ?_) (fun c124 => ?_)
      · exact hret _ _ _ _ _ _ dX7_readAll_60 ⟨rfl, rfl, ⟨q101, q99, q100, q102, eq101, by omega, by omega, eq99, by omega, by omega, eq100, by omega, by omega, eq102, by omega, by omega, (xIn.e v121 (fun h9 => False.elim (by have h8 := v122 h9; omega)))⟩⟩ (Nat.le_refl _) (Nat.le_refl _)
      · refine X_aloadn hK (i := 0) 1 dX7_readAll_14 rfl rfl ?_
        refine X_getK hK fl_X7_29_8 hs_a0 eq101 dX7_readAll_15 ?_
        refine X_if_ne hK 60 (by omega) dX7_readAll_18 (by decide) (fun c125 => ?_) (fun c125 => ?_)
        · exact hret _ _ _ _ _ _ dX7_readAll_60 ⟨rfl, rfl, ⟨q101, q99, q100, q102, eq101, by omega, by omega, eq99, by omega, by omega, eq100, by omega, by omega, eq102, by omega, by omega, (xIn.e v121 (fun h9 => False.elim (by have h8 := v122 h9; omega)))⟩⟩ (Nat.le_refl _) (Nat.le_refl _)
        · refine X_aloadn hK (i := 0) 1 dX7_readAll_21 rfl rfl ?_
          refine X_callV hK [] [] lk_X7_47 (c3_now _ _ _ _ _ S g98 a0 q99 wt wp tk tl cn hs_a0 (by omega) eq99 ((hg98 a0 8 0 0 hs_a0 (by decide)).trans ((hg2 a0 8 0 0 hs_a0 (by decide)).trans ewt)) hs_wt ((hg98 a0 8 0 1 hs_a0 (by decide)).trans ((hg2 a0 8 0 1 hs_a0 (by decide)).trans ewp)) hs_wp (by rw [(Eq.trans (xv_m hg98 hs_wt (by decide) (by decide)) (xv_m hg2 hs_wt (by decide) (by decide))), (Eq.trans (xv_m hg98 hs_wp (by decide) (by decide)) (xv_m hg2 hs_wp (by decide) (by decide)))]; exact hp0) (by omega) (by omega)) hs_a0 ⟨by decide, rfl⟩ dX7_readAll_22 rfl rfl (by simp [Value.category]) (by decide) (by decide) (by decide) (by decide) (fun r126 S128 g127 pr126 qr126 hg127 => ?_)
          obtain ⟨rfl, rfl, z129, rfl, lz129, uz129, k130⟩ := pr126
          refine X_st [.int (iI z129)] rfl ?_
          refine X_bipush hK dX7_readAll_25 (by decide) ?_
          refine X_icmp_ne hK 60 (by omega) (by omega) dX7_readAll_27 (by decide) (fun c131 => ?_) (fun c131 => ?_)
          · exact hret _ _ _ _ _ _ dX7_readAll_60 ⟨rfl, rfl, ⟨q101, q99, q100, q102, eq101, by omega, by omega, eq99, by omega, by omega, eq100, by omega, by omega, eq102, by omega, by omega, (xIn.e v121 (fun h9 => Or.inl ⟨rfl, by rw [← k130]; omega⟩))⟩⟩ (Nat.le_refl _) (Nat.le_refl _)
          · refine X_aloadn hK (i := 0) 1 dX7_readAll_30 rfl rfl ?_
            refine X_dup hK dX7_readAll_31 rfl ?_
            have hl132 := xTB.lt (A := xv g98 wt) (B := xv g98 wp) (tk := tk) (tl := tl) (c := cn) (a := q99) (by rw [(Eq.trans (xv_m hg98 hs_wt (by decide) (by decide)) (xv_m hg2 hs_wt (by decide) (by decide))), (Eq.trans (xv_m hg98 hs_wp (by decide) (by decide)) (xv_m hg2 hs_wp (by decide) (by decide)))]; exact hp0) (by omega) (by rw [← k130]; omega)
            refine X_getK hK fl_X7_18_8 hs_a0 eq99 dX7_readAll_32 ?_
            refine X_iconst hK dX7_readAll_35 ?_
            refine X_iadd hK dX7_readAll_36 ?_
            refine X_puti hK fl_X7_18_8 hs_a0 (by decide) sl_8_2 (by omega) (by omega) dX7_readAll_37 (fun g133 hg133 => ?_)
            refine X_aloadn hK (i := 0) 1 dX7_readAll_40 rfl rfl ?_
            refine X_aloadn hK (i := 1) 2 dX7_readAll_41 rfl rfl ?_
            refine X_iloadn hK (i := 2) 3 dX7_readAll_42 rfl rfl ?_
            refine X_callV hK [.ref a1, .int (iI x2)] [] lk_X7_132 (c3_readOne_6 _ _ _ _ _ S g133 a0 a1 x2 (q99 + 1) q100 q101 q102 wt wp tk tl cn hs_a0 hs_a1 (by omega) (by omega) (xs_s hg133) (by omega) ((xs_k hg133 (by decide)).trans eq100) (by omega) ((xs_k hg133 (by decide)).trans eq101) (by omega) ((xs_k hg133 (by decide)).trans eq102) ((xs_k hg133 (by decide)).trans ((hg98 a0 8 0 0 hs_a0 (by decide)).trans ((hg2 a0 8 0 0 hs_a0 (by decide)).trans ewt))) hs_wt ((xs_k hg133 (by decide)).trans ((hg98 a0 8 0 1 hs_a0 (by decide)).trans ((hg2 a0 8 0 1 hs_a0 (by decide)).trans ewp))) hs_wp (by rw [(Eq.trans (Eq.trans (xv_a hg133 (xne hs_wt hs_a0 (by decide))) (xv_m hg98 hs_wt (by decide) (by decide))) (xv_m hg2 hs_wt (by decide) (by decide))), (Eq.trans (Eq.trans (xv_a hg133 (xne hs_wp hs_a0 (by decide))) (xv_m hg98 hs_wp (by decide) (by decide))) (xv_m hg2 hs_wp (by decide) (by decide)))]; exact hp0) (by omega) (by omega)) hs_a0 ⟨by decide, rfl⟩ dX7_readAll_43 rfl rfl (by simp [Value.category]) (by decide) (by decide) (by decide) (by decide) (fun r134 S136 g135 pr134 qr134 hg135 => ?_)
            obtain ⟨rfl, rfl, k137⟩ := pr134
            refine X_st [] rfl ?_
            obtain ⟨Ft138, at138, ot138, qt138, eFt138, lFt138, uFt138, eat138, lat138, uat138, eot138, lot138, uot138, eqt138, lqt138, uqt138, kt138⟩ := k137
            have cat138 : at138 ≤ 300 := by have h9 := (show xTB (xv g135 wt) (xv g135 wp) tk tl cn from (by rw [(Eq.trans (Eq.trans (Eq.trans (xv_m hg135 hs_wt (by decide) (by decide)) (xv_a hg133 (xne hs_wt hs_a0 (by decide)))) (xv_m hg98 hs_wt (by decide) (by decide))) (xv_m hg2 hs_wt (by decide) (by decide))), (Eq.trans (Eq.trans (Eq.trans (xv_m hg135 hs_wp (by decide) (by decide)) (xv_a hg133 (xne hs_wp hs_a0 (by decide)))) (xv_m hg98 hs_wp (by decide) (by decide))) (xv_m hg2 hs_wp (by decide) (by decide)))]; exact hp0)).2.2.2; omega
            refine X_aloadn hK (i := 1) 2 dX7_readAll_46 rfl rfl ?_
            refine X_bipush hK dX7_readAll_47 (by decide) ?_
            refine X_iconst hK dX7_readAll_49 ?_
            refine X_iconst hK dX7_readAll_50 ?_
            refine X_callV hK [.int (iI 13), .int (iI 0), .int (iI 0)] [] lk_X7_129 (c_X10_addStep _ _ _ _ _ S g135 a1 13 0 0 hs_a1 (by omega) (by omega) (by omega)) hs_a1 ⟨by decide, rfl⟩ dX7_readAll_51 rfl rfl (by simp [Value.category]) (by decide) (by decide) (by decide) (by decide) (fun r139 S141 g140 pr139 qr139 hg140 => ?_)
            obtain ⟨rfl, rfl⟩ := pr139
            refine X_st [] rfl ?_
            refine X_iinc hK (i := 3) (z := z97) (n := 1) 0 [(3, .int (iI (z97 + 1))), (0, .ref a0), (1, .ref a1), (2, .int (iI x2))] dX7_readAll_54 rfl (by decide) rfl ?_
            refine X_goto hK 8 dX7_readAll_57 (by decide) ?_
            exact ihP120  g140 (xM.tr (xM.tr (xM_up (xM.tr xM.rf xLe.rf hg98 (by decide)) hg133 hs_a0 (by decide) (by decide)) xLe.rf hg135 (by decide)) xLe.rf hg140 (by decide)) (z97 + 1) (by omega) (by omega) at138 (by omega) (by omega) ((hg140 a0 8 0 2 hs_a0 (by decide)).trans eat138) ot138 (by omega) (by omega) ((hg140 a0 8 0 3 hs_a0 (by decide)).trans eot138) Ft138 (by omega) (by omega) ((hg140 a0 8 0 5 hs_a0 (by decide)).trans eFt138) qt138 (by omega) (by omega) ((hg140 a0 8 0 6 hs_a0 (by decide)).trans eqt138) (xIn.s (Or.inl ⟨rfl, rfl, (by rw [← k130]; omega)⟩) v121 (by omega) kt138) (fun h9 => by have h8 := xRR.b kt138 h9; omega) (by omega) (by omega)
  exact P120 ((60 - 0 : Int).toNat + 1) g2 xM.rf 0 (by omega) (by omega) at5 (by omega) (by omega) eat5 ot5 (by omega) (by omega) eot5 Ft5 (by omega) (by omega) eFt5 qt5 (by omega) (by omega) eqt5 (xIn.z (Or.inl ⟨rfl, rfl⟩) kt5) (fun h9 => by have h8 := xRR.b kt5 h9; omega) (by omega) (by omega)

set_option maxHeartbeats 4000000 in
set_option maxRecDepth 100000 in
theorem c3_readCond_6 (l : Launch) (D : va_G) (kA : Nat → ClassId) (b0 : Nat) (t0 : Nat → Nat) (S : xT) (g : xG) (a0 : Nat) (a1 : Nat) (x2 : Int) (na : Int) (no : Int) (nf : Int) (nq : Int) (wt : Nat) (wp : Nat) (tk : Int → Int) (tl : Int → Int) (cn : Int) (hs_a0 : S a0 = some (8, 0)) (hs_a1 : S a1 = some (11, 0)) (hx2 : 6 ≤ x2 ∧ x2 ≤ 6) (hna : 0 ≤ na ∧ na ≤ 300) (ena : g a0 2 = .int (iI na)) (hno : 0 ≤ no ∧ no ≤ 50) (eno : g a0 3 = .int (iI no)) (hnf : 0 ≤ nf ∧ nf ≤ 0) (enf : g a0 5 = .int (iI nf)) (hnq : 0 ≤ nq ∧ nq ≤ 300) (enq : g a0 6 = .int (iI nq)) (ewt : g a0 0 = .ref wt) (hs_wt : S wt = some (12900, 301)) (ewp : g a0 1 = .ref wp) (hs_wp : S wp = some (13000, 301)) (hp0 : xTB (xv g wt) (xv g wp) tk tl cn) (hp1 : na ≤ cn) (hp2 : cn ≤ 300) : xMt l yX7_readCond cX7_readCond 4 none 18 0 0 418 D kA b0 t0 [(8, 5), (8, 6), (8, 3), (8, 2), (14000, 0), (11, 2)] [.ref a0, .ref a1, .int (iI x2)] S g (fun (r : Option Value) (S1 : xT) (g1 : xG) => S = S1 ∧ r = none ∧ (∃ F a o q : Int, g1 a0 5 = .int (iI F) ∧ -2147483648 ≤ F ∧ F ≤ 2147483647 ∧ g1 a0 2 = .int (iI a) ∧ 0 ≤ a ∧ a ≤ cn ∧ g1 a0 3 = .int (iI o) ∧ 0 ≤ o ∧ o ≤ 50 ∧ g1 a0 6 = .int (iI q) ∧ 0 ≤ q ∧ q ≤ 300 ∧ xRR tk tl 2 6 na no F a o q)) := by
  refine xEnterV (by decide) (by simp [lg_sl, Value.category]) [(0, .ref a0), (1, .ref a1), (2, .int (iI x2))] rfl ?_
  intro K E hK hret _ _ _
  refine X_aloadn hK (i := 0) 0 dX7_readCond_0 rfl rfl ?_
  refine X_aloadn hK (i := 1) 1 dX7_readCond_1 rfl rfl ?_
  refine X_iloadn hK (i := 2) 2 dX7_readCond_2 rfl rfl ?_
  refine X_callV hK [.ref a1, .int (iI x2)] [] lk_X7_126 (c3_readAll_6 _ _ _ _ _ S g a0 a1 x2 na no nf nq wt wp tk tl cn hs_a0 hs_a1 (by omega) (by omega) ena (by omega) eno (by omega) enf (by omega) enq ewt hs_wt ewp hs_wp hp0 (by omega) (by omega)) hs_a0 ⟨by decide, rfl⟩ dX7_readCond_3 rfl rfl (by simp [Value.category]) (by decide) (by decide) (by decide) (by decide) (fun r1 S3 g2 pr1 qr1 hg2 => ?_)
  obtain ⟨rfl, rfl, k4⟩ := pr1
  refine X_st [] rfl ?_
  obtain ⟨Ft5, at5, ot5, qt5, eFt5, lFt5, uFt5, eat5, lat5, uat5, eot5, lot5, uot5, eqt5, lqt5, uqt5, kt5⟩ := k4
  have cat5 : at5 ≤ 300 := by have h9 := (show xTB (xv g2 wt) (xv g2 wp) tk tl cn from (by rw [(xv_m hg2 hs_wt (by decide) (by decide)), (xv_m hg2 hs_wp (by decide) (by decide))]; exact hp0)).2.2.2; omega
  refine X_iconst hK dX7_readCond_6 ?_
  refine X_istoren hK (i := 3) [(3, .int (iI 0)), (0, .ref a0), (1, .ref a1), (2, .int (iI x2))] dX7_readCond_7 rfl (by decide) rfl ?_
  have P120 : ∀ (nP120 : Nat) (g98 : xG) (_ : xM [(14000, 0), (11, 2), (8, 5), (8, 6), (8, 3), (8, 2)] S g2 g98) (z97 : Int) (_ : 0 ≤ z97) (_ : z97 ≤ 50) (q99 : Int) (_ : 0 ≤ q99) (_ : q99 ≤ 300) (_ : g98 a0 2 = .int (iI q99)) (q100 : Int) (_ : 0 ≤ q100) (_ : q100 ≤ 50) (_ : g98 a0 3 = .int (iI q100)) (q101 : Int) (_ : (-2147483648) ≤ q101) (_ : q101 ≤ 2147483647) (_ : g98 a0 5 = .int (iI q101)) (q102 : Int) (_ : 0 ≤ q102) (_ : q102 ≤ 300) (_ : g98 a0 6 = .int (iI q102)) (_ : xIn tk tl 2 6 na no q101 q99 q100 q102) (_ : q101 = 0 → no + 1 + z97 ≤ q100) (_ : q99 ≤ cn) (_ : 60 - z97 < (nP120 : Int)), X K E 8 [(3, .int (iI z97)), (0, .ref a0), (1, .ref a1), (2, .int (iI x2))] [] S g98 0 0 := by
    intro nP120
    induction nP120 with
    | zero => intro g98 hg98 z97 lz97 uz97 q99 lq99 uq99 eq99 q100 lq100 uq100 eq100 q101 lq101 uq101 eq101 q102 lq102 uq102 eq102 v121 v122 v123 mP120; exact False.elim (by omega)
    | succ nP120 ihP120 =>
      intro g98 hg98 z97 lz97 uz97 q99 lq99 uq99 eq99 q100 lq100 uq100 eq100 q101 lq101 uq101 eq101 q102 lq102 uq102 eq102 v121 v122 v123 mP120
      refine X_iloadn hK (i := 3) 0 dX7_readCond_8 rfl rfl ?_
      refine X_bipush hK dX7_readCond_9 (by decide) ?_
      refine X_icmp_ge hK 60 (by omega) (by omega) dX7_readCond_11 (by decide) (fun c124 => ?_) (fun c124 => ?_)
      · exact hret _ _ _ _ _ _ dX7_readCond_60 ⟨rfl, rfl, ⟨q101, q99, q100, q102, eq101, by omega, by omega, eq99, by omega, by omega, eq100, by omega, by omega, eq102, by omega, by omega, (xIn.e v121 (fun h9 => False.elim (by have h8 := v122 h9; omega)))⟩⟩ (Nat.le_refl _) (Nat.le_refl _)
      · refine X_aloadn hK (i := 0) 1 dX7_readCond_14 rfl rfl ?_
        refine X_getK hK fl_X7_29_8 hs_a0 eq101 dX7_readCond_15 ?_
        refine X_if_ne hK 60 (by omega) dX7_readCond_18 (by decide) (fun c125 => ?_) (fun c125 => ?_)
        · exact hret _ _ _ _ _ _ dX7_readCond_60 ⟨rfl, rfl, ⟨q101, q99, q100, q102, eq101, by omega, by omega, eq99, by omega, by omega, eq100, by omega, by omega, eq102, by omega, by omega, (xIn.e v121 (fun h9 => False.elim (by have h8 := v122 h9; omega)))⟩⟩ (Nat.le_refl _) (Nat.le_refl _)
        · refine X_aloadn hK (i := 0) 1 dX7_readCond_21 rfl rfl ?_
          refine X_callV hK [] [] lk_X7_47 (c3_now _ _ _ _ _ S g98 a0 q99 wt wp tk tl cn hs_a0 (by omega) eq99 ((hg98 a0 8 0 0 hs_a0 (by decide)).trans ((hg2 a0 8 0 0 hs_a0 (by decide)).trans ewt)) hs_wt ((hg98 a0 8 0 1 hs_a0 (by decide)).trans ((hg2 a0 8 0 1 hs_a0 (by decide)).trans ewp)) hs_wp (by rw [(Eq.trans (xv_m hg98 hs_wt (by decide) (by decide)) (xv_m hg2 hs_wt (by decide) (by decide))), (Eq.trans (xv_m hg98 hs_wp (by decide) (by decide)) (xv_m hg2 hs_wp (by decide) (by decide)))]; exact hp0) (by omega) (by omega)) hs_a0 ⟨by decide, rfl⟩ dX7_readCond_22 rfl rfl (by simp [Value.category]) (by decide) (by decide) (by decide) (by decide) (fun r126 S128 g127 pr126 qr126 hg127 => ?_)
          obtain ⟨rfl, rfl, z129, rfl, lz129, uz129, k130⟩ := pr126
          refine X_st [.int (iI z129)] rfl ?_
          refine X_bipush hK dX7_readCond_25 (by decide) ?_
          refine X_icmp_ne hK 60 (by omega) (by omega) dX7_readCond_27 (by decide) (fun c131 => ?_) (fun c131 => ?_)
          · exact hret _ _ _ _ _ _ dX7_readCond_60 ⟨rfl, rfl, ⟨q101, q99, q100, q102, eq101, by omega, by omega, eq99, by omega, by omega, eq100, by omega, by omega, eq102, by omega, by omega, (xIn.e v121 (fun h9 => Or.inr ⟨rfl, by rw [← k130]; omega⟩))⟩⟩ (Nat.le_refl _) (Nat.le_refl _)
          · refine X_aloadn hK (i := 0) 1 dX7_readCond_30 rfl rfl ?_
            refine X_dup hK dX7_readCond_31 rfl ?_
            have hl132 := xTB.lt (A := xv g98 wt) (B := xv g98 wp) (tk := tk) (tl := tl) (c := cn) (a := q99) (by rw [(Eq.trans (xv_m hg98 hs_wt (by decide) (by decide)) (xv_m hg2 hs_wt (by decide) (by decide))), (Eq.trans (xv_m hg98 hs_wp (by decide) (by decide)) (xv_m hg2 hs_wp (by decide) (by decide)))]; exact hp0) (by omega) (by rw [← k130]; omega)
            refine X_getK hK fl_X7_18_8 hs_a0 eq99 dX7_readCond_32 ?_
            refine X_iconst hK dX7_readCond_35 ?_
            refine X_iadd hK dX7_readCond_36 ?_
            refine X_puti hK fl_X7_18_8 hs_a0 (by decide) sl_8_2 (by omega) (by omega) dX7_readCond_37 (fun g133 hg133 => ?_)
            refine X_aloadn hK (i := 0) 1 dX7_readCond_40 rfl rfl ?_
            refine X_aloadn hK (i := 1) 2 dX7_readCond_41 rfl rfl ?_
            refine X_iloadn hK (i := 2) 3 dX7_readCond_42 rfl rfl ?_
            refine X_callV hK [.ref a1, .int (iI x2)] [] lk_X7_126 (c3_readAll_6 _ _ _ _ _ S g133 a0 a1 x2 (q99 + 1) q100 q101 q102 wt wp tk tl cn hs_a0 hs_a1 (by omega) (by omega) (xs_s hg133) (by omega) ((xs_k hg133 (by decide)).trans eq100) (by omega) ((xs_k hg133 (by decide)).trans eq101) (by omega) ((xs_k hg133 (by decide)).trans eq102) ((xs_k hg133 (by decide)).trans ((hg98 a0 8 0 0 hs_a0 (by decide)).trans ((hg2 a0 8 0 0 hs_a0 (by decide)).trans ewt))) hs_wt ((xs_k hg133 (by decide)).trans ((hg98 a0 8 0 1 hs_a0 (by decide)).trans ((hg2 a0 8 0 1 hs_a0 (by decide)).trans ewp))) hs_wp (by rw [(Eq.trans (Eq.trans (xv_a hg133 (xne hs_wt hs_a0 (by decide))) (xv_m hg98 hs_wt (by decide) (by decide))) (xv_m hg2 hs_wt (by decide) (by decide))), (Eq.trans (Eq.trans (xv_a hg133 (xne hs_wp hs_a0 (by decide))) (xv_m hg98 hs_wp (by decide) (by decide))) (xv_m hg2 hs_wp (by decide) (by decide)))]; exact hp0) (by omega) (by omega)) hs_a0 ⟨by decide, rfl⟩ dX7_readCond_43 rfl rfl (by simp [Value.category]) (by decide) (by decide) (by decide) (by decide) (fun r134 S136 g135 pr134 qr134 hg135 => ?_)
            obtain ⟨rfl, rfl, k137⟩ := pr134
            refine X_st [] rfl ?_
            obtain ⟨Ft138, at138, ot138, qt138, eFt138, lFt138, uFt138, eat138, lat138, uat138, eot138, lot138, uot138, eqt138, lqt138, uqt138, kt138⟩ := k137
            have cat138 : at138 ≤ 300 := by have h9 := (show xTB (xv g135 wt) (xv g135 wp) tk tl cn from (by rw [(Eq.trans (Eq.trans (Eq.trans (xv_m hg135 hs_wt (by decide) (by decide)) (xv_a hg133 (xne hs_wt hs_a0 (by decide)))) (xv_m hg98 hs_wt (by decide) (by decide))) (xv_m hg2 hs_wt (by decide) (by decide))), (Eq.trans (Eq.trans (Eq.trans (xv_m hg135 hs_wp (by decide) (by decide)) (xv_a hg133 (xne hs_wp hs_a0 (by decide)))) (xv_m hg98 hs_wp (by decide) (by decide))) (xv_m hg2 hs_wp (by decide) (by decide)))]; exact hp0)).2.2.2; omega
            refine X_aloadn hK (i := 1) 2 dX7_readCond_46 rfl rfl ?_
            refine X_bipush hK dX7_readCond_47 (by decide) ?_
            refine X_iconst hK dX7_readCond_49 ?_
            refine X_iconst hK dX7_readCond_50 ?_
            refine X_callV hK [.int (iI 14), .int (iI 0), .int (iI 0)] [] lk_X7_129 (c_X10_addStep _ _ _ _ _ S g135 a1 14 0 0 hs_a1 (by omega) (by omega) (by omega)) hs_a1 ⟨by decide, rfl⟩ dX7_readCond_51 rfl rfl (by simp [Value.category]) (by decide) (by decide) (by decide) (by decide) (fun r139 S141 g140 pr139 qr139 hg140 => ?_)
            obtain ⟨rfl, rfl⟩ := pr139
            refine X_st [] rfl ?_
            refine X_iinc hK (i := 3) (z := z97) (n := 1) 0 [(3, .int (iI (z97 + 1))), (0, .ref a0), (1, .ref a1), (2, .int (iI x2))] dX7_readCond_54 rfl (by decide) rfl ?_
            refine X_goto hK 8 dX7_readCond_57 (by decide) ?_
            exact ihP120  g140 (xM.tr (xM.tr (xM_up (xM.tr xM.rf xLe.rf hg98 (by decide)) hg133 hs_a0 (by decide) (by decide)) xLe.rf hg135 (by decide)) xLe.rf hg140 (by decide)) (z97 + 1) (by omega) (by omega) at138 (by omega) (by omega) ((hg140 a0 8 0 2 hs_a0 (by decide)).trans eat138) ot138 (by omega) (by omega) ((hg140 a0 8 0 3 hs_a0 (by decide)).trans eot138) Ft138 (by omega) (by omega) ((hg140 a0 8 0 5 hs_a0 (by decide)).trans eFt138) qt138 (by omega) (by omega) ((hg140 a0 8 0 6 hs_a0 (by decide)).trans eqt138) (xIn.s (Or.inr ⟨rfl, rfl, (by rw [← k130]; omega)⟩) v121 (by omega) kt138) (fun h9 => by have h8 := xRR.b1 kt138 h9; omega) (by omega) (by omega)
  exact P120 ((60 - 0 : Int).toNat + 1) g2 xM.rf 0 (by omega) (by omega) at5 (by omega) (by omega) eat5 ot5 (by omega) (by omega) eot5 Ft5 (by omega) (by omega) eFt5 qt5 (by omega) (by omega) eqt5 (xIn.z (Or.inr ⟨rfl, rfl⟩) kt5) (fun h9 => by have h8 := xRR.b1 kt5 h9; omega) (by omega) (by omega)

set_option maxHeartbeats 4000000 in
set_option maxRecDepth 100000 in
theorem c3_readOne_5 (l : Launch) (D : va_G) (kA : Nat → ClassId) (b0 : Nat) (t0 : Nat → Nat) (S : xT) (g : xG) (a0 : Nat) (a1 : Nat) (x2 : Int) (na : Int) (no : Int) (nf : Int) (nq : Int) (wt : Nat) (wp : Nat) (tk : Int → Int) (tl : Int → Int) (cn : Int) (hs_a0 : S a0 = some (8, 0)) (hs_a1 : S a1 = some (11, 0)) (hx2 : 5 ≤ x2 ∧ x2 ≤ 5) (hna : 0 ≤ na ∧ na ≤ 300) (ena : g a0 2 = .int (iI na)) (hno : 0 ≤ no ∧ no ≤ 50) (eno : g a0 3 = .int (iI no)) (hnf : 0 ≤ nf ∧ nf ≤ 0) (enf : g a0 5 = .int (iI nf)) (hnq : 0 ≤ nq ∧ nq ≤ 300) (enq : g a0 6 = .int (iI nq)) (ewt : g a0 0 = .ref wt) (hs_wt : S wt = some (12900, 301)) (ewp : g a0 1 = .ref wp) (hs_wp : S wp = some (13000, 301)) (hp0 : xTB (xv g wt) (xv g wp) tk tl cn) (hp1 : na ≤ cn) (hp2 : cn ≤ 300) : xMt l yX7_readOne cX7_readOne 5 none 19 0 0 441 D kA b0 t0 [(8, 5), (8, 6), (8, 3), (8, 2), (14000, 0), (11, 2)] [.ref a0, .ref a1, .int (iI x2)] S g (fun (r : Option Value) (S1 : xT) (g1 : xG) => S = S1 ∧ r = none ∧ (∃ F a o q : Int, g1 a0 5 = .int (iI F) ∧ -2147483648 ≤ F ∧ F ≤ 2147483647 ∧ g1 a0 2 = .int (iI a) ∧ 0 ≤ a ∧ a ≤ cn ∧ g1 a0 3 = .int (iI o) ∧ 0 ≤ o ∧ o ≤ 50 ∧ g1 a0 6 = .int (iI q) ∧ 0 ≤ q ∧ q ≤ 300 ∧ xRR tk tl 0 5 na no F a o q)) := by
  refine xEnterV (by decide) (by simp [lg_sl, Value.category]) [(0, .ref a0), (1, .ref a1), (2, .int (iI x2))] rfl ?_
  intro K E hK hret _ _ _
  refine X_aloadn hK (i := 0) 0 dX7_readOne_0 rfl rfl ?_
  refine X_callV hK [] [] lk_X7_47 (c3_now _ _ _ _ _ S g a0 na wt wp tk tl cn hs_a0 (by omega) ena ewt hs_wt ewp hs_wp hp0 (by omega) (by omega)) hs_a0 ⟨by decide, rfl⟩ dX7_readOne_1 rfl rfl (by simp [Value.category]) (by decide) (by decide) (by decide) (by decide) (fun r1 S3 g2 pr1 qr1 hg2 => ?_)
  obtain ⟨rfl, rfl, z4, rfl, lz4, uz4, k5⟩ := pr1
  refine X_st [.int (iI z4)] rfl ?_
  refine X_istoren hK (i := 3) [(3, .int (iI z4)), (0, .ref a0), (1, .ref a1), (2, .int (iI x2))] dX7_readOne_4 rfl (by decide) rfl ?_
  refine X_iloadn hK (i := 3) 0 dX7_readOne_5 rfl rfl ?_
  refine X_bipush hK dX7_readOne_6 (by decide) ?_
  refine X_icmp_lt hK 21 (by omega) (by omega) dX7_readOne_8 (by decide) (fun c6 => ?_) (fun c6 => ?_)
  · refine X_iconst hK dX7_readOne_21 ?_
    refine X_istore hK (i := 4) [(4, .int (iI 0)), (3, .int (iI z4)), (0, .ref a0), (1, .ref a1), (2, .int (iI x2))] dX7_readOne_22 (by decide) rfl ?_
    refine X_iload hK (i := 4) 0 dX7_readOne_24 rfl ?_
    refine X_if_ne hK 49 (by omega) dX7_readOne_26 (by decide) (fun c7 => False.elim (by omega)) (fun c7 => ?_)
    refine X_iloadn hK (i := 3) 1 dX7_readOne_29 rfl rfl ?_
    refine X_bipush hK dX7_readOne_30 (by decide) ?_
    refine X_icmp_eq hK 49 (by omega) (by omega) dX7_readOne_32 (by decide) (fun c8 => ?_) (fun c8 => ?_)
    · refine X_aloadn hK (i := 0) 2 dX7_readOne_49 rfl rfl ?_
      refine X_getK hK fl_X7_22_8 hs_a0 eno dX7_readOne_50 ?_
      refine X_bipush hK dX7_readOne_53 (by decide) ?_
      refine X_icmp_ge hK 64 (by omega) (by omega) dX7_readOne_55 (by decide) (fun c9 => ?_) (fun c9 => ?_)
      · refine X_aloadn hK (i := 0) 2 dX7_readOne_64 rfl rfl ?_
        refine X_iconst hK dX7_readOne_65 ?_
        refine X_callV hK [.int (iI 4)] [] lk_X7_60 (c3_tell _ _ _ _ _ S g a0 4 na no nf nq wt wp tk tl cn hs_a0 (by omega) (by omega) ena (by omega) eno (by omega) enf (by omega) enq ewt hs_wt ewp hs_wp hp0 (by omega) (by omega)) hs_a0 ⟨by decide, rfl⟩ dX7_readOne_66 rfl rfl (by simp [Value.category]) (by decide) (by decide) (by decide) (by decide) (fun r10 S12 g11 pr10 qr10 hg11 => ?_)
        obtain ⟨rfl, rfl, k13⟩ := pr10
        refine X_st [] rfl ?_
        obtain ⟨Ft14, at14, ot14, qt14, eFt14, lFt14, uFt14, eat14, lat14, uat14, eot14, lot14, uot14, eqt14, lqt14, uqt14, kt14⟩ := k13
        have cat14 : at14 ≤ 300 := by have h9 := (show xTB (xv g11 wt) (xv g11 wp) tk tl cn from (by rw [(xv_m hg11 hs_wt (by decide) (by decide)), (xv_m hg11 hs_wp (by decide) (by decide))]; exact hp0)).2.2.2; omega
        refine X_goto hK 148 dX7_readOne_69 (by decide) ?_
        exact hret _ _ _ _ _ _ dX7_readOne_148 ⟨rfl, rfl, ⟨Ft14, at14, ot14, qt14, eFt14, by omega, by omega, eat14, by omega, by omega, eot14, by omega, by omega, eqt14, by omega, by omega, (by obtain ⟨h8, h7, h6⟩ := kt14; have h5 := h8.resolve_left (fun q9 => by omega); rw [h5.2.1]; exact xRR.f4 (by rw [← k5]; omega) (by omega) h5.2.2)⟩⟩ (Nat.le_refl _) (Nat.le_refl _)
      · refine X_iloadn hK (i := 2) 4 dX7_readOne_58 rfl rfl ?_
        refine X_bipush hK dX7_readOne_59 (by decide) ?_
        refine X_icmp_le hK 72 (by omega) (by omega) dX7_readOne_61 (by decide) (fun c15 => ?_) (fun c15 => False.elim (by omega))
        refine X_aloadn hK (i := 0) 2 dX7_readOne_72 rfl rfl ?_
        refine X_dup hK dX7_readOne_73 rfl ?_
        refine X_getK hK fl_X7_22_8 hs_a0 eno dX7_readOne_74 ?_
        refine X_iconst hK dX7_readOne_77 ?_
        refine X_iadd hK dX7_readOne_78 ?_
        refine X_puti hK fl_X7_22_8 hs_a0 (by decide) sl_8_3 (by omega) (by omega) dX7_readOne_79 (fun g16 hg16 => ?_)
        refine X_aloadn hK (i := 0) 2 dX7_readOne_82 rfl rfl ?_
        refine X_dup hK dX7_readOne_83 rfl ?_
        have hl17 := xTB.lt (A := xv g16 wt) (B := xv g16 wp) (tk := tk) (tl := tl) (c := cn) (a := na) (by rw [(xv_a hg16 (xne hs_wt hs_a0 (by decide))), (xv_a hg16 (xne hs_wp hs_a0 (by decide)))]; exact hp0) (by omega) (by rw [← k5]; omega)
        refine X_getK hK fl_X7_18_8 hs_a0 ((xs_k hg16 (by decide)).trans ena) dX7_readOne_84 ?_
        refine X_iconst hK dX7_readOne_87 ?_
        refine X_iadd hK dX7_readOne_88 ?_
        refine X_puti hK fl_X7_18_8 hs_a0 (by decide) sl_8_2 (by omega) (by omega) dX7_readOne_89 (fun g18 hg18 => ?_)
        refine X_iload hK (i := 4) 0 dX7_readOne_92 rfl ?_
        refine X_if_eq hK 109 (by omega) dX7_readOne_94 (by decide) (fun c19 => ?_) (fun c19 => False.elim (by omega))
        refine X_iloadn hK (i := 3) 1 dX7_readOne_109 rfl rfl ?_
        refine X_bipush hK dX7_readOne_110 (by decide) ?_
        refine X_icmp_ne hK 132 (by omega) (by omega) dX7_readOne_112 (by decide) (fun c20 => ?_) (fun c20 => False.elim (by omega))
        refine X_aloadn hK (i := 0) 2 dX7_readOne_132 rfl rfl ?_
        refine X_aloadn hK (i := 1) 3 dX7_readOne_133 rfl rfl ?_
        refine X_iloadn hK (i := 2) 4 dX7_readOne_134 rfl rfl ?_
        refine X_iconst hK dX7_readOne_135 ?_
        refine X_iadd hK dX7_readOne_136 ?_
        refine X_callV hK [.ref a1, .int (iI (x2 + 1))] [] lk_X7_132 (c3_readOne_6 _ _ _ _ _ S g18 a0 a1 (x2 + 1) (na + 1) (no + 1) nf nq wt wp tk tl cn hs_a0 hs_a1 (by omega) (by omega) (xs_s hg18) (by omega) ((xs_k hg18 (by decide)).trans (xs_s hg16)) (by omega) ((xs_k hg18 (by decide)).trans ((xs_k hg16 (by decide)).trans enf)) (by omega) ((xs_k hg18 (by decide)).trans ((xs_k hg16 (by decide)).trans enq)) ((xs_k hg18 (by decide)).trans ((xs_k hg16 (by decide)).trans ewt)) hs_wt ((xs_k hg18 (by decide)).trans ((xs_k hg16 (by decide)).trans ewp)) hs_wp (by rw [(Eq.trans (xv_a hg18 (xne hs_wt hs_a0 (by decide))) (xv_a hg16 (xne hs_wt hs_a0 (by decide)))), (Eq.trans (xv_a hg18 (xne hs_wp hs_a0 (by decide))) (xv_a hg16 (xne hs_wp hs_a0 (by decide))))]; exact hp0) (by omega) (by omega)) hs_a0 ⟨by decide, rfl⟩ dX7_readOne_137 rfl rfl (by simp [Value.category]) (by decide) (by decide) (by decide) (by decide) (fun r21 S23 g22 pr21 qr21 hg22 => ?_)
        obtain ⟨rfl, rfl, k24⟩ := pr21
        refine X_st [] rfl ?_
        obtain ⟨Ft25, at25, ot25, qt25, eFt25, lFt25, uFt25, eat25, lat25, uat25, eot25, lot25, uot25, eqt25, lqt25, uqt25, kt25⟩ := k24
        have cat25 : at25 ≤ 300 := by have h9 := (show xTB (xv g22 wt) (xv g22 wp) tk tl cn from (by rw [(Eq.trans (Eq.trans (xv_m hg22 hs_wt (by decide) (by decide)) (xv_a hg18 (xne hs_wt hs_a0 (by decide)))) (xv_a hg16 (xne hs_wt hs_a0 (by decide)))), (Eq.trans (Eq.trans (xv_m hg22 hs_wp (by decide) (by decide)) (xv_a hg18 (xne hs_wp hs_a0 (by decide)))) (xv_a hg16 (xne hs_wp hs_a0 (by decide))))]; exact hp0)).2.2.2; omega
        refine X_aloadn hK (i := 1) 3 dX7_readOne_140 rfl rfl ?_
        refine X_bipush hK dX7_readOne_141 (by decide) ?_
        refine X_iconst hK dX7_readOne_143 ?_
        refine X_iconst hK dX7_readOne_144 ?_
        refine X_callV hK [.int (iI 12), .int (iI 0), .int (iI 0)] [] lk_X7_129 (c_X10_addStep _ _ _ _ _ S g22 a1 12 0 0 hs_a1 (by omega) (by omega) (by omega)) hs_a1 ⟨by decide, rfl⟩ dX7_readOne_145 rfl rfl (by simp [Value.category]) (by decide) (by decide) (by decide) (by decide) (fun r26 S28 g27 pr26 qr26 hg27 => ?_)
        obtain ⟨rfl, rfl⟩ := pr26
        refine X_st [] rfl ?_
        exact hret _ _ _ _ _ _ dX7_readOne_148 ⟨rfl, rfl, ⟨Ft25, at25, ot25, qt25, ((hg27 a0 8 0 5 hs_a0 (by decide)).trans eFt25), by omega, by omega, ((hg27 a0 8 0 2 hs_a0 (by decide)).trans eat25), by omega, by omega, ((hg27 a0 8 0 3 hs_a0 (by decide)).trans eot25), by omega, by omega, ((hg27 a0 8 0 6 hs_a0 (by decide)).trans eqt25), by omega, by omega, (xRR.nt (by rw [← k5]; omega) (by omega) kt25)⟩⟩ (Nat.le_refl _) (Nat.le_refl _)
    · refine X_iloadn hK (i := 3) 1 dX7_readOne_35 rfl rfl ?_
      refine X_bipush hK dX7_readOne_36 (by decide) ?_
      refine X_icmp_eq hK 49 (by omega) (by omega) dX7_readOne_38 (by decide) (fun c29 => False.elim (by omega)) (fun c29 => ?_)
      refine X_aloadn hK (i := 0) 2 dX7_readOne_41 rfl rfl ?_
      refine X_iconst hK dX7_readOne_42 ?_
      refine X_callV hK [.int (iI 1)] [] lk_X7_60 (c3_tell _ _ _ _ _ S g a0 1 na no nf nq wt wp tk tl cn hs_a0 (by omega) (by omega) ena (by omega) eno (by omega) enf (by omega) enq ewt hs_wt ewp hs_wp hp0 (by omega) (by omega)) hs_a0 ⟨by decide, rfl⟩ dX7_readOne_43 rfl rfl (by simp [Value.category]) (by decide) (by decide) (by decide) (by decide) (fun r30 S32 g31 pr30 qr30 hg31 => ?_)
      obtain ⟨rfl, rfl, k33⟩ := pr30
      refine X_st [] rfl ?_
      obtain ⟨Ft34, at34, ot34, qt34, eFt34, lFt34, uFt34, eat34, lat34, uat34, eot34, lot34, uot34, eqt34, lqt34, uqt34, kt34⟩ := k33
      have cat34 : at34 ≤ 300 := by have h9 := (show xTB (xv g31 wt) (xv g31 wp) tk tl cn from (by rw [(xv_m hg31 hs_wt (by decide) (by decide)), (xv_m hg31 hs_wp (by decide) (by decide))]; exact hp0)).2.2.2; omega
      refine X_goto hK 148 dX7_readOne_46 (by decide) ?_
      exact hret _ _ _ _ _ _ dX7_readOne_148 ⟨rfl, rfl, ⟨Ft34, at34, ot34, qt34, eFt34, by omega, by omega, eat34, by omega, by omega, eot34, by omega, by omega, eqt34, by omega, by omega, (by obtain ⟨h8, h7, h6⟩ := kt34; have h5 := h8.resolve_left (fun q9 => by omega); rw [h5.2.1]; exact xRR.f1 (by rw [← k5]; omega) h5.2.2)⟩⟩ (Nat.le_refl _) (Nat.le_refl _)
  · refine X_iloadn hK (i := 3) 0 dX7_readOne_11 rfl rfl ?_
    refine X_bipush hK dX7_readOne_12 (by decide) ?_
    refine X_icmp_ge hK 21 (by omega) (by omega) dX7_readOne_14 (by decide) (fun c35 => ?_) (fun c35 => ?_)
    · refine X_iconst hK dX7_readOne_21 ?_
      refine X_istore hK (i := 4) [(4, .int (iI 0)), (3, .int (iI z4)), (0, .ref a0), (1, .ref a1), (2, .int (iI x2))] dX7_readOne_22 (by decide) rfl ?_
      refine X_iload hK (i := 4) 0 dX7_readOne_24 rfl ?_
      refine X_if_ne hK 49 (by omega) dX7_readOne_26 (by decide) (fun c36 => False.elim (by omega)) (fun c36 => ?_)
      refine X_iloadn hK (i := 3) 1 dX7_readOne_29 rfl rfl ?_
      refine X_bipush hK dX7_readOne_30 (by decide) ?_
      refine X_icmp_eq hK 49 (by omega) (by omega) dX7_readOne_32 (by decide) (fun c37 => False.elim (by omega)) (fun c37 => ?_)
      refine X_iloadn hK (i := 3) 1 dX7_readOne_35 rfl rfl ?_
      refine X_bipush hK dX7_readOne_36 (by decide) ?_
      refine X_icmp_eq hK 49 (by omega) (by omega) dX7_readOne_38 (by decide) (fun c38 => ?_) (fun c38 => ?_)
      · refine X_aloadn hK (i := 0) 2 dX7_readOne_49 rfl rfl ?_
        refine X_getK hK fl_X7_22_8 hs_a0 eno dX7_readOne_50 ?_
        refine X_bipush hK dX7_readOne_53 (by decide) ?_
        refine X_icmp_ge hK 64 (by omega) (by omega) dX7_readOne_55 (by decide) (fun c39 => ?_) (fun c39 => ?_)
        · refine X_aloadn hK (i := 0) 2 dX7_readOne_64 rfl rfl ?_
          refine X_iconst hK dX7_readOne_65 ?_
          refine X_callV hK [.int (iI 4)] [] lk_X7_60 (c3_tell _ _ _ _ _ S g a0 4 na no nf nq wt wp tk tl cn hs_a0 (by omega) (by omega) ena (by omega) eno (by omega) enf (by omega) enq ewt hs_wt ewp hs_wp hp0 (by omega) (by omega)) hs_a0 ⟨by decide, rfl⟩ dX7_readOne_66 rfl rfl (by simp [Value.category]) (by decide) (by decide) (by decide) (by decide) (fun r40 S42 g41 pr40 qr40 hg41 => ?_)
          obtain ⟨rfl, rfl, k43⟩ := pr40
          refine X_st [] rfl ?_
          obtain ⟨Ft44, at44, ot44, qt44, eFt44, lFt44, uFt44, eat44, lat44, uat44, eot44, lot44, uot44, eqt44, lqt44, uqt44, kt44⟩ := k43
          have cat44 : at44 ≤ 300 := by have h9 := (show xTB (xv g41 wt) (xv g41 wp) tk tl cn from (by rw [(xv_m hg41 hs_wt (by decide) (by decide)), (xv_m hg41 hs_wp (by decide) (by decide))]; exact hp0)).2.2.2; omega
          refine X_goto hK 148 dX7_readOne_69 (by decide) ?_
          exact hret _ _ _ _ _ _ dX7_readOne_148 ⟨rfl, rfl, ⟨Ft44, at44, ot44, qt44, eFt44, by omega, by omega, eat44, by omega, by omega, eot44, by omega, by omega, eqt44, by omega, by omega, (by obtain ⟨h8, h7, h6⟩ := kt44; have h5 := h8.resolve_left (fun q9 => by omega); rw [h5.2.1]; exact xRR.f4 (by rw [← k5]; omega) (by omega) h5.2.2)⟩⟩ (Nat.le_refl _) (Nat.le_refl _)
        · refine X_iloadn hK (i := 2) 4 dX7_readOne_58 rfl rfl ?_
          refine X_bipush hK dX7_readOne_59 (by decide) ?_
          refine X_icmp_le hK 72 (by omega) (by omega) dX7_readOne_61 (by decide) (fun c45 => ?_) (fun c45 => False.elim (by omega))
          refine X_aloadn hK (i := 0) 2 dX7_readOne_72 rfl rfl ?_
          refine X_dup hK dX7_readOne_73 rfl ?_
          refine X_getK hK fl_X7_22_8 hs_a0 eno dX7_readOne_74 ?_
          refine X_iconst hK dX7_readOne_77 ?_
          refine X_iadd hK dX7_readOne_78 ?_
          refine X_puti hK fl_X7_22_8 hs_a0 (by decide) sl_8_3 (by omega) (by omega) dX7_readOne_79 (fun g46 hg46 => ?_)
          refine X_aloadn hK (i := 0) 2 dX7_readOne_82 rfl rfl ?_
          refine X_dup hK dX7_readOne_83 rfl ?_
          have hl47 := xTB.lt (A := xv g46 wt) (B := xv g46 wp) (tk := tk) (tl := tl) (c := cn) (a := na) (by rw [(xv_a hg46 (xne hs_wt hs_a0 (by decide))), (xv_a hg46 (xne hs_wp hs_a0 (by decide)))]; exact hp0) (by omega) (by rw [← k5]; omega)
          refine X_getK hK fl_X7_18_8 hs_a0 ((xs_k hg46 (by decide)).trans ena) dX7_readOne_84 ?_
          refine X_iconst hK dX7_readOne_87 ?_
          refine X_iadd hK dX7_readOne_88 ?_
          refine X_puti hK fl_X7_18_8 hs_a0 (by decide) sl_8_2 (by omega) (by omega) dX7_readOne_89 (fun g48 hg48 => ?_)
          refine X_iload hK (i := 4) 0 dX7_readOne_92 rfl ?_
          refine X_if_eq hK 109 (by omega) dX7_readOne_94 (by decide) (fun c49 => ?_) (fun c49 => False.elim (by omega))
          refine X_iloadn hK (i := 3) 1 dX7_readOne_109 rfl rfl ?_
          refine X_bipush hK dX7_readOne_110 (by decide) ?_
          refine X_icmp_ne hK 132 (by omega) (by omega) dX7_readOne_112 (by decide) (fun c50 => False.elim (by omega)) (fun c50 => ?_)
          refine X_aloadn hK (i := 0) 2 dX7_readOne_115 rfl rfl ?_
          refine X_aloadn hK (i := 1) 3 dX7_readOne_116 rfl rfl ?_
          refine X_iloadn hK (i := 2) 4 dX7_readOne_117 rfl rfl ?_
          refine X_iconst hK dX7_readOne_118 ?_
          refine X_iadd hK dX7_readOne_119 ?_
          refine X_callV hK [.ref a1, .int (iI (x2 + 1))] [] lk_X7_115 (c3_readCond_6 _ _ _ _ _ S g48 a0 a1 (x2 + 1) (na + 1) (no + 1) nf nq wt wp tk tl cn hs_a0 hs_a1 (by omega) (by omega) (xs_s hg48) (by omega) ((xs_k hg48 (by decide)).trans (xs_s hg46)) (by omega) ((xs_k hg48 (by decide)).trans ((xs_k hg46 (by decide)).trans enf)) (by omega) ((xs_k hg48 (by decide)).trans ((xs_k hg46 (by decide)).trans enq)) ((xs_k hg48 (by decide)).trans ((xs_k hg46 (by decide)).trans ewt)) hs_wt ((xs_k hg48 (by decide)).trans ((xs_k hg46 (by decide)).trans ewp)) hs_wp (by rw [(Eq.trans (xv_a hg48 (xne hs_wt hs_a0 (by decide))) (xv_a hg46 (xne hs_wt hs_a0 (by decide)))), (Eq.trans (xv_a hg48 (xne hs_wp hs_a0 (by decide))) (xv_a hg46 (xne hs_wp hs_a0 (by decide))))]; exact hp0) (by omega) (by omega)) hs_a0 ⟨by decide, rfl⟩ dX7_readOne_120 rfl rfl (by simp [Value.category]) (by decide) (by decide) (by decide) (by decide) (fun r51 S53 g52 pr51 qr51 hg52 => ?_)
          obtain ⟨rfl, rfl, k54⟩ := pr51
          refine X_st [] rfl ?_
          obtain ⟨Ft55, at55, ot55, qt55, eFt55, lFt55, uFt55, eat55, lat55, uat55, eot55, lot55, uot55, eqt55, lqt55, uqt55, kt55⟩ := k54
          have cat55 : at55 ≤ 300 := by have h9 := (show xTB (xv g52 wt) (xv g52 wp) tk tl cn from (by rw [(Eq.trans (Eq.trans (xv_m hg52 hs_wt (by decide) (by decide)) (xv_a hg48 (xne hs_wt hs_a0 (by decide)))) (xv_a hg46 (xne hs_wt hs_a0 (by decide)))), (Eq.trans (Eq.trans (xv_m hg52 hs_wp (by decide) (by decide)) (xv_a hg48 (xne hs_wp hs_a0 (by decide)))) (xv_a hg46 (xne hs_wp hs_a0 (by decide))))]; exact hp0)).2.2.2; omega
          refine X_aloadn hK (i := 0) 2 dX7_readOne_123 rfl rfl ?_
          refine X_bipush hK dX7_readOne_124 (by decide) ?_
          refine X_callV hK [.int (iI 26)] [] lk_X7_119 (c3_expect _ _ _ _ _ S g52 a0 26 at55 ot55 Ft55 qt55 wt wp tk tl cn hs_a0 (by omega) (by omega) eat55 (by omega) eot55 (by omega) eFt55 (by omega) eqt55 ((hg52 a0 8 0 0 hs_a0 (by decide)).trans ((xs_k hg48 (by decide)).trans ((xs_k hg46 (by decide)).trans ewt))) hs_wt ((hg52 a0 8 0 1 hs_a0 (by decide)).trans ((xs_k hg48 (by decide)).trans ((xs_k hg46 (by decide)).trans ewp))) hs_wp (by rw [(Eq.trans (Eq.trans (xv_m hg52 hs_wt (by decide) (by decide)) (xv_a hg48 (xne hs_wt hs_a0 (by decide)))) (xv_a hg46 (xne hs_wt hs_a0 (by decide)))), (Eq.trans (Eq.trans (xv_m hg52 hs_wp (by decide) (by decide)) (xv_a hg48 (xne hs_wp hs_a0 (by decide)))) (xv_a hg46 (xne hs_wp hs_a0 (by decide))))]; exact hp0) (by omega) (by omega)) hs_a0 ⟨by decide, rfl⟩ dX7_readOne_126 rfl rfl (by simp [Value.category]) (by decide) (by decide) (by decide) (by decide) (fun r56 S58 g57 pr56 qr56 hg57 => ?_)
          obtain ⟨rfl, rfl, k59⟩ := pr56
          refine X_st [] rfl ?_
          obtain ⟨Ft60, at60, ot60, qt60, eFt60, lFt60, uFt60, eat60, lat60, uat60, eot60, lot60, uot60, eqt60, lqt60, uqt60, kt60⟩ := k59
          have cat60 : at60 ≤ 300 := by have h9 := (show xTB (xv g57 wt) (xv g57 wp) tk tl cn from (by rw [(Eq.trans (Eq.trans (Eq.trans (xv_m hg57 hs_wt (by decide) (by decide)) (xv_m hg52 hs_wt (by decide) (by decide))) (xv_a hg48 (xne hs_wt hs_a0 (by decide)))) (xv_a hg46 (xne hs_wt hs_a0 (by decide)))), (Eq.trans (Eq.trans (Eq.trans (xv_m hg57 hs_wp (by decide) (by decide)) (xv_m hg52 hs_wp (by decide) (by decide))) (xv_a hg48 (xne hs_wp hs_a0 (by decide)))) (xv_a hg46 (xne hs_wp hs_a0 (by decide))))]; exact hp0)).2.2.2; omega
          refine X_goto hK 148 dX7_readOne_129 (by decide) ?_
          exact hret _ _ _ _ _ _ dX7_readOne_148 ⟨rfl, rfl, ⟨Ft60, at60, ot60, qt60, eFt60, by omega, by omega, eat60, by omega, by omega, eot60, by omega, by omega, eqt60, by omega, by omega, (by obtain ⟨h8, h7⟩ := kt60; by_cases f9 : Ft55 = 0; (rcases h8 with ⟨c1, c2, c3, c4⟩ | ⟨c1, c2, c3⟩; (rw [show Ft60 = 0 by omega, c3, h7]; exact xRR.po (by rw [← k5]; omega) (by omega) (show xRR tk tl 2 (5 + 1) (na + 1) (no + 1) Ft55 at55 ot55 qt55 from kt55) f9 c1); (have c4 := c3.resolve_left (fun q9 => q9.1 f9); rw [c4.2.1]; exact xRR.px (by rw [← k5]; omega) (by omega) (show xRR tk tl 2 (5 + 1) (na + 1) (no + 1) Ft55 at55 ot55 qt55 from kt55) f9 c1 c4.2.2)); (have h6 : Ft60 = Ft55 ∧ qt60 = qt55 := (by omega); rw [h6.1, h6.2]; exact xRR.pf (by rw [← k5]; omega) (by omega) (show xRR tk tl 2 (5 + 1) (na + 1) (no + 1) Ft55 at55 ot55 qt55 from kt55) f9))⟩⟩ (Nat.le_refl _) (Nat.le_refl _)
      · refine X_aloadn hK (i := 0) 2 dX7_readOne_41 rfl rfl ?_
        refine X_iconst hK dX7_readOne_42 ?_
        refine X_callV hK [.int (iI 1)] [] lk_X7_60 (c3_tell _ _ _ _ _ S g a0 1 na no nf nq wt wp tk tl cn hs_a0 (by omega) (by omega) ena (by omega) eno (by omega) enf (by omega) enq ewt hs_wt ewp hs_wp hp0 (by omega) (by omega)) hs_a0 ⟨by decide, rfl⟩ dX7_readOne_43 rfl rfl (by simp [Value.category]) (by decide) (by decide) (by decide) (by decide) (fun r61 S63 g62 pr61 qr61 hg62 => ?_)
        obtain ⟨rfl, rfl, k64⟩ := pr61
        refine X_st [] rfl ?_
        obtain ⟨Ft65, at65, ot65, qt65, eFt65, lFt65, uFt65, eat65, lat65, uat65, eot65, lot65, uot65, eqt65, lqt65, uqt65, kt65⟩ := k64
        have cat65 : at65 ≤ 300 := by have h9 := (show xTB (xv g62 wt) (xv g62 wp) tk tl cn from (by rw [(xv_m hg62 hs_wt (by decide) (by decide)), (xv_m hg62 hs_wp (by decide) (by decide))]; exact hp0)).2.2.2; omega
        refine X_goto hK 148 dX7_readOne_46 (by decide) ?_
        exact hret _ _ _ _ _ _ dX7_readOne_148 ⟨rfl, rfl, ⟨Ft65, at65, ot65, qt65, eFt65, by omega, by omega, eat65, by omega, by omega, eot65, by omega, by omega, eqt65, by omega, by omega, (by obtain ⟨h8, h7, h6⟩ := kt65; have h5 := h8.resolve_left (fun q9 => by omega); rw [h5.2.1]; exact xRR.f1 (by rw [← k5]; omega) h5.2.2)⟩⟩ (Nat.le_refl _) (Nat.le_refl _)
    · refine X_iconst hK dX7_readOne_17 ?_
      refine X_goto hK 22 dX7_readOne_18 (by decide) ?_
      refine X_istore hK (i := 4) [(4, .int (iI 1)), (3, .int (iI z4)), (0, .ref a0), (1, .ref a1), (2, .int (iI x2))] dX7_readOne_22 (by decide) rfl ?_
      refine X_iload hK (i := 4) 0 dX7_readOne_24 rfl ?_
      refine X_if_ne hK 49 (by omega) dX7_readOne_26 (by decide) (fun c66 => ?_) (fun c66 => False.elim (by omega))
      refine X_aloadn hK (i := 0) 2 dX7_readOne_49 rfl rfl ?_
      refine X_getK hK fl_X7_22_8 hs_a0 eno dX7_readOne_50 ?_
      refine X_bipush hK dX7_readOne_53 (by decide) ?_
      refine X_icmp_ge hK 64 (by omega) (by omega) dX7_readOne_55 (by decide) (fun c67 => ?_) (fun c67 => ?_)
      · refine X_aloadn hK (i := 0) 2 dX7_readOne_64 rfl rfl ?_
        refine X_iconst hK dX7_readOne_65 ?_
        refine X_callV hK [.int (iI 4)] [] lk_X7_60 (c3_tell _ _ _ _ _ S g a0 4 na no nf nq wt wp tk tl cn hs_a0 (by omega) (by omega) ena (by omega) eno (by omega) enf (by omega) enq ewt hs_wt ewp hs_wp hp0 (by omega) (by omega)) hs_a0 ⟨by decide, rfl⟩ dX7_readOne_66 rfl rfl (by simp [Value.category]) (by decide) (by decide) (by decide) (by decide) (fun r68 S70 g69 pr68 qr68 hg69 => ?_)
        obtain ⟨rfl, rfl, k71⟩ := pr68
        refine X_st [] rfl ?_
        obtain ⟨Ft72, at72, ot72, qt72, eFt72, lFt72, uFt72, eat72, lat72, uat72, eot72, lot72, uot72, eqt72, lqt72, uqt72, kt72⟩ := k71
        have cat72 : at72 ≤ 300 := by have h9 := (show xTB (xv g69 wt) (xv g69 wp) tk tl cn from (by rw [(xv_m hg69 hs_wt (by decide) (by decide)), (xv_m hg69 hs_wp (by decide) (by decide))]; exact hp0)).2.2.2; omega
        refine X_goto hK 148 dX7_readOne_69 (by decide) ?_
        exact hret _ _ _ _ _ _ dX7_readOne_148 ⟨rfl, rfl, ⟨Ft72, at72, ot72, qt72, eFt72, by omega, by omega, eat72, by omega, by omega, eot72, by omega, by omega, eqt72, by omega, by omega, (by obtain ⟨h8, h7, h6⟩ := kt72; have h5 := h8.resolve_left (fun q9 => by omega); rw [h5.2.1]; exact xRR.f4 (by rw [← k5]; omega) (by omega) h5.2.2)⟩⟩ (Nat.le_refl _) (Nat.le_refl _)
      · refine X_iloadn hK (i := 2) 4 dX7_readOne_58 rfl rfl ?_
        refine X_bipush hK dX7_readOne_59 (by decide) ?_
        refine X_icmp_le hK 72 (by omega) (by omega) dX7_readOne_61 (by decide) (fun c73 => ?_) (fun c73 => False.elim (by omega))
        refine X_aloadn hK (i := 0) 2 dX7_readOne_72 rfl rfl ?_
        refine X_dup hK dX7_readOne_73 rfl ?_
        refine X_getK hK fl_X7_22_8 hs_a0 eno dX7_readOne_74 ?_
        refine X_iconst hK dX7_readOne_77 ?_
        refine X_iadd hK dX7_readOne_78 ?_
        refine X_puti hK fl_X7_22_8 hs_a0 (by decide) sl_8_3 (by omega) (by omega) dX7_readOne_79 (fun g74 hg74 => ?_)
        refine X_aloadn hK (i := 0) 2 dX7_readOne_82 rfl rfl ?_
        refine X_dup hK dX7_readOne_83 rfl ?_
        have hl75 := xTB.lt (A := xv g74 wt) (B := xv g74 wp) (tk := tk) (tl := tl) (c := cn) (a := na) (by rw [(xv_a hg74 (xne hs_wt hs_a0 (by decide))), (xv_a hg74 (xne hs_wp hs_a0 (by decide)))]; exact hp0) (by omega) (by rw [← k5]; omega)
        refine X_getK hK fl_X7_18_8 hs_a0 ((xs_k hg74 (by decide)).trans ena) dX7_readOne_84 ?_
        refine X_iconst hK dX7_readOne_87 ?_
        refine X_iadd hK dX7_readOne_88 ?_
        refine X_puti hK fl_X7_18_8 hs_a0 (by decide) sl_8_2 (by omega) (by omega) dX7_readOne_89 (fun g76 hg76 => ?_)
        refine X_iload hK (i := 4) 0 dX7_readOne_92 rfl ?_
        refine X_if_eq hK 109 (by omega) dX7_readOne_94 (by decide) (fun c77 => False.elim (by omega)) (fun c77 => ?_)
        refine X_aloadn hK (i := 0) 2 dX7_readOne_97 rfl rfl ?_
        refine X_aloadn hK (i := 1) 3 dX7_readOne_98 rfl rfl ?_
        refine X_iloadn hK (i := 3) 1 dX7_readOne_99 rfl rfl ?_
        refine X_bipush hK dX7_readOne_100 (by decide) ?_
        refine X_isub hK dX7_readOne_102 ?_
        refine X_callV hK [.ref a1, .int (iI (z4 - 10))] [] lk_X7_135 (c3_readFact _ _ _ _ _ S g76 a0 a1 (z4 - 10) (na + 1) (no + 1) nf nq wt wp tk tl cn 5 hs_a0 hs_a1 (by omega) (by omega) (xs_s hg76) (by omega) ((xs_k hg76 (by decide)).trans (xs_s hg74)) (by omega) ((xs_k hg76 (by decide)).trans ((xs_k hg74 (by decide)).trans enf)) (by omega) ((xs_k hg76 (by decide)).trans ((xs_k hg74 (by decide)).trans enq)) ((xs_k hg76 (by decide)).trans ((xs_k hg74 (by decide)).trans ewt)) hs_wt ((xs_k hg76 (by decide)).trans ((xs_k hg74 (by decide)).trans ewp)) hs_wp (by rw [(Eq.trans (xv_a hg76 (xne hs_wt hs_a0 (by decide))) (xv_a hg74 (xne hs_wt hs_a0 (by decide)))), (Eq.trans (xv_a hg76 (xne hs_wp hs_a0 (by decide))) (xv_a hg74 (xne hs_wp hs_a0 (by decide))))]; exact hp0) (by omega) (by omega) (by rw [show (na + 1) - 1 = na by omega, ← k5]; omega) (by omega)) hs_a0 ⟨by decide, rfl⟩ dX7_readOne_103 rfl rfl (by simp [Value.category]) (by decide) (by decide) (by decide) (by decide) (fun r78 S80 g79 pr78 qr78 hg79 => ?_)
        obtain ⟨rfl, rfl, k81⟩ := pr78
        refine X_st [] rfl ?_
        obtain ⟨Ft82, at82, ot82, qt82, eFt82, lFt82, uFt82, eat82, lat82, uat82, eot82, lot82, uot82, eqt82, lqt82, uqt82, kt82⟩ := k81
        have cat82 : at82 ≤ 300 := by have h9 := (show xTB (xv g79 wt) (xv g79 wp) tk tl cn from (by rw [(Eq.trans (Eq.trans (xv_m hg79 hs_wt (by decide) (by decide)) (xv_a hg76 (xne hs_wt hs_a0 (by decide)))) (xv_a hg74 (xne hs_wt hs_a0 (by decide)))), (Eq.trans (Eq.trans (xv_m hg79 hs_wp (by decide) (by decide)) (xv_a hg76 (xne hs_wp hs_a0 (by decide)))) (xv_a hg74 (xne hs_wp hs_a0 (by decide))))]; exact hp0)).2.2.2; omega
        refine X_goto hK 148 dX7_readOne_106 (by decide) ?_
        exact hret _ _ _ _ _ _ dX7_readOne_148 ⟨rfl, rfl, ⟨Ft82, at82, ot82, qt82, eFt82, by omega, by omega, eat82, by omega, by omega, eot82, by omega, by omega, eqt82, by omega, by omega, (by have h9 := kt82; rw [show na + 1 - 1 = na by omega, show no + 1 - 1 = no by omega] at h9; exact h9)⟩⟩ (Nat.le_refl _) (Nat.le_refl _)

set_option maxHeartbeats 4000000 in
set_option maxRecDepth 100000 in
theorem c3_readAll_5 (l : Launch) (D : va_G) (kA : Nat → ClassId) (b0 : Nat) (t0 : Nat → Nat) (S : xT) (g : xG) (a0 : Nat) (a1 : Nat) (x2 : Int) (na : Int) (no : Int) (nf : Int) (nq : Int) (wt : Nat) (wp : Nat) (tk : Int → Int) (tl : Int → Int) (cn : Int) (hs_a0 : S a0 = some (8, 0)) (hs_a1 : S a1 = some (11, 0)) (hx2 : 5 ≤ x2 ∧ x2 ≤ 5) (hna : 0 ≤ na ∧ na ≤ 300) (ena : g a0 2 = .int (iI na)) (hno : 0 ≤ no ∧ no ≤ 50) (eno : g a0 3 = .int (iI no)) (hnf : 0 ≤ nf ∧ nf ≤ 0) (enf : g a0 5 = .int (iI nf)) (hnq : 0 ≤ nq ∧ nq ≤ 300) (enq : g a0 6 = .int (iI nq)) (ewt : g a0 0 = .ref wt) (hs_wt : S wt = some (12900, 301)) (ewp : g a0 1 = .ref wp) (hs_wp : S wp = some (13000, 301)) (hp0 : xTB (xv g wt) (xv g wp) tk tl cn) (hp1 : na ≤ cn) (hp2 : cn ≤ 300) : xMt l yX7_readAll cX7_readAll 4 none 20 0 0 465 D kA b0 t0 [(8, 5), (8, 6), (8, 3), (8, 2), (14000, 0), (11, 2)] [.ref a0, .ref a1, .int (iI x2)] S g (fun (r : Option Value) (S1 : xT) (g1 : xG) => S = S1 ∧ r = none ∧ (∃ F a o q : Int, g1 a0 5 = .int (iI F) ∧ -2147483648 ≤ F ∧ F ≤ 2147483647 ∧ g1 a0 2 = .int (iI a) ∧ 0 ≤ a ∧ a ≤ cn ∧ g1 a0 3 = .int (iI o) ∧ 0 ≤ o ∧ o ≤ 50 ∧ g1 a0 6 = .int (iI q) ∧ 0 ≤ q ∧ q ≤ 300 ∧ xRR tk tl 1 5 na no F a o q)) := by
  refine xEnterV (by decide) (by simp [lg_sl, Value.category]) [(0, .ref a0), (1, .ref a1), (2, .int (iI x2))] rfl ?_
  intro K E hK hret _ _ _
  refine X_aloadn hK (i := 0) 0 dX7_readAll_0 rfl rfl ?_
  refine X_aloadn hK (i := 1) 1 dX7_readAll_1 rfl rfl ?_
  refine X_iloadn hK (i := 2) 2 dX7_readAll_2 rfl rfl ?_
  refine X_callV hK [.ref a1, .int (iI x2)] [] lk_X7_132 (c3_readOne_5 _ _ _ _ _ S g a0 a1 x2 na no nf nq wt wp tk tl cn hs_a0 hs_a1 (by omega) (by omega) ena (by omega) eno (by omega) enf (by omega) enq ewt hs_wt ewp hs_wp hp0 (by omega) (by omega)) hs_a0 ⟨by decide, rfl⟩ dX7_readAll_3 rfl rfl (by simp [Value.category]) (by decide) (by decide) (by decide) (by decide) (fun r1 S3 g2 pr1 qr1 hg2 => ?_)
  obtain ⟨rfl, rfl, k4⟩ := pr1
  refine X_st [] rfl ?_
  obtain ⟨Ft5, at5, ot5, qt5, eFt5, lFt5, uFt5, eat5, lat5, uat5, eot5, lot5, uot5, eqt5, lqt5, uqt5, kt5⟩ := k4
  have cat5 : at5 ≤ 300 := by have h9 := (show xTB (xv g2 wt) (xv g2 wp) tk tl cn from (by rw [(xv_m hg2 hs_wt (by decide) (by decide)), (xv_m hg2 hs_wp (by decide) (by decide))]; exact hp0)).2.2.2; omega
  refine X_iconst hK dX7_readAll_6 ?_
  refine X_istoren hK (i := 3) [(3, .int (iI 0)), (0, .ref a0), (1, .ref a1), (2, .int (iI x2))] dX7_readAll_7 rfl (by decide) rfl ?_
  have P120 : ∀ (nP120 : Nat) (g98 : xG) (_ : xM [(14000, 0), (11, 2), (8, 5), (8, 6), (8, 3), (8, 2)] S g2 g98) (z97 : Int) (_ : 0 ≤ z97) (_ : z97 ≤ 50) (q99 : Int) (_ : 0 ≤ q99) (_ : q99 ≤ 300) (_ : g98 a0 2 = .int (iI q99)) (q100 : Int) (_ : 0 ≤ q100) (_ : q100 ≤ 50) (_ : g98 a0 3 = .int (iI q100)) (q101 : Int) (_ : (-2147483648) ≤ q101) (_ : q101 ≤ 2147483647) (_ : g98 a0 5 = .int (iI q101)) (q102 : Int) (_ : 0 ≤ q102) (_ : q102 ≤ 300) (_ : g98 a0 6 = .int (iI q102)) (_ : xIn tk tl 1 5 na no q101 q99 q100 q102) (_ : q101 = 0 → no + 1 + z97 ≤ q100) (_ : q99 ≤ cn) (_ : 60 - z97 < (nP120 : Int)), X K E 8 [(3, .int (iI z97)), (0, .ref a0), (1, .ref a1), (2, .int (iI x2))] [] S g98 0 0 := by
    intro nP120
    induction nP120 with
    | zero => intro g98 hg98 z97 lz97 uz97 q99 lq99 uq99 eq99 q100 lq100 uq100 eq100 q101 lq101 uq101 eq101 q102 lq102 uq102 eq102 v121 v122 v123 mP120; exact False.elim (by omega)
    | succ nP120 ihP120 =>
      intro g98 hg98 z97 lz97 uz97 q99 lq99 uq99 eq99 q100 lq100 uq100 eq100 q101 lq101 uq101 eq101 q102 lq102 uq102 eq102 v121 v122 v123 mP120
      refine X_iloadn hK (i := 3) 0 dX7_readAll_8 rfl rfl ?_
      refine X_bipush hK dX7_readAll_9 (by decide) ?_
      refine X_icmp_ge hK 60 (by omega) (by omega) dX7_readAll_11 (by decide) (fun c124 => ?_) (fun c124 => ?_)
      · exact hret _ _ _ _ _ _ dX7_readAll_60 ⟨rfl, rfl, ⟨q101, q99, q100, q102, eq101, by omega, by omega, eq99, by omega, by omega, eq100, by omega, by omega, eq102, by omega, by omega, (xIn.e v121 (fun h9 => False.elim (by have h8 := v122 h9; omega)))⟩⟩ (Nat.le_refl _) (Nat.le_refl _)
      · refine X_aloadn hK (i := 0) 1 dX7_readAll_14 rfl rfl ?_
        refine X_getK hK fl_X7_29_8 hs_a0 eq101 dX7_readAll_15 ?_
        refine X_if_ne hK 60 (by omega) dX7_readAll_18 (by decide) (fun c125 => ?_) (fun c125 => ?_)
        · exact hret _ _ _ _ _ _ dX7_readAll_60 ⟨rfl, rfl, ⟨q101, q99, q100, q102, eq101, by omega, by omega, eq99, by omega, by omega, eq100, by omega, by omega, eq102, by omega, by omega, (xIn.e v121 (fun h9 => False.elim (by have h8 := v122 h9; omega)))⟩⟩ (Nat.le_refl _) (Nat.le_refl _)
        · refine X_aloadn hK (i := 0) 1 dX7_readAll_21 rfl rfl ?_
          refine X_callV hK [] [] lk_X7_47 (c3_now _ _ _ _ _ S g98 a0 q99 wt wp tk tl cn hs_a0 (by omega) eq99 ((hg98 a0 8 0 0 hs_a0 (by decide)).trans ((hg2 a0 8 0 0 hs_a0 (by decide)).trans ewt)) hs_wt ((hg98 a0 8 0 1 hs_a0 (by decide)).trans ((hg2 a0 8 0 1 hs_a0 (by decide)).trans ewp)) hs_wp (by rw [(Eq.trans (xv_m hg98 hs_wt (by decide) (by decide)) (xv_m hg2 hs_wt (by decide) (by decide))), (Eq.trans (xv_m hg98 hs_wp (by decide) (by decide)) (xv_m hg2 hs_wp (by decide) (by decide)))]; exact hp0) (by omega) (by omega)) hs_a0 ⟨by decide, rfl⟩ dX7_readAll_22 rfl rfl (by simp [Value.category]) (by decide) (by decide) (by decide) (by decide) (fun r126 S128 g127 pr126 qr126 hg127 => ?_)
          obtain ⟨rfl, rfl, z129, rfl, lz129, uz129, k130⟩ := pr126
          refine X_st [.int (iI z129)] rfl ?_
          refine X_bipush hK dX7_readAll_25 (by decide) ?_
          refine X_icmp_ne hK 60 (by omega) (by omega) dX7_readAll_27 (by decide) (fun c131 => ?_) (fun c131 => ?_)
          · exact hret _ _ _ _ _ _ dX7_readAll_60 ⟨rfl, rfl, ⟨q101, q99, q100, q102, eq101, by omega, by omega, eq99, by omega, by omega, eq100, by omega, by omega, eq102, by omega, by omega, (xIn.e v121 (fun h9 => Or.inl ⟨rfl, by rw [← k130]; omega⟩))⟩⟩ (Nat.le_refl _) (Nat.le_refl _)
          · refine X_aloadn hK (i := 0) 1 dX7_readAll_30 rfl rfl ?_
            refine X_dup hK dX7_readAll_31 rfl ?_
            have hl132 := xTB.lt (A := xv g98 wt) (B := xv g98 wp) (tk := tk) (tl := tl) (c := cn) (a := q99) (by rw [(Eq.trans (xv_m hg98 hs_wt (by decide) (by decide)) (xv_m hg2 hs_wt (by decide) (by decide))), (Eq.trans (xv_m hg98 hs_wp (by decide) (by decide)) (xv_m hg2 hs_wp (by decide) (by decide)))]; exact hp0) (by omega) (by rw [← k130]; omega)
            refine X_getK hK fl_X7_18_8 hs_a0 eq99 dX7_readAll_32 ?_
            refine X_iconst hK dX7_readAll_35 ?_
            refine X_iadd hK dX7_readAll_36 ?_
            refine X_puti hK fl_X7_18_8 hs_a0 (by decide) sl_8_2 (by omega) (by omega) dX7_readAll_37 (fun g133 hg133 => ?_)
            refine X_aloadn hK (i := 0) 1 dX7_readAll_40 rfl rfl ?_
            refine X_aloadn hK (i := 1) 2 dX7_readAll_41 rfl rfl ?_
            refine X_iloadn hK (i := 2) 3 dX7_readAll_42 rfl rfl ?_
            refine X_callV hK [.ref a1, .int (iI x2)] [] lk_X7_132 (c3_readOne_5 _ _ _ _ _ S g133 a0 a1 x2 (q99 + 1) q100 q101 q102 wt wp tk tl cn hs_a0 hs_a1 (by omega) (by omega) (xs_s hg133) (by omega) ((xs_k hg133 (by decide)).trans eq100) (by omega) ((xs_k hg133 (by decide)).trans eq101) (by omega) ((xs_k hg133 (by decide)).trans eq102) ((xs_k hg133 (by decide)).trans ((hg98 a0 8 0 0 hs_a0 (by decide)).trans ((hg2 a0 8 0 0 hs_a0 (by decide)).trans ewt))) hs_wt ((xs_k hg133 (by decide)).trans ((hg98 a0 8 0 1 hs_a0 (by decide)).trans ((hg2 a0 8 0 1 hs_a0 (by decide)).trans ewp))) hs_wp (by rw [(Eq.trans (Eq.trans (xv_a hg133 (xne hs_wt hs_a0 (by decide))) (xv_m hg98 hs_wt (by decide) (by decide))) (xv_m hg2 hs_wt (by decide) (by decide))), (Eq.trans (Eq.trans (xv_a hg133 (xne hs_wp hs_a0 (by decide))) (xv_m hg98 hs_wp (by decide) (by decide))) (xv_m hg2 hs_wp (by decide) (by decide)))]; exact hp0) (by omega) (by omega)) hs_a0 ⟨by decide, rfl⟩ dX7_readAll_43 rfl rfl (by simp [Value.category]) (by decide) (by decide) (by decide) (by decide) (fun r134 S136 g135 pr134 qr134 hg135 => ?_)
            obtain ⟨rfl, rfl, k137⟩ := pr134
            refine X_st [] rfl ?_
            obtain ⟨Ft138, at138, ot138, qt138, eFt138, lFt138, uFt138, eat138, lat138, uat138, eot138, lot138, uot138, eqt138, lqt138, uqt138, kt138⟩ := k137
            have cat138 : at138 ≤ 300 := by have h9 := (show xTB (xv g135 wt) (xv g135 wp) tk tl cn from (by rw [(Eq.trans (Eq.trans (Eq.trans (xv_m hg135 hs_wt (by decide) (by decide)) (xv_a hg133 (xne hs_wt hs_a0 (by decide)))) (xv_m hg98 hs_wt (by decide) (by decide))) (xv_m hg2 hs_wt (by decide) (by decide))), (Eq.trans (Eq.trans (Eq.trans (xv_m hg135 hs_wp (by decide) (by decide)) (xv_a hg133 (xne hs_wp hs_a0 (by decide)))) (xv_m hg98 hs_wp (by decide) (by decide))) (xv_m hg2 hs_wp (by decide) (by decide)))]; exact hp0)).2.2.2; omega
            refine X_aloadn hK (i := 1) 2 dX7_readAll_46 rfl rfl ?_
            refine X_bipush hK dX7_readAll_47 (by decide) ?_
            refine X_iconst hK dX7_readAll_49 ?_
            refine X_iconst hK dX7_readAll_50 ?_
            refine X_callV hK [.int (iI 13), .int (iI 0), .int (iI 0)] [] lk_X7_129 (c_X10_addStep _ _ _ _ _ S g135 a1 13 0 0 hs_a1 (by omega) (by omega) (by omega)) hs_a1 ⟨by decide, rfl⟩ dX7_readAll_51 rfl rfl (by simp [Value.category]) (by decide) (by decide) (by decide) (by decide) (fun r139 S141 g140 pr139 qr139 hg140 => ?_)
            obtain ⟨rfl, rfl⟩ := pr139
            refine X_st [] rfl ?_
            refine X_iinc hK (i := 3) (z := z97) (n := 1) 0 [(3, .int (iI (z97 + 1))), (0, .ref a0), (1, .ref a1), (2, .int (iI x2))] dX7_readAll_54 rfl (by decide) rfl ?_
            refine X_goto hK 8 dX7_readAll_57 (by decide) ?_
            exact ihP120  g140 (xM.tr (xM.tr (xM_up (xM.tr xM.rf xLe.rf hg98 (by decide)) hg133 hs_a0 (by decide) (by decide)) xLe.rf hg135 (by decide)) xLe.rf hg140 (by decide)) (z97 + 1) (by omega) (by omega) at138 (by omega) (by omega) ((hg140 a0 8 0 2 hs_a0 (by decide)).trans eat138) ot138 (by omega) (by omega) ((hg140 a0 8 0 3 hs_a0 (by decide)).trans eot138) Ft138 (by omega) (by omega) ((hg140 a0 8 0 5 hs_a0 (by decide)).trans eFt138) qt138 (by omega) (by omega) ((hg140 a0 8 0 6 hs_a0 (by decide)).trans eqt138) (xIn.s (Or.inl ⟨rfl, rfl, (by rw [← k130]; omega)⟩) v121 (by omega) kt138) (fun h9 => by have h8 := xRR.b kt138 h9; omega) (by omega) (by omega)
  exact P120 ((60 - 0 : Int).toNat + 1) g2 xM.rf 0 (by omega) (by omega) at5 (by omega) (by omega) eat5 ot5 (by omega) (by omega) eot5 Ft5 (by omega) (by omega) eFt5 qt5 (by omega) (by omega) eqt5 (xIn.z (Or.inl ⟨rfl, rfl⟩) kt5) (fun h9 => by have h8 := xRR.b kt5 h9; omega) (by omega) (by omega)

set_option maxHeartbeats 4000000 in
set_option maxRecDepth 100000 in
theorem c3_readCond_5 (l : Launch) (D : va_G) (kA : Nat → ClassId) (b0 : Nat) (t0 : Nat → Nat) (S : xT) (g : xG) (a0 : Nat) (a1 : Nat) (x2 : Int) (na : Int) (no : Int) (nf : Int) (nq : Int) (wt : Nat) (wp : Nat) (tk : Int → Int) (tl : Int → Int) (cn : Int) (hs_a0 : S a0 = some (8, 0)) (hs_a1 : S a1 = some (11, 0)) (hx2 : 5 ≤ x2 ∧ x2 ≤ 5) (hna : 0 ≤ na ∧ na ≤ 300) (ena : g a0 2 = .int (iI na)) (hno : 0 ≤ no ∧ no ≤ 50) (eno : g a0 3 = .int (iI no)) (hnf : 0 ≤ nf ∧ nf ≤ 0) (enf : g a0 5 = .int (iI nf)) (hnq : 0 ≤ nq ∧ nq ≤ 300) (enq : g a0 6 = .int (iI nq)) (ewt : g a0 0 = .ref wt) (hs_wt : S wt = some (12900, 301)) (ewp : g a0 1 = .ref wp) (hs_wp : S wp = some (13000, 301)) (hp0 : xTB (xv g wt) (xv g wp) tk tl cn) (hp1 : na ≤ cn) (hp2 : cn ≤ 300) : xMt l yX7_readCond cX7_readCond 4 none 21 0 0 488 D kA b0 t0 [(8, 5), (8, 6), (8, 3), (8, 2), (14000, 0), (11, 2)] [.ref a0, .ref a1, .int (iI x2)] S g (fun (r : Option Value) (S1 : xT) (g1 : xG) => S = S1 ∧ r = none ∧ (∃ F a o q : Int, g1 a0 5 = .int (iI F) ∧ -2147483648 ≤ F ∧ F ≤ 2147483647 ∧ g1 a0 2 = .int (iI a) ∧ 0 ≤ a ∧ a ≤ cn ∧ g1 a0 3 = .int (iI o) ∧ 0 ≤ o ∧ o ≤ 50 ∧ g1 a0 6 = .int (iI q) ∧ 0 ≤ q ∧ q ≤ 300 ∧ xRR tk tl 2 5 na no F a o q)) := by
  refine xEnterV (by decide) (by simp [lg_sl, Value.category]) [(0, .ref a0), (1, .ref a1), (2, .int (iI x2))] rfl ?_
  intro K E hK hret _ _ _
  refine X_aloadn hK (i := 0) 0 dX7_readCond_0 rfl rfl ?_
  refine X_aloadn hK (i := 1) 1 dX7_readCond_1 rfl rfl ?_
  refine X_iloadn hK (i := 2) 2 dX7_readCond_2 rfl rfl ?_
  refine X_callV hK [.ref a1, .int (iI x2)] [] lk_X7_126 (c3_readAll_5 _ _ _ _ _ S g a0 a1 x2 na no nf nq wt wp tk tl cn hs_a0 hs_a1 (by omega) (by omega) ena (by omega) eno (by omega) enf (by omega) enq ewt hs_wt ewp hs_wp hp0 (by omega) (by omega)) hs_a0 ⟨by decide, rfl⟩ dX7_readCond_3 rfl rfl (by simp [Value.category]) (by decide) (by decide) (by decide) (by decide) (fun r1 S3 g2 pr1 qr1 hg2 => ?_)
  obtain ⟨rfl, rfl, k4⟩ := pr1
  refine X_st [] rfl ?_
  obtain ⟨Ft5, at5, ot5, qt5, eFt5, lFt5, uFt5, eat5, lat5, uat5, eot5, lot5, uot5, eqt5, lqt5, uqt5, kt5⟩ := k4
  have cat5 : at5 ≤ 300 := by have h9 := (show xTB (xv g2 wt) (xv g2 wp) tk tl cn from (by rw [(xv_m hg2 hs_wt (by decide) (by decide)), (xv_m hg2 hs_wp (by decide) (by decide))]; exact hp0)).2.2.2; omega
  refine X_iconst hK dX7_readCond_6 ?_
  refine X_istoren hK (i := 3) [(3, .int (iI 0)), (0, .ref a0), (1, .ref a1), (2, .int (iI x2))] dX7_readCond_7 rfl (by decide) rfl ?_
  have P120 : ∀ (nP120 : Nat) (g98 : xG) (_ : xM [(14000, 0), (11, 2), (8, 5), (8, 6), (8, 3), (8, 2)] S g2 g98) (z97 : Int) (_ : 0 ≤ z97) (_ : z97 ≤ 50) (q99 : Int) (_ : 0 ≤ q99) (_ : q99 ≤ 300) (_ : g98 a0 2 = .int (iI q99)) (q100 : Int) (_ : 0 ≤ q100) (_ : q100 ≤ 50) (_ : g98 a0 3 = .int (iI q100)) (q101 : Int) (_ : (-2147483648) ≤ q101) (_ : q101 ≤ 2147483647) (_ : g98 a0 5 = .int (iI q101)) (q102 : Int) (_ : 0 ≤ q102) (_ : q102 ≤ 300) (_ : g98 a0 6 = .int (iI q102)) (_ : xIn tk tl 2 5 na no q101 q99 q100 q102) (_ : q101 = 0 → no + 1 + z97 ≤ q100) (_ : q99 ≤ cn) (_ : 60 - z97 < (nP120 : Int)), X K E 8 [(3, .int (iI z97)), (0, .ref a0), (1, .ref a1), (2, .int (iI x2))] [] S g98 0 0 := by
    intro nP120
    induction nP120 with
    | zero => intro g98 hg98 z97 lz97 uz97 q99 lq99 uq99 eq99 q100 lq100 uq100 eq100 q101 lq101 uq101 eq101 q102 lq102 uq102 eq102 v121 v122 v123 mP120; exact False.elim (by omega)
    | succ nP120 ihP120 =>
      intro g98 hg98 z97 lz97 uz97 q99 lq99 uq99 eq99 q100 lq100 uq100 eq100 q101 lq101 uq101 eq101 q102 lq102 uq102 eq102 v121 v122 v123 mP120
      refine X_iloadn hK (i := 3) 0 dX7_readCond_8 rfl rfl ?_
      refine X_bipush hK dX7_readCond_9 (by decide) ?_
      refine X_icmp_ge hK 60 (by omega) (by omega) dX7_readCond_11 (by decide) (fun c124 => ?_) (fun c124 => ?_)
      · exact hret _ _ _ _ _ _ dX7_readCond_60 ⟨rfl, rfl, ⟨q101, q99, q100, q102, eq101, by omega, by omega, eq99, by omega, by omega, eq100, by omega, by omega, eq102, by omega, by omega, (xIn.e v121 (fun h9 => False.elim (by have h8 := v122 h9; omega)))⟩⟩ (Nat.le_refl _) (Nat.le_refl _)
      · refine X_aloadn hK (i := 0) 1 dX7_readCond_14 rfl rfl ?_
        refine X_getK hK fl_X7_29_8 hs_a0 eq101 dX7_readCond_15 ?_
        refine X_if_ne hK 60 (by omega) dX7_readCond_18 (by decide) (fun c125 => ?_) (fun c125 => ?_)
        · exact hret _ _ _ _ _ _ dX7_readCond_60 ⟨rfl, rfl, ⟨q101, q99, q100, q102, eq101, by omega, by omega, eq99, by omega, by omega, eq100, by omega, by omega, eq102, by omega, by omega, (xIn.e v121 (fun h9 => False.elim (by have h8 := v122 h9; omega)))⟩⟩ (Nat.le_refl _) (Nat.le_refl _)
        · refine X_aloadn hK (i := 0) 1 dX7_readCond_21 rfl rfl ?_
          refine X_callV hK [] [] lk_X7_47 (c3_now _ _ _ _ _ S g98 a0 q99 wt wp tk tl cn hs_a0 (by omega) eq99 ((hg98 a0 8 0 0 hs_a0 (by decide)).trans ((hg2 a0 8 0 0 hs_a0 (by decide)).trans ewt)) hs_wt ((hg98 a0 8 0 1 hs_a0 (by decide)).trans ((hg2 a0 8 0 1 hs_a0 (by decide)).trans ewp)) hs_wp (by rw [(Eq.trans (xv_m hg98 hs_wt (by decide) (by decide)) (xv_m hg2 hs_wt (by decide) (by decide))), (Eq.trans (xv_m hg98 hs_wp (by decide) (by decide)) (xv_m hg2 hs_wp (by decide) (by decide)))]; exact hp0) (by omega) (by omega)) hs_a0 ⟨by decide, rfl⟩ dX7_readCond_22 rfl rfl (by simp [Value.category]) (by decide) (by decide) (by decide) (by decide) (fun r126 S128 g127 pr126 qr126 hg127 => ?_)
          obtain ⟨rfl, rfl, z129, rfl, lz129, uz129, k130⟩ := pr126
          refine X_st [.int (iI z129)] rfl ?_
          refine X_bipush hK dX7_readCond_25 (by decide) ?_
          refine X_icmp_ne hK 60 (by omega) (by omega) dX7_readCond_27 (by decide) (fun c131 => ?_) (fun c131 => ?_)
          · exact hret _ _ _ _ _ _ dX7_readCond_60 ⟨rfl, rfl, ⟨q101, q99, q100, q102, eq101, by omega, by omega, eq99, by omega, by omega, eq100, by omega, by omega, eq102, by omega, by omega, (xIn.e v121 (fun h9 => Or.inr ⟨rfl, by rw [← k130]; omega⟩))⟩⟩ (Nat.le_refl _) (Nat.le_refl _)
          · refine X_aloadn hK (i := 0) 1 dX7_readCond_30 rfl rfl ?_
            refine X_dup hK dX7_readCond_31 rfl ?_
            have hl132 := xTB.lt (A := xv g98 wt) (B := xv g98 wp) (tk := tk) (tl := tl) (c := cn) (a := q99) (by rw [(Eq.trans (xv_m hg98 hs_wt (by decide) (by decide)) (xv_m hg2 hs_wt (by decide) (by decide))), (Eq.trans (xv_m hg98 hs_wp (by decide) (by decide)) (xv_m hg2 hs_wp (by decide) (by decide)))]; exact hp0) (by omega) (by rw [← k130]; omega)
            refine X_getK hK fl_X7_18_8 hs_a0 eq99 dX7_readCond_32 ?_
            refine X_iconst hK dX7_readCond_35 ?_
            refine X_iadd hK dX7_readCond_36 ?_
            refine X_puti hK fl_X7_18_8 hs_a0 (by decide) sl_8_2 (by omega) (by omega) dX7_readCond_37 (fun g133 hg133 => ?_)
            refine X_aloadn hK (i := 0) 1 dX7_readCond_40 rfl rfl ?_
            refine X_aloadn hK (i := 1) 2 dX7_readCond_41 rfl rfl ?_
            refine X_iloadn hK (i := 2) 3 dX7_readCond_42 rfl rfl ?_
            refine X_callV hK [.ref a1, .int (iI x2)] [] lk_X7_126 (c3_readAll_5 _ _ _ _ _ S g133 a0 a1 x2 (q99 + 1) q100 q101 q102 wt wp tk tl cn hs_a0 hs_a1 (by omega) (by omega) (xs_s hg133) (by omega) ((xs_k hg133 (by decide)).trans eq100) (by omega) ((xs_k hg133 (by decide)).trans eq101) (by omega) ((xs_k hg133 (by decide)).trans eq102) ((xs_k hg133 (by decide)).trans ((hg98 a0 8 0 0 hs_a0 (by decide)).trans ((hg2 a0 8 0 0 hs_a0 (by decide)).trans ewt))) hs_wt ((xs_k hg133 (by decide)).trans ((hg98 a0 8 0 1 hs_a0 (by decide)).trans ((hg2 a0 8 0 1 hs_a0 (by decide)).trans ewp))) hs_wp (by rw [(Eq.trans (Eq.trans (xv_a hg133 (xne hs_wt hs_a0 (by decide))) (xv_m hg98 hs_wt (by decide) (by decide))) (xv_m hg2 hs_wt (by decide) (by decide))), (Eq.trans (Eq.trans (xv_a hg133 (xne hs_wp hs_a0 (by decide))) (xv_m hg98 hs_wp (by decide) (by decide))) (xv_m hg2 hs_wp (by decide) (by decide)))]; exact hp0) (by omega) (by omega)) hs_a0 ⟨by decide, rfl⟩ dX7_readCond_43 rfl rfl (by simp [Value.category]) (by decide) (by decide) (by decide) (by decide) (fun r134 S136 g135 pr134 qr134 hg135 => ?_)
            obtain ⟨rfl, rfl, k137⟩ := pr134
            refine X_st [] rfl ?_
            obtain ⟨Ft138, at138, ot138, qt138, eFt138, lFt138, uFt138, eat138, lat138, uat138, eot138, lot138, uot138, eqt138, lqt138, uqt138, kt138⟩ := k137
            have cat138 : at138 ≤ 300 := by have h9 := (show xTB (xv g135 wt) (xv g135 wp) tk tl cn from (by rw [(Eq.trans (Eq.trans (Eq.trans (xv_m hg135 hs_wt (by decide) (by decide)) (xv_a hg133 (xne hs_wt hs_a0 (by decide)))) (xv_m hg98 hs_wt (by decide) (by decide))) (xv_m hg2 hs_wt (by decide) (by decide))), (Eq.trans (Eq.trans (Eq.trans (xv_m hg135 hs_wp (by decide) (by decide)) (xv_a hg133 (xne hs_wp hs_a0 (by decide)))) (xv_m hg98 hs_wp (by decide) (by decide))) (xv_m hg2 hs_wp (by decide) (by decide)))]; exact hp0)).2.2.2; omega
            refine X_aloadn hK (i := 1) 2 dX7_readCond_46 rfl rfl ?_
            refine X_bipush hK dX7_readCond_47 (by decide) ?_
            refine X_iconst hK dX7_readCond_49 ?_
            refine X_iconst hK dX7_readCond_50 ?_
            refine X_callV hK [.int (iI 14), .int (iI 0), .int (iI 0)] [] lk_X7_129 (c_X10_addStep _ _ _ _ _ S g135 a1 14 0 0 hs_a1 (by omega) (by omega) (by omega)) hs_a1 ⟨by decide, rfl⟩ dX7_readCond_51 rfl rfl (by simp [Value.category]) (by decide) (by decide) (by decide) (by decide) (fun r139 S141 g140 pr139 qr139 hg140 => ?_)
            obtain ⟨rfl, rfl⟩ := pr139
            refine X_st [] rfl ?_
            refine X_iinc hK (i := 3) (z := z97) (n := 1) 0 [(3, .int (iI (z97 + 1))), (0, .ref a0), (1, .ref a1), (2, .int (iI x2))] dX7_readCond_54 rfl (by decide) rfl ?_
            refine X_goto hK 8 dX7_readCond_57 (by decide) ?_
            exact ihP120  g140 (xM.tr (xM.tr (xM_up (xM.tr xM.rf xLe.rf hg98 (by decide)) hg133 hs_a0 (by decide) (by decide)) xLe.rf hg135 (by decide)) xLe.rf hg140 (by decide)) (z97 + 1) (by omega) (by omega) at138 (by omega) (by omega) ((hg140 a0 8 0 2 hs_a0 (by decide)).trans eat138) ot138 (by omega) (by omega) ((hg140 a0 8 0 3 hs_a0 (by decide)).trans eot138) Ft138 (by omega) (by omega) ((hg140 a0 8 0 5 hs_a0 (by decide)).trans eFt138) qt138 (by omega) (by omega) ((hg140 a0 8 0 6 hs_a0 (by decide)).trans eqt138) (xIn.s (Or.inr ⟨rfl, rfl, (by rw [← k130]; omega)⟩) v121 (by omega) kt138) (fun h9 => by have h8 := xRR.b1 kt138 h9; omega) (by omega) (by omega)
  exact P120 ((60 - 0 : Int).toNat + 1) g2 xM.rf 0 (by omega) (by omega) at5 (by omega) (by omega) eat5 ot5 (by omega) (by omega) eot5 Ft5 (by omega) (by omega) eFt5 qt5 (by omega) (by omega) eqt5 (xIn.z (Or.inr ⟨rfl, rfl⟩) kt5) (fun h9 => by have h8 := xRR.b1 kt5 h9; omega) (by omega) (by omega)

set_option maxHeartbeats 4000000 in
set_option maxRecDepth 100000 in
theorem c3_readOne_4 (l : Launch) (D : va_G) (kA : Nat → ClassId) (b0 : Nat) (t0 : Nat → Nat) (S : xT) (g : xG) (a0 : Nat) (a1 : Nat) (x2 : Int) (na : Int) (no : Int) (nf : Int) (nq : Int) (wt : Nat) (wp : Nat) (tk : Int → Int) (tl : Int → Int) (cn : Int) (hs_a0 : S a0 = some (8, 0)) (hs_a1 : S a1 = some (11, 0)) (hx2 : 4 ≤ x2 ∧ x2 ≤ 4) (hna : 0 ≤ na ∧ na ≤ 300) (ena : g a0 2 = .int (iI na)) (hno : 0 ≤ no ∧ no ≤ 50) (eno : g a0 3 = .int (iI no)) (hnf : 0 ≤ nf ∧ nf ≤ 0) (enf : g a0 5 = .int (iI nf)) (hnq : 0 ≤ nq ∧ nq ≤ 300) (enq : g a0 6 = .int (iI nq)) (ewt : g a0 0 = .ref wt) (hs_wt : S wt = some (12900, 301)) (ewp : g a0 1 = .ref wp) (hs_wp : S wp = some (13000, 301)) (hp0 : xTB (xv g wt) (xv g wp) tk tl cn) (hp1 : na ≤ cn) (hp2 : cn ≤ 300) : xMt l yX7_readOne cX7_readOne 5 none 22 0 0 511 D kA b0 t0 [(8, 5), (8, 6), (8, 3), (8, 2), (14000, 0), (11, 2)] [.ref a0, .ref a1, .int (iI x2)] S g (fun (r : Option Value) (S1 : xT) (g1 : xG) => S = S1 ∧ r = none ∧ (∃ F a o q : Int, g1 a0 5 = .int (iI F) ∧ -2147483648 ≤ F ∧ F ≤ 2147483647 ∧ g1 a0 2 = .int (iI a) ∧ 0 ≤ a ∧ a ≤ cn ∧ g1 a0 3 = .int (iI o) ∧ 0 ≤ o ∧ o ≤ 50 ∧ g1 a0 6 = .int (iI q) ∧ 0 ≤ q ∧ q ≤ 300 ∧ xRR tk tl 0 4 na no F a o q)) := by
  refine xEnterV (by decide) (by simp [lg_sl, Value.category]) [(0, .ref a0), (1, .ref a1), (2, .int (iI x2))] rfl ?_
  intro K E hK hret _ _ _
  refine X_aloadn hK (i := 0) 0 dX7_readOne_0 rfl rfl ?_
  refine X_callV hK [] [] lk_X7_47 (c3_now _ _ _ _ _ S g a0 na wt wp tk tl cn hs_a0 (by omega) ena ewt hs_wt ewp hs_wp hp0 (by omega) (by omega)) hs_a0 ⟨by decide, rfl⟩ dX7_readOne_1 rfl rfl (by simp [Value.category]) (by decide) (by decide) (by decide) (by decide) (fun r1 S3 g2 pr1 qr1 hg2 => ?_)
  obtain ⟨rfl, rfl, z4, rfl, lz4, uz4, k5⟩ := pr1
  refine X_st [.int (iI z4)] rfl ?_
  refine X_istoren hK (i := 3) [(3, .int (iI z4)), (0, .ref a0), (1, .ref a1), (2, .int (iI x2))] dX7_readOne_4 rfl (by decide) rfl ?_
  refine X_iloadn hK (i := 3) 0 dX7_readOne_5 rfl rfl ?_
  refine X_bipush hK dX7_readOne_6 (by decide) ?_
  refine X_icmp_lt hK 21 (by omega) (by omega) dX7_readOne_8 (by decide) (fun c6 => ?_) (fun c6 => ?_)
  · refine X_iconst hK dX7_readOne_21 ?_
    refine X_istore hK (i := 4) [(4, .int (iI 0)), (3, .int (iI z4)), (0, .ref a0), (1, .ref a1), (2, .int (iI x2))] dX7_readOne_22 (by decide) rfl ?_
    refine X_iload hK (i := 4) 0 dX7_readOne_24 rfl ?_
    refine X_if_ne hK 49 (by omega) dX7_readOne_26 (by decide) (fun c7 => False.elim (by omega)) (fun c7 => ?_)
    refine X_iloadn hK (i := 3) 1 dX7_readOne_29 rfl rfl ?_
    refine X_bipush hK dX7_readOne_30 (by decide) ?_
    refine X_icmp_eq hK 49 (by omega) (by omega) dX7_readOne_32 (by decide) (fun c8 => ?_) (fun c8 => ?_)
    · refine X_aloadn hK (i := 0) 2 dX7_readOne_49 rfl rfl ?_
      refine X_getK hK fl_X7_22_8 hs_a0 eno dX7_readOne_50 ?_
      refine X_bipush hK dX7_readOne_53 (by decide) ?_
      refine X_icmp_ge hK 64 (by omega) (by omega) dX7_readOne_55 (by decide) (fun c9 => ?_) (fun c9 => ?_)
      · refine X_aloadn hK (i := 0) 2 dX7_readOne_64 rfl rfl ?_
        refine X_iconst hK dX7_readOne_65 ?_
        refine X_callV hK [.int (iI 4)] [] lk_X7_60 (c3_tell _ _ _ _ _ S g a0 4 na no nf nq wt wp tk tl cn hs_a0 (by omega) (by omega) ena (by omega) eno (by omega) enf (by omega) enq ewt hs_wt ewp hs_wp hp0 (by omega) (by omega)) hs_a0 ⟨by decide, rfl⟩ dX7_readOne_66 rfl rfl (by simp [Value.category]) (by decide) (by decide) (by decide) (by decide) (fun r10 S12 g11 pr10 qr10 hg11 => ?_)
        obtain ⟨rfl, rfl, k13⟩ := pr10
        refine X_st [] rfl ?_
        obtain ⟨Ft14, at14, ot14, qt14, eFt14, lFt14, uFt14, eat14, lat14, uat14, eot14, lot14, uot14, eqt14, lqt14, uqt14, kt14⟩ := k13
        have cat14 : at14 ≤ 300 := by have h9 := (show xTB (xv g11 wt) (xv g11 wp) tk tl cn from (by rw [(xv_m hg11 hs_wt (by decide) (by decide)), (xv_m hg11 hs_wp (by decide) (by decide))]; exact hp0)).2.2.2; omega
        refine X_goto hK 148 dX7_readOne_69 (by decide) ?_
        exact hret _ _ _ _ _ _ dX7_readOne_148 ⟨rfl, rfl, ⟨Ft14, at14, ot14, qt14, eFt14, by omega, by omega, eat14, by omega, by omega, eot14, by omega, by omega, eqt14, by omega, by omega, (by obtain ⟨h8, h7, h6⟩ := kt14; have h5 := h8.resolve_left (fun q9 => by omega); rw [h5.2.1]; exact xRR.f4 (by rw [← k5]; omega) (by omega) h5.2.2)⟩⟩ (Nat.le_refl _) (Nat.le_refl _)
      · refine X_iloadn hK (i := 2) 4 dX7_readOne_58 rfl rfl ?_
        refine X_bipush hK dX7_readOne_59 (by decide) ?_
        refine X_icmp_le hK 72 (by omega) (by omega) dX7_readOne_61 (by decide) (fun c15 => ?_) (fun c15 => False.elim (by omega))
        refine X_aloadn hK (i := 0) 2 dX7_readOne_72 rfl rfl ?_
        refine X_dup hK dX7_readOne_73 rfl ?_
        refine X_getK hK fl_X7_22_8 hs_a0 eno dX7_readOne_74 ?_
        refine X_iconst hK dX7_readOne_77 ?_
        refine X_iadd hK dX7_readOne_78 ?_
        refine X_puti hK fl_X7_22_8 hs_a0 (by decide) sl_8_3 (by omega) (by omega) dX7_readOne_79 (fun g16 hg16 => ?_)
        refine X_aloadn hK (i := 0) 2 dX7_readOne_82 rfl rfl ?_
        refine X_dup hK dX7_readOne_83 rfl ?_
        have hl17 := xTB.lt (A := xv g16 wt) (B := xv g16 wp) (tk := tk) (tl := tl) (c := cn) (a := na) (by rw [(xv_a hg16 (xne hs_wt hs_a0 (by decide))), (xv_a hg16 (xne hs_wp hs_a0 (by decide)))]; exact hp0) (by omega) (by rw [← k5]; omega)
        refine X_getK hK fl_X7_18_8 hs_a0 ((xs_k hg16 (by decide)).trans ena) dX7_readOne_84 ?_
        refine X_iconst hK dX7_readOne_87 ?_
        refine X_iadd hK dX7_readOne_88 ?_
        refine X_puti hK fl_X7_18_8 hs_a0 (by decide) sl_8_2 (by omega) (by omega) dX7_readOne_89 (fun g18 hg18 => ?_)
        refine X_iload hK (i := 4) 0 dX7_readOne_92 rfl ?_
        refine X_if_eq hK 109 (by omega) dX7_readOne_94 (by decide) (fun c19 => ?_) (fun c19 => False.elim (by omega))
        refine X_iloadn hK (i := 3) 1 dX7_readOne_109 rfl rfl ?_
        refine X_bipush hK dX7_readOne_110 (by decide) ?_
        refine X_icmp_ne hK 132 (by omega) (by omega) dX7_readOne_112 (by decide) (fun c20 => ?_) (fun c20 => False.elim (by omega))
        refine X_aloadn hK (i := 0) 2 dX7_readOne_132 rfl rfl ?_
        refine X_aloadn hK (i := 1) 3 dX7_readOne_133 rfl rfl ?_
        refine X_iloadn hK (i := 2) 4 dX7_readOne_134 rfl rfl ?_
        refine X_iconst hK dX7_readOne_135 ?_
        refine X_iadd hK dX7_readOne_136 ?_
        refine X_callV hK [.ref a1, .int (iI (x2 + 1))] [] lk_X7_132 (c3_readOne_5 _ _ _ _ _ S g18 a0 a1 (x2 + 1) (na + 1) (no + 1) nf nq wt wp tk tl cn hs_a0 hs_a1 (by omega) (by omega) (xs_s hg18) (by omega) ((xs_k hg18 (by decide)).trans (xs_s hg16)) (by omega) ((xs_k hg18 (by decide)).trans ((xs_k hg16 (by decide)).trans enf)) (by omega) ((xs_k hg18 (by decide)).trans ((xs_k hg16 (by decide)).trans enq)) ((xs_k hg18 (by decide)).trans ((xs_k hg16 (by decide)).trans ewt)) hs_wt ((xs_k hg18 (by decide)).trans ((xs_k hg16 (by decide)).trans ewp)) hs_wp (by rw [(Eq.trans (xv_a hg18 (xne hs_wt hs_a0 (by decide))) (xv_a hg16 (xne hs_wt hs_a0 (by decide)))), (Eq.trans (xv_a hg18 (xne hs_wp hs_a0 (by decide))) (xv_a hg16 (xne hs_wp hs_a0 (by decide))))]; exact hp0) (by omega) (by omega)) hs_a0 ⟨by decide, rfl⟩ dX7_readOne_137 rfl rfl (by simp [Value.category]) (by decide) (by decide) (by decide) (by decide) (fun r21 S23 g22 pr21 qr21 hg22 => ?_)
        obtain ⟨rfl, rfl, k24⟩ := pr21
        refine X_st [] rfl ?_
        obtain ⟨Ft25, at25, ot25, qt25, eFt25, lFt25, uFt25, eat25, lat25, uat25, eot25, lot25, uot25, eqt25, lqt25, uqt25, kt25⟩ := k24
        have cat25 : at25 ≤ 300 := by have h9 := (show xTB (xv g22 wt) (xv g22 wp) tk tl cn from (by rw [(Eq.trans (Eq.trans (xv_m hg22 hs_wt (by decide) (by decide)) (xv_a hg18 (xne hs_wt hs_a0 (by decide)))) (xv_a hg16 (xne hs_wt hs_a0 (by decide)))), (Eq.trans (Eq.trans (xv_m hg22 hs_wp (by decide) (by decide)) (xv_a hg18 (xne hs_wp hs_a0 (by decide)))) (xv_a hg16 (xne hs_wp hs_a0 (by decide))))]; exact hp0)).2.2.2; omega
        refine X_aloadn hK (i := 1) 3 dX7_readOne_140 rfl rfl ?_
        refine X_bipush hK dX7_readOne_141 (by decide) ?_
        refine X_iconst hK dX7_readOne_143 ?_
        refine X_iconst hK dX7_readOne_144 ?_
        refine X_callV hK [.int (iI 12), .int (iI 0), .int (iI 0)] [] lk_X7_129 (c_X10_addStep _ _ _ _ _ S g22 a1 12 0 0 hs_a1 (by omega) (by omega) (by omega)) hs_a1 ⟨by decide, rfl⟩ dX7_readOne_145 rfl rfl (by simp [Value.category]) (by decide) (by decide) (by decide) (by decide) (fun r26 S28 g27 pr26 qr26 hg27 => ?_)
        obtain ⟨rfl, rfl⟩ := pr26
        refine X_st [] rfl ?_
        exact hret _ _ _ _ _ _ dX7_readOne_148 ⟨rfl, rfl, ⟨Ft25, at25, ot25, qt25, ((hg27 a0 8 0 5 hs_a0 (by decide)).trans eFt25), by omega, by omega, ((hg27 a0 8 0 2 hs_a0 (by decide)).trans eat25), by omega, by omega, ((hg27 a0 8 0 3 hs_a0 (by decide)).trans eot25), by omega, by omega, ((hg27 a0 8 0 6 hs_a0 (by decide)).trans eqt25), by omega, by omega, (xRR.nt (by rw [← k5]; omega) (by omega) kt25)⟩⟩ (Nat.le_refl _) (Nat.le_refl _)
    · refine X_iloadn hK (i := 3) 1 dX7_readOne_35 rfl rfl ?_
      refine X_bipush hK dX7_readOne_36 (by decide) ?_
      refine X_icmp_eq hK 49 (by omega) (by omega) dX7_readOne_38 (by decide) (fun c29 => False.elim (by omega)) (fun c29 => ?_)
      refine X_aloadn hK (i := 0) 2 dX7_readOne_41 rfl rfl ?_
      refine X_iconst hK dX7_readOne_42 ?_
      refine X_callV hK [.int (iI 1)] [] lk_X7_60 (c3_tell _ _ _ _ _ S g a0 1 na no nf nq wt wp tk tl cn hs_a0 (by omega) (by omega) ena (by omega) eno (by omega) enf (by omega) enq ewt hs_wt ewp hs_wp hp0 (by omega) (by omega)) hs_a0 ⟨by decide, rfl⟩ dX7_readOne_43 rfl rfl (by simp [Value.category]) (by decide) (by decide) (by decide) (by decide) (fun r30 S32 g31 pr30 qr30 hg31 => ?_)
      obtain ⟨rfl, rfl, k33⟩ := pr30
      refine X_st [] rfl ?_
      obtain ⟨Ft34, at34, ot34, qt34, eFt34, lFt34, uFt34, eat34, lat34, uat34, eot34, lot34, uot34, eqt34, lqt34, uqt34, kt34⟩ := k33
      have cat34 : at34 ≤ 300 := by have h9 := (show xTB (xv g31 wt) (xv g31 wp) tk tl cn from (by rw [(xv_m hg31 hs_wt (by decide) (by decide)), (xv_m hg31 hs_wp (by decide) (by decide))]; exact hp0)).2.2.2; omega
      refine X_goto hK 148 dX7_readOne_46 (by decide) ?_
      exact hret _ _ _ _ _ _ dX7_readOne_148 ⟨rfl, rfl, ⟨Ft34, at34, ot34, qt34, eFt34, by omega, by omega, eat34, by omega, by omega, eot34, by omega, by omega, eqt34, by omega, by omega, (by obtain ⟨h8, h7, h6⟩ := kt34; have h5 := h8.resolve_left (fun q9 => by omega); rw [h5.2.1]; exact xRR.f1 (by rw [← k5]; omega) h5.2.2)⟩⟩ (Nat.le_refl _) (Nat.le_refl _)
  · refine X_iloadn hK (i := 3) 0 dX7_readOne_11 rfl rfl ?_
    refine X_bipush hK dX7_readOne_12 (by decide) ?_
    refine X_icmp_ge hK 21 (by omega) (by omega) dX7_readOne_14 (by decide) (fun c35 => ?_) (fun c35 => ?_)
    · refine X_iconst hK dX7_readOne_21 ?_
      refine X_istore hK (i := 4) [(4, .int (iI 0)), (3, .int (iI z4)), (0, .ref a0), (1, .ref a1), (2, .int (iI x2))] dX7_readOne_22 (by decide) rfl ?_
      refine X_iload hK (i := 4) 0 dX7_readOne_24 rfl ?_
      refine X_if_ne hK 49 (by omega) dX7_readOne_26 (by decide) (fun c36 => False.elim (by omega)) (fun c36 => ?_)
      refine X_iloadn hK (i := 3) 1 dX7_readOne_29 rfl rfl ?_
      refine X_bipush hK dX7_readOne_30 (by decide) ?_
      refine X_icmp_eq hK 49 (by omega) (by omega) dX7_readOne_32 (by decide) (fun c37 => False.elim (by omega)) (fun c37 => ?_)
      refine X_iloadn hK (i := 3) 1 dX7_readOne_35 rfl rfl ?_
      refine X_bipush hK dX7_readOne_36 (by decide) ?_
      refine X_icmp_eq hK 49 (by omega) (by omega) dX7_readOne_38 (by decide) (fun c38 => ?_) (fun c38 => ?_)
      · refine X_aloadn hK (i := 0) 2 dX7_readOne_49 rfl rfl ?_
        refine X_getK hK fl_X7_22_8 hs_a0 eno dX7_readOne_50 ?_
        refine X_bipush hK dX7_readOne_53 (by decide) ?_
        refine X_icmp_ge hK 64 (by omega) (by omega) dX7_readOne_55 (by decide) (fun c39 => ?_) (fun c39 => ?_)
        · refine X_aloadn hK (i := 0) 2 dX7_readOne_64 rfl rfl ?_
          refine X_iconst hK dX7_readOne_65 ?_
          refine X_callV hK [.int (iI 4)] [] lk_X7_60 (c3_tell _ _ _ _ _ S g a0 4 na no nf nq wt wp tk tl cn hs_a0 (by omega) (by omega) ena (by omega) eno (by omega) enf (by omega) enq ewt hs_wt ewp hs_wp hp0 (by omega) (by omega)) hs_a0 ⟨by decide, rfl⟩ dX7_readOne_66 rfl rfl (by simp [Value.category]) (by decide) (by decide) (by decide) (by decide) (fun r40 S42 g41 pr40 qr40 hg41 => ?_)
          obtain ⟨rfl, rfl, k43⟩ := pr40
          refine X_st [] rfl ?_
          obtain ⟨Ft44, at44, ot44, qt44, eFt44, lFt44, uFt44, eat44, lat44, uat44, eot44, lot44, uot44, eqt44, lqt44, uqt44, kt44⟩ := k43
          have cat44 : at44 ≤ 300 := by have h9 := (show xTB (xv g41 wt) (xv g41 wp) tk tl cn from (by rw [(xv_m hg41 hs_wt (by decide) (by decide)), (xv_m hg41 hs_wp (by decide) (by decide))]; exact hp0)).2.2.2; omega
          refine X_goto hK 148 dX7_readOne_69 (by decide) ?_
          exact hret _ _ _ _ _ _ dX7_readOne_148 ⟨rfl, rfl, ⟨Ft44, at44, ot44, qt44, eFt44, by omega, by omega, eat44, by omega, by omega, eot44, by omega, by omega, eqt44, by omega, by omega, (by obtain ⟨h8, h7, h6⟩ := kt44; have h5 := h8.resolve_left (fun q9 => by omega); rw [h5.2.1]; exact xRR.f4 (by rw [← k5]; omega) (by omega) h5.2.2)⟩⟩ (Nat.le_refl _) (Nat.le_refl _)
        · refine X_iloadn hK (i := 2) 4 dX7_readOne_58 rfl rfl ?_
          refine X_bipush hK dX7_readOne_59 (by decide) ?_
          refine X_icmp_le hK 72 (by omega) (by omega) dX7_readOne_61 (by decide) (fun c45 => ?_) (fun c45 => False.elim (by omega))
          refine X_aloadn hK (i := 0) 2 dX7_readOne_72 rfl rfl ?_
          refine X_dup hK dX7_readOne_73 rfl ?_
          refine X_getK hK fl_X7_22_8 hs_a0 eno dX7_readOne_74 ?_
          refine X_iconst hK dX7_readOne_77 ?_
          refine X_iadd hK dX7_readOne_78 ?_
          refine X_puti hK fl_X7_22_8 hs_a0 (by decide) sl_8_3 (by omega) (by omega) dX7_readOne_79 (fun g46 hg46 => ?_)
          refine X_aloadn hK (i := 0) 2 dX7_readOne_82 rfl rfl ?_
          refine X_dup hK dX7_readOne_83 rfl ?_
          have hl47 := xTB.lt (A := xv g46 wt) (B := xv g46 wp) (tk := tk) (tl := tl) (c := cn) (a := na) (by rw [(xv_a hg46 (xne hs_wt hs_a0 (by decide))), (xv_a hg46 (xne hs_wp hs_a0 (by decide)))]; exact hp0) (by omega) (by rw [← k5]; omega)
          refine X_getK hK fl_X7_18_8 hs_a0 ((xs_k hg46 (by decide)).trans ena) dX7_readOne_84 ?_
          refine X_iconst hK dX7_readOne_87 ?_
          refine X_iadd hK dX7_readOne_88 ?_
          refine X_puti hK fl_X7_18_8 hs_a0 (by decide) sl_8_2 (by omega) (by omega) dX7_readOne_89 (fun g48 hg48 => ?_)
          refine X_iload hK (i := 4) 0 dX7_readOne_92 rfl ?_
          refine X_if_eq hK 109 (by omega) dX7_readOne_94 (by decide) (fun c49 => ?_) (fun c49 => False.elim (by omega))
          refine X_iloadn hK (i := 3) 1 dX7_readOne_109 rfl rfl ?_
          refine X_bipush hK dX7_readOne_110 (by decide) ?_
          refine X_icmp_ne hK 132 (by omega) (by omega) dX7_readOne_112 (by decide) (fun c50 => False.elim (by omega)) (fun c50 => ?_)
          refine X_aloadn hK (i := 0) 2 dX7_readOne_115 rfl rfl ?_
          refine X_aloadn hK (i := 1) 3 dX7_readOne_116 rfl rfl ?_
          refine X_iloadn hK (i := 2) 4 dX7_readOne_117 rfl rfl ?_
          refine X_iconst hK dX7_readOne_118 ?_
          refine X_iadd hK dX7_readOne_119 ?_
          refine X_callV hK [.ref a1, .int (iI (x2 + 1))] [] lk_X7_115 (c3_readCond_5 _ _ _ _ _ S g48 a0 a1 (x2 + 1) (na + 1) (no + 1) nf nq wt wp tk tl cn hs_a0 hs_a1 (by omega) (by omega) (xs_s hg48) (by omega) ((xs_k hg48 (by decide)).trans (xs_s hg46)) (by omega) ((xs_k hg48 (by decide)).trans ((xs_k hg46 (by decide)).trans enf)) (by omega) ((xs_k hg48 (by decide)).trans ((xs_k hg46 (by decide)).trans enq)) ((xs_k hg48 (by decide)).trans ((xs_k hg46 (by decide)).trans ewt)) hs_wt ((xs_k hg48 (by decide)).trans ((xs_k hg46 (by decide)).trans ewp)) hs_wp (by rw [(Eq.trans (xv_a hg48 (xne hs_wt hs_a0 (by decide))) (xv_a hg46 (xne hs_wt hs_a0 (by decide)))), (Eq.trans (xv_a hg48 (xne hs_wp hs_a0 (by decide))) (xv_a hg46 (xne hs_wp hs_a0 (by decide))))]; exact hp0) (by omega) (by omega)) hs_a0 ⟨by decide, rfl⟩ dX7_readOne_120 rfl rfl (by simp [Value.category]) (by decide) (by decide) (by decide) (by decide) (fun r51 S53 g52 pr51 qr51 hg52 => ?_)
          obtain ⟨rfl, rfl, k54⟩ := pr51
          refine X_st [] rfl ?_
          obtain ⟨Ft55, at55, ot55, qt55, eFt55, lFt55, uFt55, eat55, lat55, uat55, eot55, lot55, uot55, eqt55, lqt55, uqt55, kt55⟩ := k54
          have cat55 : at55 ≤ 300 := by have h9 := (show xTB (xv g52 wt) (xv g52 wp) tk tl cn from (by rw [(Eq.trans (Eq.trans (xv_m hg52 hs_wt (by decide) (by decide)) (xv_a hg48 (xne hs_wt hs_a0 (by decide)))) (xv_a hg46 (xne hs_wt hs_a0 (by decide)))), (Eq.trans (Eq.trans (xv_m hg52 hs_wp (by decide) (by decide)) (xv_a hg48 (xne hs_wp hs_a0 (by decide)))) (xv_a hg46 (xne hs_wp hs_a0 (by decide))))]; exact hp0)).2.2.2; omega
          refine X_aloadn hK (i := 0) 2 dX7_readOne_123 rfl rfl ?_
          refine X_bipush hK dX7_readOne_124 (by decide) ?_
          refine X_callV hK [.int (iI 26)] [] lk_X7_119 (c3_expect _ _ _ _ _ S g52 a0 26 at55 ot55 Ft55 qt55 wt wp tk tl cn hs_a0 (by omega) (by omega) eat55 (by omega) eot55 (by omega) eFt55 (by omega) eqt55 ((hg52 a0 8 0 0 hs_a0 (by decide)).trans ((xs_k hg48 (by decide)).trans ((xs_k hg46 (by decide)).trans ewt))) hs_wt ((hg52 a0 8 0 1 hs_a0 (by decide)).trans ((xs_k hg48 (by decide)).trans ((xs_k hg46 (by decide)).trans ewp))) hs_wp (by rw [(Eq.trans (Eq.trans (xv_m hg52 hs_wt (by decide) (by decide)) (xv_a hg48 (xne hs_wt hs_a0 (by decide)))) (xv_a hg46 (xne hs_wt hs_a0 (by decide)))), (Eq.trans (Eq.trans (xv_m hg52 hs_wp (by decide) (by decide)) (xv_a hg48 (xne hs_wp hs_a0 (by decide)))) (xv_a hg46 (xne hs_wp hs_a0 (by decide))))]; exact hp0) (by omega) (by omega)) hs_a0 ⟨by decide, rfl⟩ dX7_readOne_126 rfl rfl (by simp [Value.category]) (by decide) (by decide) (by decide) (by decide) (fun r56 S58 g57 pr56 qr56 hg57 => ?_)
          obtain ⟨rfl, rfl, k59⟩ := pr56
          refine X_st [] rfl ?_
          obtain ⟨Ft60, at60, ot60, qt60, eFt60, lFt60, uFt60, eat60, lat60, uat60, eot60, lot60, uot60, eqt60, lqt60, uqt60, kt60⟩ := k59
          have cat60 : at60 ≤ 300 := by have h9 := (show xTB (xv g57 wt) (xv g57 wp) tk tl cn from (by rw [(Eq.trans (Eq.trans (Eq.trans (xv_m hg57 hs_wt (by decide) (by decide)) (xv_m hg52 hs_wt (by decide) (by decide))) (xv_a hg48 (xne hs_wt hs_a0 (by decide)))) (xv_a hg46 (xne hs_wt hs_a0 (by decide)))), (Eq.trans (Eq.trans (Eq.trans (xv_m hg57 hs_wp (by decide) (by decide)) (xv_m hg52 hs_wp (by decide) (by decide))) (xv_a hg48 (xne hs_wp hs_a0 (by decide)))) (xv_a hg46 (xne hs_wp hs_a0 (by decide))))]; exact hp0)).2.2.2; omega
          refine X_goto hK 148 dX7_readOne_129 (by decide) ?_
          exact hret _ _ _ _ _ _ dX7_readOne_148 ⟨rfl, rfl, ⟨Ft60, at60, ot60, qt60, eFt60, by omega, by omega, eat60, by omega, by omega, eot60, by omega, by omega, eqt60, by omega, by omega, (by obtain ⟨h8, h7⟩ := kt60; by_cases f9 : Ft55 = 0; (rcases h8 with ⟨c1, c2, c3, c4⟩ | ⟨c1, c2, c3⟩; (rw [show Ft60 = 0 by omega, c3, h7]; exact xRR.po (by rw [← k5]; omega) (by omega) (show xRR tk tl 2 (4 + 1) (na + 1) (no + 1) Ft55 at55 ot55 qt55 from kt55) f9 c1); (have c4 := c3.resolve_left (fun q9 => q9.1 f9); rw [c4.2.1]; exact xRR.px (by rw [← k5]; omega) (by omega) (show xRR tk tl 2 (4 + 1) (na + 1) (no + 1) Ft55 at55 ot55 qt55 from kt55) f9 c1 c4.2.2)); (have h6 : Ft60 = Ft55 ∧ qt60 = qt55 := (by omega); rw [h6.1, h6.2]; exact xRR.pf (by rw [← k5]; omega) (by omega) (show xRR tk tl 2 (4 + 1) (na + 1) (no + 1) Ft55 at55 ot55 qt55 from kt55) f9))⟩⟩ (Nat.le_refl _) (Nat.le_refl _)
      · refine X_aloadn hK (i := 0) 2 dX7_readOne_41 rfl rfl ?_
        refine X_iconst hK dX7_readOne_42 ?_
        refine X_callV hK [.int (iI 1)] [] lk_X7_60 (c3_tell _ _ _ _ _ S g a0 1 na no nf nq wt wp tk tl cn hs_a0 (by omega) (by omega) ena (by omega) eno (by omega) enf (by omega) enq ewt hs_wt ewp hs_wp hp0 (by omega) (by omega)) hs_a0 ⟨by decide, rfl⟩ dX7_readOne_43 rfl rfl (by simp [Value.category]) (by decide) (by decide) (by decide) (by decide) (fun r61 S63 g62 pr61 qr61 hg62 => ?_)
        obtain ⟨rfl, rfl, k64⟩ := pr61
        refine X_st [] rfl ?_
        obtain ⟨Ft65, at65, ot65, qt65, eFt65, lFt65, uFt65, eat65, lat65, uat65, eot65, lot65, uot65, eqt65, lqt65, uqt65, kt65⟩ := k64
        have cat65 : at65 ≤ 300 := by have h9 := (show xTB (xv g62 wt) (xv g62 wp) tk tl cn from (by rw [(xv_m hg62 hs_wt (by decide) (by decide)), (xv_m hg62 hs_wp (by decide) (by decide))]; exact hp0)).2.2.2; omega
        refine X_goto hK 148 dX7_readOne_46 (by decide) ?_
        exact hret _ _ _ _ _ _ dX7_readOne_148 ⟨rfl, rfl, ⟨Ft65, at65, ot65, qt65, eFt65, by omega, by omega, eat65, by omega, by omega, eot65, by omega, by omega, eqt65, by omega, by omega, (by obtain ⟨h8, h7, h6⟩ := kt65; have h5 := h8.resolve_left (fun q9 => by omega); rw [h5.2.1]; exact xRR.f1 (by rw [← k5]; omega) h5.2.2)⟩⟩ (Nat.le_refl _) (Nat.le_refl _)
    · refine X_iconst hK dX7_readOne_17 ?_
      refine X_goto hK 22 dX7_readOne_18 (by decide) ?_
      refine X_istore hK (i := 4) [(4, .int (iI 1)), (3, .int (iI z4)), (0, .ref a0), (1, .ref a1), (2, .int (iI x2))] dX7_readOne_22 (by decide) rfl ?_
      refine X_iload hK (i := 4) 0 dX7_readOne_24 rfl ?_
      refine X_if_ne hK 49 (by omega) dX7_readOne_26 (by decide) (fun c66 => ?_) (fun c66 => False.elim (by omega))
      refine X_aloadn hK (i := 0) 2 dX7_readOne_49 rfl rfl ?_
      refine X_getK hK fl_X7_22_8 hs_a0 eno dX7_readOne_50 ?_
      refine X_bipush hK dX7_readOne_53 (by decide) ?_
      refine X_icmp_ge hK 64 (by omega) (by omega) dX7_readOne_55 (by decide) (fun c67 => ?_) (fun c67 => ?_)
      · refine X_aloadn hK (i := 0) 2 dX7_readOne_64 rfl rfl ?_
        refine X_iconst hK dX7_readOne_65 ?_
        refine X_callV hK [.int (iI 4)] [] lk_X7_60 (c3_tell _ _ _ _ _ S g a0 4 na no nf nq wt wp tk tl cn hs_a0 (by omega) (by omega) ena (by omega) eno (by omega) enf (by omega) enq ewt hs_wt ewp hs_wp hp0 (by omega) (by omega)) hs_a0 ⟨by decide, rfl⟩ dX7_readOne_66 rfl rfl (by simp [Value.category]) (by decide) (by decide) (by decide) (by decide) (fun r68 S70 g69 pr68 qr68 hg69 => ?_)
        obtain ⟨rfl, rfl, k71⟩ := pr68
        refine X_st [] rfl ?_
        obtain ⟨Ft72, at72, ot72, qt72, eFt72, lFt72, uFt72, eat72, lat72, uat72, eot72, lot72, uot72, eqt72, lqt72, uqt72, kt72⟩ := k71
        have cat72 : at72 ≤ 300 := by have h9 := (show xTB (xv g69 wt) (xv g69 wp) tk tl cn from (by rw [(xv_m hg69 hs_wt (by decide) (by decide)), (xv_m hg69 hs_wp (by decide) (by decide))]; exact hp0)).2.2.2; omega
        refine X_goto hK 148 dX7_readOne_69 (by decide) ?_
        exact hret _ _ _ _ _ _ dX7_readOne_148 ⟨rfl, rfl, ⟨Ft72, at72, ot72, qt72, eFt72, by omega, by omega, eat72, by omega, by omega, eot72, by omega, by omega, eqt72, by omega, by omega, (by obtain ⟨h8, h7, h6⟩ := kt72; have h5 := h8.resolve_left (fun q9 => by omega); rw [h5.2.1]; exact xRR.f4 (by rw [← k5]; omega) (by omega) h5.2.2)⟩⟩ (Nat.le_refl _) (Nat.le_refl _)
      · refine X_iloadn hK (i := 2) 4 dX7_readOne_58 rfl rfl ?_
        refine X_bipush hK dX7_readOne_59 (by decide) ?_
        refine X_icmp_le hK 72 (by omega) (by omega) dX7_readOne_61 (by decide) (fun c73 => ?_) (fun c73 => False.elim (by omega))
        refine X_aloadn hK (i := 0) 2 dX7_readOne_72 rfl rfl ?_
        refine X_dup hK dX7_readOne_73 rfl ?_
        refine X_getK hK fl_X7_22_8 hs_a0 eno dX7_readOne_74 ?_
        refine X_iconst hK dX7_readOne_77 ?_
        refine X_iadd hK dX7_readOne_78 ?_
        refine X_puti hK fl_X7_22_8 hs_a0 (by decide) sl_8_3 (by omega) (by omega) dX7_readOne_79 (fun g74 hg74 => ?_)
        refine X_aloadn hK (i := 0) 2 dX7_readOne_82 rfl rfl ?_
        refine X_dup hK dX7_readOne_83 rfl ?_
        have hl75 := xTB.lt (A := xv g74 wt) (B := xv g74 wp) (tk := tk) (tl := tl) (c := cn) (a := na) (by rw [(xv_a hg74 (xne hs_wt hs_a0 (by decide))), (xv_a hg74 (xne hs_wp hs_a0 (by decide)))]; exact hp0) (by omega) (by rw [← k5]; omega)
        refine X_getK hK fl_X7_18_8 hs_a0 ((xs_k hg74 (by decide)).trans ena) dX7_readOne_84 ?_
        refine X_iconst hK dX7_readOne_87 ?_
        refine X_iadd hK dX7_readOne_88 ?_
        refine X_puti hK fl_X7_18_8 hs_a0 (by decide) sl_8_2 (by omega) (by omega) dX7_readOne_89 (fun g76 hg76 => ?_)
        refine X_iload hK (i := 4) 0 dX7_readOne_92 rfl ?_
        refine X_if_eq hK 109 (by omega) dX7_readOne_94 (by decide) (fun c77 => False.elim (by omega)) (fun c77 => ?_)
        refine X_aloadn hK (i := 0) 2 dX7_readOne_97 rfl rfl ?_
        refine X_aloadn hK (i := 1) 3 dX7_readOne_98 rfl rfl ?_
        refine X_iloadn hK (i := 3) 1 dX7_readOne_99 rfl rfl ?_
        refine X_bipush hK dX7_readOne_100 (by decide) ?_
        refine X_isub hK dX7_readOne_102 ?_
        refine X_callV hK [.ref a1, .int (iI (z4 - 10))] [] lk_X7_135 (c3_readFact _ _ _ _ _ S g76 a0 a1 (z4 - 10) (na + 1) (no + 1) nf nq wt wp tk tl cn 4 hs_a0 hs_a1 (by omega) (by omega) (xs_s hg76) (by omega) ((xs_k hg76 (by decide)).trans (xs_s hg74)) (by omega) ((xs_k hg76 (by decide)).trans ((xs_k hg74 (by decide)).trans enf)) (by omega) ((xs_k hg76 (by decide)).trans ((xs_k hg74 (by decide)).trans enq)) ((xs_k hg76 (by decide)).trans ((xs_k hg74 (by decide)).trans ewt)) hs_wt ((xs_k hg76 (by decide)).trans ((xs_k hg74 (by decide)).trans ewp)) hs_wp (by rw [(Eq.trans (xv_a hg76 (xne hs_wt hs_a0 (by decide))) (xv_a hg74 (xne hs_wt hs_a0 (by decide)))), (Eq.trans (xv_a hg76 (xne hs_wp hs_a0 (by decide))) (xv_a hg74 (xne hs_wp hs_a0 (by decide))))]; exact hp0) (by omega) (by omega) (by rw [show (na + 1) - 1 = na by omega, ← k5]; omega) (by omega)) hs_a0 ⟨by decide, rfl⟩ dX7_readOne_103 rfl rfl (by simp [Value.category]) (by decide) (by decide) (by decide) (by decide) (fun r78 S80 g79 pr78 qr78 hg79 => ?_)
        obtain ⟨rfl, rfl, k81⟩ := pr78
        refine X_st [] rfl ?_
        obtain ⟨Ft82, at82, ot82, qt82, eFt82, lFt82, uFt82, eat82, lat82, uat82, eot82, lot82, uot82, eqt82, lqt82, uqt82, kt82⟩ := k81
        have cat82 : at82 ≤ 300 := by have h9 := (show xTB (xv g79 wt) (xv g79 wp) tk tl cn from (by rw [(Eq.trans (Eq.trans (xv_m hg79 hs_wt (by decide) (by decide)) (xv_a hg76 (xne hs_wt hs_a0 (by decide)))) (xv_a hg74 (xne hs_wt hs_a0 (by decide)))), (Eq.trans (Eq.trans (xv_m hg79 hs_wp (by decide) (by decide)) (xv_a hg76 (xne hs_wp hs_a0 (by decide)))) (xv_a hg74 (xne hs_wp hs_a0 (by decide))))]; exact hp0)).2.2.2; omega
        refine X_goto hK 148 dX7_readOne_106 (by decide) ?_
        exact hret _ _ _ _ _ _ dX7_readOne_148 ⟨rfl, rfl, ⟨Ft82, at82, ot82, qt82, eFt82, by omega, by omega, eat82, by omega, by omega, eot82, by omega, by omega, eqt82, by omega, by omega, (by have h9 := kt82; rw [show na + 1 - 1 = na by omega, show no + 1 - 1 = no by omega] at h9; exact h9)⟩⟩ (Nat.le_refl _) (Nat.le_refl _)

set_option maxHeartbeats 4000000 in
set_option maxRecDepth 100000 in
theorem c3_readAll_4 (l : Launch) (D : va_G) (kA : Nat → ClassId) (b0 : Nat) (t0 : Nat → Nat) (S : xT) (g : xG) (a0 : Nat) (a1 : Nat) (x2 : Int) (na : Int) (no : Int) (nf : Int) (nq : Int) (wt : Nat) (wp : Nat) (tk : Int → Int) (tl : Int → Int) (cn : Int) (hs_a0 : S a0 = some (8, 0)) (hs_a1 : S a1 = some (11, 0)) (hx2 : 4 ≤ x2 ∧ x2 ≤ 4) (hna : 0 ≤ na ∧ na ≤ 300) (ena : g a0 2 = .int (iI na)) (hno : 0 ≤ no ∧ no ≤ 50) (eno : g a0 3 = .int (iI no)) (hnf : 0 ≤ nf ∧ nf ≤ 0) (enf : g a0 5 = .int (iI nf)) (hnq : 0 ≤ nq ∧ nq ≤ 300) (enq : g a0 6 = .int (iI nq)) (ewt : g a0 0 = .ref wt) (hs_wt : S wt = some (12900, 301)) (ewp : g a0 1 = .ref wp) (hs_wp : S wp = some (13000, 301)) (hp0 : xTB (xv g wt) (xv g wp) tk tl cn) (hp1 : na ≤ cn) (hp2 : cn ≤ 300) : xMt l yX7_readAll cX7_readAll 4 none 23 0 0 535 D kA b0 t0 [(8, 5), (8, 6), (8, 3), (8, 2), (14000, 0), (11, 2)] [.ref a0, .ref a1, .int (iI x2)] S g (fun (r : Option Value) (S1 : xT) (g1 : xG) => S = S1 ∧ r = none ∧ (∃ F a o q : Int, g1 a0 5 = .int (iI F) ∧ -2147483648 ≤ F ∧ F ≤ 2147483647 ∧ g1 a0 2 = .int (iI a) ∧ 0 ≤ a ∧ a ≤ cn ∧ g1 a0 3 = .int (iI o) ∧ 0 ≤ o ∧ o ≤ 50 ∧ g1 a0 6 = .int (iI q) ∧ 0 ≤ q ∧ q ≤ 300 ∧ xRR tk tl 1 4 na no F a o q)) := by
  refine xEnterV (by decide) (by simp [lg_sl, Value.category]) [(0, .ref a0), (1, .ref a1), (2, .int (iI x2))] rfl ?_
  intro K E hK hret _ _ _
  refine X_aloadn hK (i := 0) 0 dX7_readAll_0 rfl rfl ?_
  refine X_aloadn hK (i := 1) 1 dX7_readAll_1 rfl rfl ?_
  refine X_iloadn hK (i := 2) 2 dX7_readAll_2 rfl rfl ?_
  refine X_callV hK [.ref a1, .int (iI x2)] [] lk_X7_132 (c3_readOne_4 _ _ _ _ _ S g a0 a1 x2 na no nf nq wt wp tk tl cn hs_a0 hs_a1 (by omega) (by omega) ena (by omega) eno (by omega) enf (by omega) enq ewt hs_wt ewp hs_wp hp0 (by omega) (by omega)) hs_a0 ⟨by decide, rfl⟩ dX7_readAll_3 rfl rfl (by simp [Value.category]) (by decide) (by decide) (by decide) (by decide) (fun r1 S3 g2 pr1 qr1 hg2 => ?_)
  obtain ⟨rfl, rfl, k4⟩ := pr1
  refine X_st [] rfl ?_
  obtain ⟨Ft5, at5, ot5, qt5, eFt5, lFt5, uFt5, eat5, lat5, uat5, eot5, lot5, uot5, eqt5, lqt5, uqt5, kt5⟩ := k4
  have cat5 : at5 ≤ 300 := by have h9 := (show xTB (xv g2 wt) (xv g2 wp) tk tl cn from (by rw [(xv_m hg2 hs_wt (by decide) (by decide)), (xv_m hg2 hs_wp (by decide) (by decide))]; exact hp0)).2.2.2; omega
  refine X_iconst hK dX7_readAll_6 ?_
  refine X_istoren hK (i := 3) [(3, .int (iI 0)), (0, .ref a0), (1, .ref a1), (2, .int (iI x2))] dX7_readAll_7 rfl (by decide) rfl ?_
  have P120 : ∀ (nP120 : Nat) (g98 : xG) (_ : xM [(14000, 0), (11, 2), (8, 5), (8, 6), (8, 3), (8, 2)] S g2 g98) (z97 : Int) (_ : 0 ≤ z97) (_ : z97 ≤ 50) (q99 : Int) (_ : 0 ≤ q99) (_ : q99 ≤ 300) (_ : g98 a0 2 = .int (iI q99)) (q100 : Int) (_ : 0 ≤ q100) (_ : q100 ≤ 50) (_ : g98 a0 3 = .int (iI q100)) (q101 : Int) (_ : (-2147483648) ≤ q101) (_ : q101 ≤ 2147483647) (_ : g98 a0 5 = .int (iI q101)) (q102 : Int) (_ : 0 ≤ q102) (_ : q102 ≤ 300) (_ : g98 a0 6 = .int (iI q102)) (_ : xIn tk tl 1 4 na no q101 q99 q100 q102) (_ : q101 = 0 → no + 1 + z97 ≤ q100) (_ : q99 ≤ cn) (_ : 60 - z97 < (nP120 : Int)), X K E 8 [(3, .int (iI z97)), (0, .ref a0), (1, .ref a1), (2, .int (iI x2))] [] S g98 0 0 := by
    intro nP120
    induction nP120 with
    | zero => intro g98 hg98 z97 lz97 uz97 q99 lq99 uq99 eq99 q100 lq100 uq100 eq100 q101 lq101 uq101 eq101 q102 lq102 uq102 eq102 v121 v122 v123 mP120; exact False.elim (by omega)
    | succ nP120 ihP120 =>
      intro g98 hg98 z97 lz97 uz97 q99 lq99 uq99 eq99 q100 lq100 uq100 eq100 q101 lq101 uq101 eq101 q102 lq102 uq102 eq102 v121 v122 v123 mP120
      refine X_iloadn hK (i := 3) 0 dX7_readAll_8 rfl rfl ?_
      refine X_bipush hK dX7_readAll_9 (by decide) ?_
      refine X_icmp_ge hK 60 (by omega) (by omega) dX7_readAll_11 (by decide) (fun c124 => ?_) (fun c124 => ?_)
      · exact hret _ _ _ _ _ _ dX7_readAll_60 ⟨rfl, rfl, ⟨q101, q99, q100, q102, eq101, by omega, by omega, eq99, by omega, by omega, eq100, by omega, by omega, eq102, by omega, by omega, (xIn.e v121 (fun h9 => False.elim (by have h8 := v122 h9; omega)))⟩⟩ (Nat.le_refl _) (Nat.le_refl _)
      · refine X_aloadn hK (i := 0) 1 dX7_readAll_14 rfl rfl ?_
        refine X_getK hK fl_X7_29_8 hs_a0 eq101 dX7_readAll_15 ?_
        refine X_if_ne hK 60 (by omega) dX7_readAll_18 (by decide) (fun c125 => ?_) (fun c125 => ?_)
        · exact hret _ _ _ _ _ _ dX7_readAll_60 ⟨rfl, rfl, ⟨q101, q99, q100, q102, eq101, by omega, by omega, eq99, by omega, by omega, eq100, by omega, by omega, eq102, by omega, by omega, (xIn.e v121 (fun h9 => False.elim (by have h8 := v122 h9; omega)))⟩⟩ (Nat.le_refl _) (Nat.le_refl _)
        · refine X_aloadn hK (i := 0) 1 dX7_readAll_21 rfl rfl ?_
          refine X_callV hK [] [] lk_X7_47 (c3_now _ _ _ _ _ S g98 a0 q99 wt wp tk tl cn hs_a0 (by omega) eq99 ((hg98 a0 8 0 0 hs_a0 (by decide)).trans ((hg2 a0 8 0 0 hs_a0 (by decide)).trans ewt)) hs_wt ((hg98 a0 8 0 1 hs_a0 (by decide)).trans ((hg2 a0 8 0 1 hs_a0 (by decide)).trans ewp)) hs_wp (by rw [(Eq.trans (xv_m hg98 hs_wt (by decide) (by decide)) (xv_m hg2 hs_wt (by decide) (by decide))), (Eq.trans (xv_m hg98 hs_wp (by decide) (by decide)) (xv_m hg2 hs_wp (by decide) (by decide)))]; exact hp0) (by omega) (by omega)) hs_a0 ⟨by decide, rfl⟩ dX7_readAll_22 rfl rfl (by simp [Value.category]) (by decide) (by decide) (by decide) (by decide) (fun r126 S128 g127 pr126 qr126 hg127 => ?_)
          obtain ⟨rfl, rfl, z129, rfl, lz129, uz129, k130⟩ := pr126
          refine X_st [.int (iI z129)] rfl ?_
          refine X_bipush hK dX7_readAll_25 (by decide) ?_
          refine X_icmp_ne hK 60 (by omega) (by omega) dX7_readAll_27 (by decide) (fun c131 => ?_) (fun c131 => ?_)
          · exact hret _ _ _ _ _ _ dX7_readAll_60 ⟨rfl, rfl, ⟨q101, q99, q100, q102, eq101, by omega, by omega, eq99, by omega, by omega, eq100, by omega, by omega, eq102, by omega, by omega, (xIn.e v121 (fun h9 => Or.inl ⟨rfl, by rw [← k130]; omega⟩))⟩⟩ (Nat.le_refl _) (Nat.le_refl _)
          · refine X_aloadn hK (i := 0) 1 dX7_readAll_30 rfl rfl ?_
            refine X_dup hK dX7_readAll_31 rfl ?_
            have hl132 := xTB.lt (A := xv g98 wt) (B := xv g98 wp) (tk := tk) (tl := tl) (c := cn) (a := q99) (by rw [(Eq.trans (xv_m hg98 hs_wt (by decide) (by decide)) (xv_m hg2 hs_wt (by decide) (by decide))), (Eq.trans (xv_m hg98 hs_wp (by decide) (by decide)) (xv_m hg2 hs_wp (by decide) (by decide)))]; exact hp0) (by omega) (by rw [← k130]; omega)
            refine X_getK hK fl_X7_18_8 hs_a0 eq99 dX7_readAll_32 ?_
            refine X_iconst hK dX7_readAll_35 ?_
            refine X_iadd hK dX7_readAll_36 ?_
            refine X_puti hK fl_X7_18_8 hs_a0 (by decide) sl_8_2 (by omega) (by omega) dX7_readAll_37 (fun g133 hg133 => ?_)
            refine X_aloadn hK (i := 0) 1 dX7_readAll_40 rfl rfl ?_
            refine X_aloadn hK (i := 1) 2 dX7_readAll_41 rfl rfl ?_
            refine X_iloadn hK (i := 2) 3 dX7_readAll_42 rfl rfl ?_
            refine X_callV hK [.ref a1, .int (iI x2)] [] lk_X7_132 (c3_readOne_4 _ _ _ _ _ S g133 a0 a1 x2 (q99 + 1) q100 q101 q102 wt wp tk tl cn hs_a0 hs_a1 (by omega) (by omega) (xs_s hg133) (by omega) ((xs_k hg133 (by decide)).trans eq100) (by omega) ((xs_k hg133 (by decide)).trans eq101) (by omega) ((xs_k hg133 (by decide)).trans eq102) ((xs_k hg133 (by decide)).trans ((hg98 a0 8 0 0 hs_a0 (by decide)).trans ((hg2 a0 8 0 0 hs_a0 (by decide)).trans ewt))) hs_wt ((xs_k hg133 (by decide)).trans ((hg98 a0 8 0 1 hs_a0 (by decide)).trans ((hg2 a0 8 0 1 hs_a0 (by decide)).trans ewp))) hs_wp (by rw [(Eq.trans (Eq.trans (xv_a hg133 (xne hs_wt hs_a0 (by decide))) (xv_m hg98 hs_wt (by decide) (by decide))) (xv_m hg2 hs_wt (by decide) (by decide))), (Eq.trans (Eq.trans (xv_a hg133 (xne hs_wp hs_a0 (by decide))) (xv_m hg98 hs_wp (by decide) (by decide))) (xv_m hg2 hs_wp (by decide) (by decide)))]; exact hp0) (by omega) (by omega)) hs_a0 ⟨by decide, rfl⟩ dX7_readAll_43 rfl rfl (by simp [Value.category]) (by decide) (by decide) (by decide) (by decide) (fun r134 S136 g135 pr134 qr134 hg135 => ?_)
            obtain ⟨rfl, rfl, k137⟩ := pr134
            refine X_st [] rfl ?_
            obtain ⟨Ft138, at138, ot138, qt138, eFt138, lFt138, uFt138, eat138, lat138, uat138, eot138, lot138, uot138, eqt138, lqt138, uqt138, kt138⟩ := k137
            have cat138 : at138 ≤ 300 := by have h9 := (show xTB (xv g135 wt) (xv g135 wp) tk tl cn from (by rw [(Eq.trans (Eq.trans (Eq.trans (xv_m hg135 hs_wt (by decide) (by decide)) (xv_a hg133 (xne hs_wt hs_a0 (by decide)))) (xv_m hg98 hs_wt (by decide) (by decide))) (xv_m hg2 hs_wt (by decide) (by decide))), (Eq.trans (Eq.trans (Eq.trans (xv_m hg135 hs_wp (by decide) (by decide)) (xv_a hg133 (xne hs_wp hs_a0 (by decide)))) (xv_m hg98 hs_wp (by decide) (by decide))) (xv_m hg2 hs_wp (by decide) (by decide)))]; exact hp0)).2.2.2; omega
            refine X_aloadn hK (i := 1) 2 dX7_readAll_46 rfl rfl ?_
            refine X_bipush hK dX7_readAll_47 (by decide) ?_
            refine X_iconst hK dX7_readAll_49 ?_
            refine X_iconst hK dX7_readAll_50 ?_
            refine X_callV hK [.int (iI 13), .int (iI 0), .int (iI 0)] [] lk_X7_129 (c_X10_addStep _ _ _ _ _ S g135 a1 13 0 0 hs_a1 (by omega) (by omega) (by omega)) hs_a1 ⟨by decide, rfl⟩ dX7_readAll_51 rfl rfl (by simp [Value.category]) (by decide) (by decide) (by decide) (by decide) (fun r139 S141 g140 pr139 qr139 hg140 => ?_)
            obtain ⟨rfl, rfl⟩ := pr139
            refine X_st [] rfl ?_
            refine X_iinc hK (i := 3) (z := z97) (n := 1) 0 [(3, .int (iI (z97 + 1))), (0, .ref a0), (1, .ref a1), (2, .int (iI x2))] dX7_readAll_54 rfl (by decide) rfl ?_
            refine X_goto hK 8 dX7_readAll_57 (by decide) ?_
            exact ihP120  g140 (xM.tr (xM.tr (xM_up (xM.tr xM.rf xLe.rf hg98 (by decide)) hg133 hs_a0 (by decide) (by decide)) xLe.rf hg135 (by decide)) xLe.rf hg140 (by decide)) (z97 + 1) (by omega) (by omega) at138 (by omega) (by omega) ((hg140 a0 8 0 2 hs_a0 (by decide)).trans eat138) ot138 (by omega) (by omega) ((hg140 a0 8 0 3 hs_a0 (by decide)).trans eot138) Ft138 (by omega) (by omega) ((hg140 a0 8 0 5 hs_a0 (by decide)).trans eFt138) qt138 (by omega) (by omega) ((hg140 a0 8 0 6 hs_a0 (by decide)).trans eqt138) (xIn.s (Or.inl ⟨rfl, rfl, (by rw [← k130]; omega)⟩) v121 (by omega) kt138) (fun h9 => by have h8 := xRR.b kt138 h9; omega) (by omega) (by omega)
  exact P120 ((60 - 0 : Int).toNat + 1) g2 xM.rf 0 (by omega) (by omega) at5 (by omega) (by omega) eat5 ot5 (by omega) (by omega) eot5 Ft5 (by omega) (by omega) eFt5 qt5 (by omega) (by omega) eqt5 (xIn.z (Or.inl ⟨rfl, rfl⟩) kt5) (fun h9 => by have h8 := xRR.b kt5 h9; omega) (by omega) (by omega)

set_option maxHeartbeats 4000000 in
set_option maxRecDepth 100000 in
theorem c3_readCond_4 (l : Launch) (D : va_G) (kA : Nat → ClassId) (b0 : Nat) (t0 : Nat → Nat) (S : xT) (g : xG) (a0 : Nat) (a1 : Nat) (x2 : Int) (na : Int) (no : Int) (nf : Int) (nq : Int) (wt : Nat) (wp : Nat) (tk : Int → Int) (tl : Int → Int) (cn : Int) (hs_a0 : S a0 = some (8, 0)) (hs_a1 : S a1 = some (11, 0)) (hx2 : 4 ≤ x2 ∧ x2 ≤ 4) (hna : 0 ≤ na ∧ na ≤ 300) (ena : g a0 2 = .int (iI na)) (hno : 0 ≤ no ∧ no ≤ 50) (eno : g a0 3 = .int (iI no)) (hnf : 0 ≤ nf ∧ nf ≤ 0) (enf : g a0 5 = .int (iI nf)) (hnq : 0 ≤ nq ∧ nq ≤ 300) (enq : g a0 6 = .int (iI nq)) (ewt : g a0 0 = .ref wt) (hs_wt : S wt = some (12900, 301)) (ewp : g a0 1 = .ref wp) (hs_wp : S wp = some (13000, 301)) (hp0 : xTB (xv g wt) (xv g wp) tk tl cn) (hp1 : na ≤ cn) (hp2 : cn ≤ 300) : xMt l yX7_readCond cX7_readCond 4 none 24 0 0 558 D kA b0 t0 [(8, 5), (8, 6), (8, 3), (8, 2), (14000, 0), (11, 2)] [.ref a0, .ref a1, .int (iI x2)] S g (fun (r : Option Value) (S1 : xT) (g1 : xG) => S = S1 ∧ r = none ∧ (∃ F a o q : Int, g1 a0 5 = .int (iI F) ∧ -2147483648 ≤ F ∧ F ≤ 2147483647 ∧ g1 a0 2 = .int (iI a) ∧ 0 ≤ a ∧ a ≤ cn ∧ g1 a0 3 = .int (iI o) ∧ 0 ≤ o ∧ o ≤ 50 ∧ g1 a0 6 = .int (iI q) ∧ 0 ≤ q ∧ q ≤ 300 ∧ xRR tk tl 2 4 na no F a o q)) := by
  refine xEnterV (by decide) (by simp [lg_sl, Value.category]) [(0, .ref a0), (1, .ref a1), (2, .int (iI x2))] rfl ?_
  intro K E hK hret _ _ _
  refine X_aloadn hK (i := 0) 0 dX7_readCond_0 rfl rfl ?_
  refine X_aloadn hK (i := 1) 1 dX7_readCond_1 rfl rfl ?_
  refine X_iloadn hK (i := 2) 2 dX7_readCond_2 rfl rfl ?_
  refine X_callV hK [.ref a1, .int (iI x2)] [] lk_X7_126 (c3_readAll_4 _ _ _ _ _ S g a0 a1 x2 na no nf nq wt wp tk tl cn hs_a0 hs_a1 (by omega) (by omega) ena (by omega) eno (by omega) enf (by omega) enq ewt hs_wt ewp hs_wp hp0 (by omega) (by omega)) hs_a0 ⟨by decide, rfl⟩ dX7_readCond_3 rfl rfl (by simp [Value.category]) (by decide) (by decide) (by decide) (by decide) (fun r1 S3 g2 pr1 qr1 hg2 => ?_)
  obtain ⟨rfl, rfl, k4⟩ := pr1
  refine X_st [] rfl ?_
  obtain ⟨Ft5, at5, ot5, qt5, eFt5, lFt5, uFt5, eat5, lat5, uat5, eot5, lot5, uot5, eqt5, lqt5, uqt5, kt5⟩ := k4
  have cat5 : at5 ≤ 300 := by have h9 := (show xTB (xv g2 wt) (xv g2 wp) tk tl cn from (by rw [(xv_m hg2 hs_wt (by decide) (by decide)), (xv_m hg2 hs_wp (by decide) (by decide))]; exact hp0)).2.2.2; omega
  refine X_iconst hK dX7_readCond_6 ?_
  refine X_istoren hK (i := 3) [(3, .int (iI 0)), (0, .ref a0), (1, .ref a1), (2, .int (iI x2))] dX7_readCond_7 rfl (by decide) rfl ?_
  have P120 : ∀ (nP120 : Nat) (g98 : xG) (_ : xM [(14000, 0), (11, 2), (8, 5), (8, 6), (8, 3), (8, 2)] S g2 g98) (z97 : Int) (_ : 0 ≤ z97) (_ : z97 ≤ 50) (q99 : Int) (_ : 0 ≤ q99) (_ : q99 ≤ 300) (_ : g98 a0 2 = .int (iI q99)) (q100 : Int) (_ : 0 ≤ q100) (_ : q100 ≤ 50) (_ : g98 a0 3 = .int (iI q100)) (q101 : Int) (_ : (-2147483648) ≤ q101) (_ : q101 ≤ 2147483647) (_ : g98 a0 5 = .int (iI q101)) (q102 : Int) (_ : 0 ≤ q102) (_ : q102 ≤ 300) (_ : g98 a0 6 = .int (iI q102)) (_ : xIn tk tl 2 4 na no q101 q99 q100 q102) (_ : q101 = 0 → no + 1 + z97 ≤ q100) (_ : q99 ≤ cn) (_ : 60 - z97 < (nP120 : Int)), X K E 8 [(3, .int (iI z97)), (0, .ref a0), (1, .ref a1), (2, .int (iI x2))] [] S g98 0 0 := by
    intro nP120
    induction nP120 with
    | zero => intro g98 hg98 z97 lz97 uz97 q99 lq99 uq99 eq99 q100 lq100 uq100 eq100 q101 lq101 uq101 eq101 q102 lq102 uq102 eq102 v121 v122 v123 mP120; exact False.elim (by omega)
    | succ nP120 ihP120 =>
      intro g98 hg98 z97 lz97 uz97 q99 lq99 uq99 eq99 q100 lq100 uq100 eq100 q101 lq101 uq101 eq101 q102 lq102 uq102 eq102 v121 v122 v123 mP120
      refine X_iloadn hK (i := 3) 0 dX7_readCond_8 rfl rfl ?_
      refine X_bipush hK dX7_readCond_9 (by decide) ?_
      refine X_icmp_ge hK 60 (by omega) (by omega) dX7_readCond_11 (by decide) (fun c124 => ?_) (fun c124 => ?_)
      · exact hret _ _ _ _ _ _ dX7_readCond_60 ⟨rfl, rfl, ⟨q101, q99, q100, q102, eq101, by omega, by omega, eq99, by omega, by omega, eq100, by omega, by omega, eq102, by omega, by omega, (xIn.e v121 (fun h9 => False.elim (by have h8 := v122 h9; omega)))⟩⟩ (Nat.le_refl _) (Nat.le_refl _)
      · refine X_aloadn hK (i := 0) 1 dX7_readCond_14 rfl rfl ?_
        refine X_getK hK fl_X7_29_8 hs_a0 eq101 dX7_readCond_15 ?_
        refine X_if_ne hK 60 (by omega) dX7_readCond_18 (by decide) (fun c125 => ?_) (fun c125 => ?_)
        · exact hret _ _ _ _ _ _ dX7_readCond_60 ⟨rfl, rfl, ⟨q101, q99, q100, q102, eq101, by omega, by omega, eq99, by omega, by omega, eq100, by omega, by omega, eq102, by omega, by omega, (xIn.e v121 (fun h9 => False.elim (by have h8 := v122 h9; omega)))⟩⟩ (Nat.le_refl _) (Nat.le_refl _)
        · refine X_aloadn hK (i := 0) 1 dX7_readCond_21 rfl rfl ?_
          refine X_callV hK [] [] lk_X7_47 (c3_now _ _ _ _ _ S g98 a0 q99 wt wp tk tl cn hs_a0 (by omega) eq99 ((hg98 a0 8 0 0 hs_a0 (by decide)).trans ((hg2 a0 8 0 0 hs_a0 (by decide)).trans ewt)) hs_wt ((hg98 a0 8 0 1 hs_a0 (by decide)).trans ((hg2 a0 8 0 1 hs_a0 (by decide)).trans ewp)) hs_wp (by rw [(Eq.trans (xv_m hg98 hs_wt (by decide) (by decide)) (xv_m hg2 hs_wt (by decide) (by decide))), (Eq.trans (xv_m hg98 hs_wp (by decide) (by decide)) (xv_m hg2 hs_wp (by decide) (by decide)))]; exact hp0) (by omega) (by omega)) hs_a0 ⟨by decide, rfl⟩ dX7_readCond_22 rfl rfl (by simp [Value.category]) (by decide) (by decide) (by decide) (by decide) (fun r126 S128 g127 pr126 qr126 hg127 => ?_)
          obtain ⟨rfl, rfl, z129, rfl, lz129, uz129, k130⟩ := pr126
          refine X_st [.int (iI z129)] rfl ?_
          refine X_bipush hK dX7_readCond_25 (by decide) ?_
          refine X_icmp_ne hK 60 (by omega) (by omega) dX7_readCond_27 (by decide) (fun c131 => ?_) (fun c131 => ?_)
          · exact hret _ _ _ _ _ _ dX7_readCond_60 ⟨rfl, rfl, ⟨q101, q99, q100, q102, eq101, by omega, by omega, eq99, by omega, by omega, eq100, by omega, by omega, eq102, by omega, by omega, (xIn.e v121 (fun h9 => Or.inr ⟨rfl, by rw [← k130]; omega⟩))⟩⟩ (Nat.le_refl _) (Nat.le_refl _)
          · refine X_aloadn hK (i := 0) 1 dX7_readCond_30 rfl rfl ?_
            refine X_dup hK dX7_readCond_31 rfl ?_
            have hl132 := xTB.lt (A := xv g98 wt) (B := xv g98 wp) (tk := tk) (tl := tl) (c := cn) (a := q99) (by rw [(Eq.trans (xv_m hg98 hs_wt (by decide) (by decide)) (xv_m hg2 hs_wt (by decide) (by decide))), (Eq.trans (xv_m hg98 hs_wp (by decide) (by decide)) (xv_m hg2 hs_wp (by decide) (by decide)))]; exact hp0) (by omega) (by rw [← k130]; omega)
            refine X_getK hK fl_X7_18_8 hs_a0 eq99 dX7_readCond_32 ?_
            refine X_iconst hK dX7_readCond_35 ?_
            refine X_iadd hK dX7_readCond_36 ?_
            refine X_puti hK fl_X7_18_8 hs_a0 (by decide) sl_8_2 (by omega) (by omega) dX7_readCond_37 (fun g133 hg133 => ?_)
            refine X_aloadn hK (i := 0) 1 dX7_readCond_40 rfl rfl ?_
            refine X_aloadn hK (i := 1) 2 dX7_readCond_41 rfl rfl ?_
            refine X_iloadn hK (i := 2) 3 dX7_readCond_42 rfl rfl ?_
            refine X_callV hK [.ref a1, .int (iI x2)] [] lk_X7_126 (c3_readAll_4 _ _ _ _ _ S g133 a0 a1 x2 (q99 + 1) q100 q101 q102 wt wp tk tl cn hs_a0 hs_a1 (by omega) (by omega) (xs_s hg133) (by omega) ((xs_k hg133 (by decide)).trans eq100) (by omega) ((xs_k hg133 (by decide)).trans eq101) (by omega) ((xs_k hg133 (by decide)).trans eq102) ((xs_k hg133 (by decide)).trans ((hg98 a0 8 0 0 hs_a0 (by decide)).trans ((hg2 a0 8 0 0 hs_a0 (by decide)).trans ewt))) hs_wt ((xs_k hg133 (by decide)).trans ((hg98 a0 8 0 1 hs_a0 (by decide)).trans ((hg2 a0 8 0 1 hs_a0 (by decide)).trans ewp))) hs_wp (by rw [(Eq.trans (Eq.trans (xv_a hg133 (xne hs_wt hs_a0 (by decide))) (xv_m hg98 hs_wt (by decide) (by decide))) (xv_m hg2 hs_wt (by decide) (by decide))), (Eq.trans (Eq.trans (xv_a hg133 (xne hs_wp hs_a0 (by decide))) (xv_m hg98 hs_wp (by decide) (by decide))) (xv_m hg2 hs_wp (by decide) (by decide)))]; exact hp0) (by omega) (by omega)) hs_a0 ⟨by decide, rfl⟩ dX7_readCond_43 rfl rfl (by simp [Value.category]) (by decide) (by decide) (by decide) (by decide) (fun r134 S136 g135 pr134 qr134 hg135 => ?_)
            obtain ⟨rfl, rfl, k137⟩ := pr134
            refine X_st [] rfl ?_
            obtain ⟨Ft138, at138, ot138, qt138, eFt138, lFt138, uFt138, eat138, lat138, uat138, eot138, lot138, uot138, eqt138, lqt138, uqt138, kt138⟩ := k137
            have cat138 : at138 ≤ 300 := by have h9 := (show xTB (xv g135 wt) (xv g135 wp) tk tl cn from (by rw [(Eq.trans (Eq.trans (Eq.trans (xv_m hg135 hs_wt (by decide) (by decide)) (xv_a hg133 (xne hs_wt hs_a0 (by decide)))) (xv_m hg98 hs_wt (by decide) (by decide))) (xv_m hg2 hs_wt (by decide) (by decide))), (Eq.trans (Eq.trans (Eq.trans (xv_m hg135 hs_wp (by decide) (by decide)) (xv_a hg133 (xne hs_wp hs_a0 (by decide)))) (xv_m hg98 hs_wp (by decide) (by decide))) (xv_m hg2 hs_wp (by decide) (by decide)))]; exact hp0)).2.2.2; omega
            refine X_aloadn hK (i := 1) 2 dX7_readCond_46 rfl rfl ?_
            refine X_bipush hK dX7_readCond_47 (by decide) ?_
            refine X_iconst hK dX7_readCond_49 ?_
            refine X_iconst hK dX7_readCond_50 ?_
            refine X_callV hK [.int (iI 14), .int (iI 0), .int (iI 0)] [] lk_X7_129 (c_X10_addStep _ _ _ _ _ S g135 a1 14 0 0 hs_a1 (by omega) (by omega) (by omega)) hs_a1 ⟨by decide, rfl⟩ dX7_readCond_51 rfl rfl (by simp [Value.category]) (by decide) (by decide) (by decide) (by decide) (fun r139 S141 g140 pr139 qr139 hg140 => ?_)
            obtain ⟨rfl, rfl⟩ := pr139
            refine X_st [] rfl ?_
            refine X_iinc hK (i := 3) (z := z97) (n := 1) 0 [(3, .int (iI (z97 + 1))), (0, .ref a0), (1, .ref a1), (2, .int (iI x2))] dX7_readCond_54 rfl (by decide) rfl ?_
            refine X_goto hK 8 dX7_readCond_57 (by decide) ?_
            exact ihP120  g140 (xM.tr (xM.tr (xM_up (xM.tr xM.rf xLe.rf hg98 (by decide)) hg133 hs_a0 (by decide) (by decide)) xLe.rf hg135 (by decide)) xLe.rf hg140 (by decide)) (z97 + 1) (by omega) (by omega) at138 (by omega) (by omega) ((hg140 a0 8 0 2 hs_a0 (by decide)).trans eat138) ot138 (by omega) (by omega) ((hg140 a0 8 0 3 hs_a0 (by decide)).trans eot138) Ft138 (by omega) (by omega) ((hg140 a0 8 0 5 hs_a0 (by decide)).trans eFt138) qt138 (by omega) (by omega) ((hg140 a0 8 0 6 hs_a0 (by decide)).trans eqt138) (xIn.s (Or.inr ⟨rfl, rfl, (by rw [← k130]; omega)⟩) v121 (by omega) kt138) (fun h9 => by have h8 := xRR.b1 kt138 h9; omega) (by omega) (by omega)
  exact P120 ((60 - 0 : Int).toNat + 1) g2 xM.rf 0 (by omega) (by omega) at5 (by omega) (by omega) eat5 ot5 (by omega) (by omega) eot5 Ft5 (by omega) (by omega) eFt5 qt5 (by omega) (by omega) eqt5 (xIn.z (Or.inr ⟨rfl, rfl⟩) kt5) (fun h9 => by have h8 := xRR.b1 kt5 h9; omega) (by omega) (by omega)

set_option maxHeartbeats 4000000 in
set_option maxRecDepth 100000 in
theorem c3_readOne_3 (l : Launch) (D : va_G) (kA : Nat → ClassId) (b0 : Nat) (t0 : Nat → Nat) (S : xT) (g : xG) (a0 : Nat) (a1 : Nat) (x2 : Int) (na : Int) (no : Int) (nf : Int) (nq : Int) (wt : Nat) (wp : Nat) (tk : Int → Int) (tl : Int → Int) (cn : Int) (hs_a0 : S a0 = some (8, 0)) (hs_a1 : S a1 = some (11, 0)) (hx2 : 3 ≤ x2 ∧ x2 ≤ 3) (hna : 0 ≤ na ∧ na ≤ 300) (ena : g a0 2 = .int (iI na)) (hno : 0 ≤ no ∧ no ≤ 50) (eno : g a0 3 = .int (iI no)) (hnf : 0 ≤ nf ∧ nf ≤ 0) (enf : g a0 5 = .int (iI nf)) (hnq : 0 ≤ nq ∧ nq ≤ 300) (enq : g a0 6 = .int (iI nq)) (ewt : g a0 0 = .ref wt) (hs_wt : S wt = some (12900, 301)) (ewp : g a0 1 = .ref wp) (hs_wp : S wp = some (13000, 301)) (hp0 : xTB (xv g wt) (xv g wp) tk tl cn) (hp1 : na ≤ cn) (hp2 : cn ≤ 300) : xMt l yX7_readOne cX7_readOne 5 none 25 0 0 581 D kA b0 t0 [(8, 5), (8, 6), (8, 3), (8, 2), (14000, 0), (11, 2)] [.ref a0, .ref a1, .int (iI x2)] S g (fun (r : Option Value) (S1 : xT) (g1 : xG) => S = S1 ∧ r = none ∧ (∃ F a o q : Int, g1 a0 5 = .int (iI F) ∧ -2147483648 ≤ F ∧ F ≤ 2147483647 ∧ g1 a0 2 = .int (iI a) ∧ 0 ≤ a ∧ a ≤ cn ∧ g1 a0 3 = .int (iI o) ∧ 0 ≤ o ∧ o ≤ 50 ∧ g1 a0 6 = .int (iI q) ∧ 0 ≤ q ∧ q ≤ 300 ∧ xRR tk tl 0 3 na no F a o q)) := by
  refine xEnterV (by decide) (by simp [lg_sl, Value.category]) [(0, .ref a0), (1, .ref a1), (2, .int (iI x2))] rfl ?_
  intro K E hK hret _ _ _
  refine X_aloadn hK (i := 0) 0 dX7_readOne_0 rfl rfl ?_
  refine X_callV hK [] [] lk_X7_47 (c3_now _ _ _ _ _ S g a0 na wt wp tk tl cn hs_a0 (by omega) ena ewt hs_wt ewp hs_wp hp0 (by omega) (by omega)) hs_a0 ⟨by decide, rfl⟩ dX7_readOne_1 rfl rfl (by simp [Value.category]) (by decide) (by decide) (by decide) (by decide) (fun r1 S3 g2 pr1 qr1 hg2 => ?_)
  obtain ⟨rfl, rfl, z4, rfl, lz4, uz4, k5⟩ := pr1
  refine X_st [.int (iI z4)] rfl ?_
  refine X_istoren hK (i := 3) [(3, .int (iI z4)), (0, .ref a0), (1, .ref a1), (2, .int (iI x2))] dX7_readOne_4 rfl (by decide) rfl ?_
  refine X_iloadn hK (i := 3) 0 dX7_readOne_5 rfl rfl ?_
  refine X_bipush hK dX7_readOne_6 (by decide) ?_
  refine X_icmp_lt hK 21 (by omega) (by omega) dX7_readOne_8 (by decide) (fun c6 => ?_) (fun c6 => ?_)
  · refine X_iconst hK dX7_readOne_21 ?_
    refine X_istore hK (i := 4) [(4, .int (iI 0)), (3, .int (iI z4)), (0, .ref a0), (1, .ref a1), (2, .int (iI x2))] dX7_readOne_22 (by decide) rfl ?_
    refine X_iload hK (i := 4) 0 dX7_readOne_24 rfl ?_
    refine X_if_ne hK 49 (by omega) dX7_readOne_26 (by decide) (fun c7 => False.elim (by omega)) (fun c7 => ?_)
    refine X_iloadn hK (i := 3) 1 dX7_readOne_29 rfl rfl ?_
    refine X_bipush hK dX7_readOne_30 (by decide) ?_
    refine X_icmp_eq hK 49 (by omega) (by omega) dX7_readOne_32 (by decide) (fun c8 => ?_) (fun c8 => ?_)
    · refine X_aloadn hK (i := 0) 2 dX7_readOne_49 rfl rfl ?_
      refine X_getK hK fl_X7_22_8 hs_a0 eno dX7_readOne_50 ?_
      refine X_bipush hK dX7_readOne_53 (by decide) ?_
      refine X_icmp_ge hK 64 (by omega) (by omega) dX7_readOne_55 (by decide) (fun c9 => ?_) (fun c9 => ?_)
      · refine X_aloadn hK (i := 0) 2 dX7_readOne_64 rfl rfl ?_
        refine X_iconst hK dX7_readOne_65 ?_
        refine X_callV hK [.int (iI 4)] [] lk_X7_60 (c3_tell _ _ _ _ _ S g a0 4 na no nf nq wt wp tk tl cn hs_a0 (by omega) (by omega) ena (by omega) eno (by omega) enf (by omega) enq ewt hs_wt ewp hs_wp hp0 (by omega) (by omega)) hs_a0 ⟨by decide, rfl⟩ dX7_readOne_66 rfl rfl (by simp [Value.category]) (by decide) (by decide) (by decide) (by decide) (fun r10 S12 g11 pr10 qr10 hg11 => ?_)
        obtain ⟨rfl, rfl, k13⟩ := pr10
        refine X_st [] rfl ?_
        obtain ⟨Ft14, at14, ot14, qt14, eFt14, lFt14, uFt14, eat14, lat14, uat14, eot14, lot14, uot14, eqt14, lqt14, uqt14, kt14⟩ := k13
        have cat14 : at14 ≤ 300 := by have h9 := (show xTB (xv g11 wt) (xv g11 wp) tk tl cn from (by rw [(xv_m hg11 hs_wt (by decide) (by decide)), (xv_m hg11 hs_wp (by decide) (by decide))]; exact hp0)).2.2.2; omega
        refine X_goto hK 148 dX7_readOne_69 (by decide) ?_
        exact hret _ _ _ _ _ _ dX7_readOne_148 ⟨rfl, rfl, ⟨Ft14, at14, ot14, qt14, eFt14, by omega, by omega, eat14, by omega, by omega, eot14, by omega, by omega, eqt14, by omega, by omega, (by obtain ⟨h8, h7, h6⟩ := kt14; have h5 := h8.resolve_left (fun q9 => by omega); rw [h5.2.1]; exact xRR.f4 (by rw [← k5]; omega) (by omega) h5.2.2)⟩⟩ (Nat.le_refl _) (Nat.le_refl _)
      · refine X_iloadn hK (i := 2) 4 dX7_readOne_58 rfl rfl ?_
        refine X_bipush hK dX7_readOne_59 (by decide) ?_
        refine X_icmp_le hK 72 (by omega) (by omega) dX7_readOne_61 (by decide) (fun c15 => ?_) (fun c15 => False.elim (by omega))
        refine X_aloadn hK (i := 0) 2 dX7_readOne_72 rfl rfl ?_
        refine X_dup hK dX7_readOne_73 rfl ?_
        refine X_getK hK fl_X7_22_8 hs_a0 eno dX7_readOne_74 ?_
        refine X_iconst hK dX7_readOne_77 ?_
        refine X_iadd hK dX7_readOne_78 ?_
        refine X_puti hK fl_X7_22_8 hs_a0 (by decide) sl_8_3 (by omega) (by omega) dX7_readOne_79 (fun g16 hg16 => ?_)
        refine X_aloadn hK (i := 0) 2 dX7_readOne_82 rfl rfl ?_
        refine X_dup hK dX7_readOne_83 rfl ?_
        have hl17 := xTB.lt (A := xv g16 wt) (B := xv g16 wp) (tk := tk) (tl := tl) (c := cn) (a := na) (by rw [(xv_a hg16 (xne hs_wt hs_a0 (by decide))), (xv_a hg16 (xne hs_wp hs_a0 (by decide)))]; exact hp0) (by omega) (by rw [← k5]; omega)
        refine X_getK hK fl_X7_18_8 hs_a0 ((xs_k hg16 (by decide)).trans ena) dX7_readOne_84 ?_
        refine X_iconst hK dX7_readOne_87 ?_
        refine X_iadd hK dX7_readOne_88 ?_
        refine X_puti hK fl_X7_18_8 hs_a0 (by decide) sl_8_2 (by omega) (by omega) dX7_readOne_89 (fun g18 hg18 => ?_)
        refine X_iload hK (i := 4) 0 dX7_readOne_92 rfl ?_
        refine X_if_eq hK 109 (by omega) dX7_readOne_94 (by decide) (fun c19 => ?_) (fun c19 => False.elim (by omega))
        refine X_iloadn hK (i := 3) 1 dX7_readOne_109 rfl rfl ?_
        refine X_bipush hK dX7_readOne_110 (by decide) ?_
        refine X_icmp_ne hK 132 (by omega) (by omega) dX7_readOne_112 (by decide) (fun c20 => ?_) (fun c20 => False.elim (by omega))
        refine X_aloadn hK (i := 0) 2 dX7_readOne_132 rfl rfl ?_
        refine X_aloadn hK (i := 1) 3 dX7_readOne_133 rfl rfl ?_
        refine X_iloadn hK (i := 2) 4 dX7_readOne_134 rfl rfl ?_
        refine X_iconst hK dX7_readOne_135 ?_
        refine X_iadd hK dX7_readOne_136 ?_
        refine X_callV hK [.ref a1, .int (iI (x2 + 1))] [] lk_X7_132 (c3_readOne_4 _ _ _ _ _ S g18 a0 a1 (x2 + 1) (na + 1) (no + 1) nf nq wt wp tk tl cn hs_a0 hs_a1 (by omega) (by omega) (xs_s hg18) (by omega) ((xs_k hg18 (by decide)).trans (xs_s hg16)) (by omega) ((xs_k hg18 (by decide)).trans ((xs_k hg16 (by decide)).trans enf)) (by omega) ((xs_k hg18 (by decide)).trans ((xs_k hg16 (by decide)).trans enq)) ((xs_k hg18 (by decide)).trans ((xs_k hg16 (by decide)).trans ewt)) hs_wt ((xs_k hg18 (by decide)).trans ((xs_k hg16 (by decide)).trans ewp)) hs_wp (by rw [(Eq.trans (xv_a hg18 (xne hs_wt hs_a0 (by decide))) (xv_a hg16 (xne hs_wt hs_a0 (by decide)))), (Eq.trans (xv_a hg18 (xne hs_wp hs_a0 (by decide))) (xv_a hg16 (xne hs_wp hs_a0 (by decide))))]; exact hp0) (by omega) (by omega)) hs_a0 ⟨by decide, rfl⟩ dX7_readOne_137 rfl rfl (by simp [Value.category]) (by decide) (by decide) (by decide) (by decide) (fun r21 S23 g22 pr21 qr21 hg22 => ?_)
        obtain ⟨rfl, rfl, k24⟩ := pr21
        refine X_st [] rfl ?_
        obtain ⟨Ft25, at25, ot25, qt25, eFt25, lFt25, uFt25, eat25, lat25, uat25, eot25, lot25, uot25, eqt25, lqt25, uqt25, kt25⟩ := k24
        have cat25 : at25 ≤ 300 := by have h9 := (show xTB (xv g22 wt) (xv g22 wp) tk tl cn from (by rw [(Eq.trans (Eq.trans (xv_m hg22 hs_wt (by decide) (by decide)) (xv_a hg18 (xne hs_wt hs_a0 (by decide)))) (xv_a hg16 (xne hs_wt hs_a0 (by decide)))), (Eq.trans (Eq.trans (xv_m hg22 hs_wp (by decide) (by decide)) (xv_a hg18 (xne hs_wp hs_a0 (by decide)))) (xv_a hg16 (xne hs_wp hs_a0 (by decide))))]; exact hp0)).2.2.2; omega
        refine X_aloadn hK (i := 1) 3 dX7_readOne_140 rfl rfl ?_
        refine X_bipush hK dX7_readOne_141 (by decide) ?_
        refine X_iconst hK dX7_readOne_143 ?_
        refine X_iconst hK dX7_readOne_144 ?_
        refine X_callV hK [.int (iI 12), .int (iI 0), .int (iI 0)] [] lk_X7_129 (c_X10_addStep _ _ _ _ _ S g22 a1 12 0 0 hs_a1 (by omega) (by omega) (by omega)) hs_a1 ⟨by decide, rfl⟩ dX7_readOne_145 rfl rfl (by simp [Value.category]) (by decide) (by decide) (by decide) (by decide) (fun r26 S28 g27 pr26 qr26 hg27 => ?_)
        obtain ⟨rfl, rfl⟩ := pr26
        refine X_st [] rfl ?_
        exact hret _ _ _ _ _ _ dX7_readOne_148 ⟨rfl, rfl, ⟨Ft25, at25, ot25, qt25, ((hg27 a0 8 0 5 hs_a0 (by decide)).trans eFt25), by omega, by omega, ((hg27 a0 8 0 2 hs_a0 (by decide)).trans eat25), by omega, by omega, ((hg27 a0 8 0 3 hs_a0 (by decide)).trans eot25), by omega, by omega, ((hg27 a0 8 0 6 hs_a0 (by decide)).trans eqt25), by omega, by omega, (xRR.nt (by rw [← k5]; omega) (by omega) kt25)⟩⟩ (Nat.le_refl _) (Nat.le_refl _)
    · refine X_iloadn hK (i := 3) 1 dX7_readOne_35 rfl rfl ?_
      refine X_bipush hK dX7_readOne_36 (by decide) ?_
      refine X_icmp_eq hK 49 (by omega) (by omega) dX7_readOne_38 (by decide) (fun c29 => False.elim (by omega)) (fun c29 => ?_)
      refine X_aloadn hK (i := 0) 2 dX7_readOne_41 rfl rfl ?_
      refine X_iconst hK dX7_readOne_42 ?_
      refine X_callV hK [.int (iI 1)] [] lk_X7_60 (c3_tell _ _ _ _ _ S g a0 1 na no nf nq wt wp tk tl cn hs_a0 (by omega) (by omega) ena (by omega) eno (by omega) enf (by omega) enq ewt hs_wt ewp hs_wp hp0 (by omega) (by omega)) hs_a0 ⟨by decide, rfl⟩ dX7_readOne_43 rfl rfl (by simp [Value.category]) (by decide) (by decide) (by decide) (by decide) (fun r30 S32 g31 pr30 qr30 hg31 => ?_)
      obtain ⟨rfl, rfl, k33⟩ := pr30
      refine X_st [] rfl ?_
      obtain ⟨Ft34, at34, ot34, qt34, eFt34, lFt34, uFt34, eat34, lat34, uat34, eot34, lot34, uot34, eqt34, lqt34, uqt34, kt34⟩ := k33
      have cat34 : at34 ≤ 300 := by have h9 := (show xTB (xv g31 wt) (xv g31 wp) tk tl cn from (by rw [(xv_m hg31 hs_wt (by decide) (by decide)), (xv_m hg31 hs_wp (by decide) (by decide))]; exact hp0)).2.2.2; omega
      refine X_goto hK 148 dX7_readOne_46 (by decide) ?_
      exact hret _ _ _ _ _ _ dX7_readOne_148 ⟨rfl, rfl, ⟨Ft34, at34, ot34, qt34, eFt34, by omega, by omega, eat34, by omega, by omega, eot34, by omega, by omega, eqt34, by omega, by omega, (by obtain ⟨h8, h7, h6⟩ := kt34; have h5 := h8.resolve_left (fun q9 => by omega); rw [h5.2.1]; exact xRR.f1 (by rw [← k5]; omega) h5.2.2)⟩⟩ (Nat.le_refl _) (Nat.le_refl _)
  · refine X_iloadn hK (i := 3) 0 dX7_readOne_11 rfl rfl ?_
    refine X_bipush hK dX7_readOne_12 (by decide) ?_
    refine X_icmp_ge hK 21 (by omega) (by omega) dX7_readOne_14 (by decide) (fun c35 => ?_) (fun c35 => ?_)
    · refine X_iconst hK dX7_readOne_21 ?_
      refine X_istore hK (i := 4) [(4, .int (iI 0)), (3, .int (iI z4)), (0, .ref a0), (1, .ref a1), (2, .int (iI x2))] dX7_readOne_22 (by decide) rfl ?_
      refine X_iload hK (i := 4) 0 dX7_readOne_24 rfl ?_
      refine X_if_ne hK 49 (by omega) dX7_readOne_26 (by decide) (fun c36 => False.elim (by omega)) (fun c36 => ?_)
      refine X_iloadn hK (i := 3) 1 dX7_readOne_29 rfl rfl ?_
      refine X_bipush hK dX7_readOne_30 (by decide) ?_
      refine X_icmp_eq hK 49 (by omega) (by omega) dX7_readOne_32 (by decide) (fun c37 => False.elim (by omega)) (fun c37 => ?_)
      refine X_iloadn hK (i := 3) 1 dX7_readOne_35 rfl rfl ?_
      refine X_bipush hK dX7_readOne_36 (by decide) ?_
      refine X_icmp_eq hK 49 (by omega) (by omega) dX7_readOne_38 (by decide) (fun c38 => ?_) (fun c38 => ?_)
      · refine X_aloadn hK (i := 0) 2 dX7_readOne_49 rfl rfl ?_
        refine X_getK hK fl_X7_22_8 hs_a0 eno dX7_readOne_50 ?_
        refine X_bipush hK dX7_readOne_53 (by decide) ?_
        refine X_icmp_ge hK 64 (by omega) (by omega) dX7_readOne_55 (by decide) (fun c39 => ?_) (fun c39 => ?_)
        · refine X_aloadn hK (i := 0) 2 dX7_readOne_64 rfl rfl ?_
          refine X_iconst hK dX7_readOne_65 ?_
          refine X_callV hK [.int (iI 4)] [] lk_X7_60 (c3_tell _ _ _ _ _ S g a0 4 na no nf nq wt wp tk tl cn hs_a0 (by omega) (by omega) ena (by omega) eno (by omega) enf (by omega) enq ewt hs_wt ewp hs_wp hp0 (by omega) (by omega)) hs_a0 ⟨by decide, rfl⟩ dX7_readOne_66 rfl rfl (by simp [Value.category]) (by decide) (by decide) (by decide) (by decide) (fun r40 S42 g41 pr40 qr40 hg41 => ?_)
          obtain ⟨rfl, rfl, k43⟩ := pr40
          refine X_st [] rfl ?_
          obtain ⟨Ft44, at44, ot44, qt44, eFt44, lFt44, uFt44, eat44, lat44, uat44, eot44, lot44, uot44, eqt44, lqt44, uqt44, kt44⟩ := k43
          have cat44 : at44 ≤ 300 := by have h9 := (show xTB (xv g41 wt) (xv g41 wp) tk tl cn from (by rw [(xv_m hg41 hs_wt (by decide) (by decide)), (xv_m hg41 hs_wp (by decide) (by decide))]; exact hp0)).2.2.2; omega
          refine X_goto hK 148 dX7_readOne_69 (by decide) ?_
          exact hret _ _ _ _ _ _ dX7_readOne_148 ⟨rfl, rfl, ⟨Ft44, at44, ot44, qt44, eFt44, by omega, by omega, eat44, by omega, by omega, eot44, by omega, by omega, eqt44, by omega, by omega, (by obtain ⟨h8, h7, h6⟩ := kt44; have h5 := h8.resolve_left (fun q9 => by omega); rw [h5.2.1]; exact xRR.f4 (by rw [← k5]; omega) (by omega) h5.2.2)⟩⟩ (Nat.le_refl _) (Nat.le_refl _)
        · refine X_iloadn hK (i := 2) 4 dX7_readOne_58 rfl rfl ?_
          refine X_bipush hK dX7_readOne_59 (by decide) ?_
          refine X_icmp_le hK 72 (by omega) (by omega) dX7_readOne_61 (by decide) (fun c45 => ?_) (fun c45 => False.elim (by omega))
          refine X_aloadn hK (i := 0) 2 dX7_readOne_72 rfl rfl ?_
          refine X_dup hK dX7_readOne_73 rfl ?_
          refine X_getK hK fl_X7_22_8 hs_a0 eno dX7_readOne_74 ?_
          refine X_iconst hK dX7_readOne_77 ?_
          refine X_iadd hK dX7_readOne_78 ?_
          refine X_puti hK fl_X7_22_8 hs_a0 (by decide) sl_8_3 (by omega) (by omega) dX7_readOne_79 (fun g46 hg46 => ?_)
          refine X_aloadn hK (i := 0) 2 dX7_readOne_82 rfl rfl ?_
          refine X_dup hK dX7_readOne_83 rfl ?_
          have hl47 := xTB.lt (A := xv g46 wt) (B := xv g46 wp) (tk := tk) (tl := tl) (c := cn) (a := na) (by rw [(xv_a hg46 (xne hs_wt hs_a0 (by decide))), (xv_a hg46 (xne hs_wp hs_a0 (by decide)))]; exact hp0) (by omega) (by rw [← k5]; omega)
          refine X_getK hK fl_X7_18_8 hs_a0 ((xs_k hg46 (by decide)).trans ena) dX7_readOne_84 ?_
          refine X_iconst hK dX7_readOne_87 ?_
          refine X_iadd hK dX7_readOne_88 ?_
          refine X_puti hK fl_X7_18_8 hs_a0 (by decide) sl_8_2 (by omega) (by omega) dX7_readOne_89 (fun g48 hg48 => ?_)
          refine X_iload hK (i := 4) 0 dX7_readOne_92 rfl ?_
          refine X_if_eq hK 109 (by omega) dX7_readOne_94 (by decide) (fun c49 => ?_) (fun c49 => False.elim (by omega))
          refine X_iloadn hK (i := 3) 1 dX7_readOne_109 rfl rfl ?_
          refine X_bipush hK dX7_readOne_110 (by decide) ?_
          refine X_icmp_ne hK 132 (by omega) (by omega) dX7_readOne_112 (by decide) (fun c50 => False.elim (by omega)) (fun c50 => ?_)
          refine X_aloadn hK (i := 0) 2 dX7_readOne_115 rfl rfl ?_
          refine X_aloadn hK (i := 1) 3 dX7_readOne_116 rfl rfl ?_
          refine X_iloadn hK (i := 2) 4 dX7_readOne_117 rfl rfl ?_
          refine X_iconst hK dX7_readOne_118 ?_
          refine X_iadd hK dX7_readOne_119 ?_
          refine X_callV hK [.ref a1, .int (iI (x2 + 1))] [] lk_X7_115 (c3_readCond_4 _ _ _ _ _ S g48 a0 a1 (x2 + 1) (na + 1) (no + 1) nf nq wt wp tk tl cn hs_a0 hs_a1 (by omega) (by omega) (xs_s hg48) (by omega) ((xs_k hg48 (by decide)).trans (xs_s hg46)) (by omega) ((xs_k hg48 (by decide)).trans ((xs_k hg46 (by decide)).trans enf)) (by omega) ((xs_k hg48 (by decide)).trans ((xs_k hg46 (by decide)).trans enq)) ((xs_k hg48 (by decide)).trans ((xs_k hg46 (by decide)).trans ewt)) hs_wt ((xs_k hg48 (by decide)).trans ((xs_k hg46 (by decide)).trans ewp)) hs_wp (by rw [(Eq.trans (xv_a hg48 (xne hs_wt hs_a0 (by decide))) (xv_a hg46 (xne hs_wt hs_a0 (by decide)))), (Eq.trans (xv_a hg48 (xne hs_wp hs_a0 (by decide))) (xv_a hg46 (xne hs_wp hs_a0 (by decide))))]; exact hp0) (by omega) (by omega)) hs_a0 ⟨by decide, rfl⟩ dX7_readOne_120 rfl rfl (by simp [Value.category]) (by decide) (by decide) (by decide) (by decide) (fun r51 S53 g52 pr51 qr51 hg52 => ?_)
          obtain ⟨rfl, rfl, k54⟩ := pr51
          refine X_st [] rfl ?_
          obtain ⟨Ft55, at55, ot55, qt55, eFt55, lFt55, uFt55, eat55, lat55, uat55, eot55, lot55, uot55, eqt55, lqt55, uqt55, kt55⟩ := k54
          have cat55 : at55 ≤ 300 := by have h9 := (show xTB (xv g52 wt) (xv g52 wp) tk tl cn from (by rw [(Eq.trans (Eq.trans (xv_m hg52 hs_wt (by decide) (by decide)) (xv_a hg48 (xne hs_wt hs_a0 (by decide)))) (xv_a hg46 (xne hs_wt hs_a0 (by decide)))), (Eq.trans (Eq.trans (xv_m hg52 hs_wp (by decide) (by decide)) (xv_a hg48 (xne hs_wp hs_a0 (by decide)))) (xv_a hg46 (xne hs_wp hs_a0 (by decide))))]; exact hp0)).2.2.2; omega
          refine X_aloadn hK (i := 0) 2 dX7_readOne_123 rfl rfl ?_
          refine X_bipush hK dX7_readOne_124 (by decide) ?_
          refine X_callV hK [.int (iI 26)] [] lk_X7_119 (c3_expect _ _ _ _ _ S g52 a0 26 at55 ot55 Ft55 qt55 wt wp tk tl cn hs_a0 (by omega) (by omega) eat55 (by omega) eot55 (by omega) eFt55 (by omega) eqt55 ((hg52 a0 8 0 0 hs_a0 (by decide)).trans ((xs_k hg48 (by decide)).trans ((xs_k hg46 (by decide)).trans ewt))) hs_wt ((hg52 a0 8 0 1 hs_a0 (by decide)).trans ((xs_k hg48 (by decide)).trans ((xs_k hg46 (by decide)).trans ewp))) hs_wp (by rw [(Eq.trans (Eq.trans (xv_m hg52 hs_wt (by decide) (by decide)) (xv_a hg48 (xne hs_wt hs_a0 (by decide)))) (xv_a hg46 (xne hs_wt hs_a0 (by decide)))), (Eq.trans (Eq.trans (xv_m hg52 hs_wp (by decide) (by decide)) (xv_a hg48 (xne hs_wp hs_a0 (by decide)))) (xv_a hg46 (xne hs_wp hs_a0 (by decide))))]; exact hp0) (by omega) (by omega)) hs_a0 ⟨by decide, rfl⟩ dX7_readOne_126 rfl rfl (by simp [Value.category]) (by decide) (by decide) (by decide) (by decide) (fun r56 S58 g57 pr56 qr56 hg57 => ?_)
          obtain ⟨rfl, rfl, k59⟩ := pr56
          refine X_st [] rfl ?_
          obtain ⟨Ft60, at60, ot60, qt60, eFt60, lFt60, uFt60, eat60, lat60, uat60, eot60, lot60, uot60, eqt60, lqt60, uqt60, kt60⟩ := k59
          have cat60 : at60 ≤ 300 := by have h9 := (show xTB (xv g57 wt) (xv g57 wp) tk tl cn from (by rw [(Eq.trans (Eq.trans (Eq.trans (xv_m hg57 hs_wt (by decide) (by decide)) (xv_m hg52 hs_wt (by decide) (by decide))) (xv_a hg48 (xne hs_wt hs_a0 (by decide)))) (xv_a hg46 (xne hs_wt hs_a0 (by decide)))), (Eq.trans (Eq.trans (Eq.trans (xv_m hg57 hs_wp (by decide) (by decide)) (xv_m hg52 hs_wp (by decide) (by decide))) (xv_a hg48 (xne hs_wp hs_a0 (by decide)))) (xv_a hg46 (xne hs_wp hs_a0 (by decide))))]; exact hp0)).2.2.2; omega
          refine X_goto hK 148 dX7_readOne_129 (by decide) ?_
          exact hret _ _ _ _ _ _ dX7_readOne_148 ⟨rfl, rfl, ⟨Ft60, at60, ot60, qt60, eFt60, by omega, by omega, eat60, by omega, by omega, eot60, by omega, by omega, eqt60, by omega, by omega, (by obtain ⟨h8, h7⟩ := kt60; by_cases f9 : Ft55 = 0; (rcases h8 with ⟨c1, c2, c3, c4⟩ | ⟨c1, c2, c3⟩; (rw [show Ft60 = 0 by omega, c3, h7]; exact xRR.po (by rw [← k5]; omega) (by omega) (show xRR tk tl 2 (3 + 1) (na + 1) (no + 1) Ft55 at55 ot55 qt55 from kt55) f9 c1); (have c4 := c3.resolve_left (fun q9 => q9.1 f9); rw [c4.2.1]; exact xRR.px (by rw [← k5]; omega) (by omega) (show xRR tk tl 2 (3 + 1) (na + 1) (no + 1) Ft55 at55 ot55 qt55 from kt55) f9 c1 c4.2.2)); (have h6 : Ft60 = Ft55 ∧ qt60 = qt55 := (by omega); rw [h6.1, h6.2]; exact xRR.pf (by rw [← k5]; omega) (by omega) (show xRR tk tl 2 (3 + 1) (na + 1) (no + 1) Ft55 at55 ot55 qt55 from kt55) f9))⟩⟩ (Nat.le_refl _) (Nat.le_refl _)
      · refine X_aloadn hK (i := 0) 2 dX7_readOne_41 rfl rfl ?_
        refine X_iconst hK dX7_readOne_42 ?_
        refine X_callV hK [.int (iI 1)] [] lk_X7_60 (c3_tell _ _ _ _ _ S g a0 1 na no nf nq wt wp tk tl cn hs_a0 (by omega) (by omega) ena (by omega) eno (by omega) enf (by omega) enq ewt hs_wt ewp hs_wp hp0 (by omega) (by omega)) hs_a0 ⟨by decide, rfl⟩ dX7_readOne_43 rfl rfl (by simp [Value.category]) (by decide) (by decide) (by decide) (by decide) (fun r61 S63 g62 pr61 qr61 hg62 => ?_)
        obtain ⟨rfl, rfl, k64⟩ := pr61
        refine X_st [] rfl ?_
        obtain ⟨Ft65, at65, ot65, qt65, eFt65, lFt65, uFt65, eat65, lat65, uat65, eot65, lot65, uot65, eqt65, lqt65, uqt65, kt65⟩ := k64
        have cat65 : at65 ≤ 300 := by have h9 := (show xTB (xv g62 wt) (xv g62 wp) tk tl cn from (by rw [(xv_m hg62 hs_wt (by decide) (by decide)), (xv_m hg62 hs_wp (by decide) (by decide))]; exact hp0)).2.2.2; omega
        refine X_goto hK 148 dX7_readOne_46 (by decide) ?_
        exact hret _ _ _ _ _ _ dX7_readOne_148 ⟨rfl, rfl, ⟨Ft65, at65, ot65, qt65, eFt65, by omega, by omega, eat65, by omega, by omega, eot65, by omega, by omega, eqt65, by omega, by omega, (by obtain ⟨h8, h7, h6⟩ := kt65; have h5 := h8.resolve_left (fun q9 => by omega); rw [h5.2.1]; exact xRR.f1 (by rw [← k5]; omega) h5.2.2)⟩⟩ (Nat.le_refl _) (Nat.le_refl _)
    · refine X_iconst hK dX7_readOne_17 ?_
      refine X_goto hK 22 dX7_readOne_18 (by decide) ?_
      refine X_istore hK (i := 4) [(4, .int (iI 1)), (3, .int (iI z4)), (0, .ref a0), (1, .ref a1), (2, .int (iI x2))] dX7_readOne_22 (by decide) rfl ?_
      refine X_iload hK (i := 4) 0 dX7_readOne_24 rfl ?_
      refine X_if_ne hK 49 (by omega) dX7_readOne_26 (by decide) (fun c66 => ?_) (fun c66 => False.elim (by omega))
      refine X_aloadn hK (i := 0) 2 dX7_readOne_49 rfl rfl ?_
      refine X_getK hK fl_X7_22_8 hs_a0 eno dX7_readOne_50 ?_
      refine X_bipush hK dX7_readOne_53 (by decide) ?_
      refine X_icmp_ge hK 64 (by omega) (by omega) dX7_readOne_55 (by decide) (fun c67 => ?_) (fun c67 => ?_)
      · refine X_aloadn hK (i := 0) 2 dX7_readOne_64 rfl rfl ?_
        refine X_iconst hK dX7_readOne_65 ?_
        refine X_callV hK [.int (iI 4)] [] lk_X7_60 (c3_tell _ _ _ _ _ S g a0 4 na no nf nq wt wp tk tl cn hs_a0 (by omega) (by omega) ena (by omega) eno (by omega) enf (by omega) enq ewt hs_wt ewp hs_wp hp0 (by omega) (by omega)) hs_a0 ⟨by decide, rfl⟩ dX7_readOne_66 rfl rfl (by simp [Value.category]) (by decide) (by decide) (by decide) (by decide) (fun r68 S70 g69 pr68 qr68 hg69 => ?_)
        obtain ⟨rfl, rfl, k71⟩ := pr68
        refine X_st [] rfl ?_
        obtain ⟨Ft72, at72, ot72, qt72, eFt72, lFt72, uFt72, eat72, lat72, uat72, eot72, lot72, uot72, eqt72, lqt72, uqt72, kt72⟩ := k71
        have cat72 : at72 ≤ 300 := by have h9 := (show xTB (xv g69 wt) (xv g69 wp) tk tl cn from (by rw [(xv_m hg69 hs_wt (by decide) (by decide)), (xv_m hg69 hs_wp (by decide) (by decide))]; exact hp0)).2.2.2; omega
        refine X_goto hK 148 dX7_readOne_69 (by decide) ?_
        exact hret _ _ _ _ _ _ dX7_readOne_148 ⟨rfl, rfl, ⟨Ft72, at72, ot72, qt72, eFt72, by omega, by omega, eat72, by omega, by omega, eot72, by omega, by omega, eqt72, by omega, by omega, (by obtain ⟨h8, h7, h6⟩ := kt72; have h5 := h8.resolve_left (fun q9 => by omega); rw [h5.2.1]; exact xRR.f4 (by rw [← k5]; omega) (by omega) h5.2.2)⟩⟩ (Nat.le_refl _) (Nat.le_refl _)
      · refine X_iloadn hK (i := 2) 4 dX7_readOne_58 rfl rfl ?_
        refine X_bipush hK dX7_readOne_59 (by decide) ?_
        refine X_icmp_le hK 72 (by omega) (by omega) dX7_readOne_61 (by decide) (fun c73 => ?_) (fun c73 => False.elim (by omega))
        refine X_aloadn hK (i := 0) 2 dX7_readOne_72 rfl rfl ?_
        refine X_dup hK dX7_readOne_73 rfl ?_
        refine X_getK hK fl_X7_22_8 hs_a0 eno dX7_readOne_74 ?_
        refine X_iconst hK dX7_readOne_77 ?_
        refine X_iadd hK dX7_readOne_78 ?_
        refine X_puti hK fl_X7_22_8 hs_a0 (by decide) sl_8_3 (by omega) (by omega) dX7_readOne_79 (fun g74 hg74 => ?_)
        refine X_aloadn hK (i := 0) 2 dX7_readOne_82 rfl rfl ?_
        refine X_dup hK dX7_readOne_83 rfl ?_
        have hl75 := xTB.lt (A := xv g74 wt) (B := xv g74 wp) (tk := tk) (tl := tl) (c := cn) (a := na) (by rw [(xv_a hg74 (xne hs_wt hs_a0 (by decide))), (xv_a hg74 (xne hs_wp hs_a0 (by decide)))]; exact hp0) (by omega) (by rw [← k5]; omega)
        refine X_getK hK fl_X7_18_8 hs_a0 ((xs_k hg74 (by decide)).trans ena) dX7_readOne_84 ?_
        refine X_iconst hK dX7_readOne_87 ?_
        refine X_iadd hK dX7_readOne_88 ?_
        refine X_puti hK fl_X7_18_8 hs_a0 (by decide) sl_8_2 (by omega) (by omega) dX7_readOne_89 (fun g76 hg76 => ?_)
        refine X_iload hK (i := 4) 0 dX7_readOne_92 rfl ?_
        refine X_if_eq hK 109 (by omega) dX7_readOne_94 (by decide) (fun c77 => False.elim (by omega)) (fun c77 => ?_)
        refine X_aloadn hK (i := 0) 2 dX7_readOne_97 rfl rfl ?_
        refine X_aloadn hK (i := 1) 3 dX7_readOne_98 rfl rfl ?_
        refine X_iloadn hK (i := 3) 1 dX7_readOne_99 rfl rfl ?_
        refine X_bipush hK dX7_readOne_100 (by decide) ?_
        refine X_isub hK dX7_readOne_102 ?_
        refine X_callV hK [.ref a1, .int (iI (z4 - 10))] [] lk_X7_135 (c3_readFact _ _ _ _ _ S g76 a0 a1 (z4 - 10) (na + 1) (no + 1) nf nq wt wp tk tl cn 3 hs_a0 hs_a1 (by omega) (by omega) (xs_s hg76) (by omega) ((xs_k hg76 (by decide)).trans (xs_s hg74)) (by omega) ((xs_k hg76 (by decide)).trans ((xs_k hg74 (by decide)).trans enf)) (by omega) ((xs_k hg76 (by decide)).trans ((xs_k hg74 (by decide)).trans enq)) ((xs_k hg76 (by decide)).trans ((xs_k hg74 (by decide)).trans ewt)) hs_wt ((xs_k hg76 (by decide)).trans ((xs_k hg74 (by decide)).trans ewp)) hs_wp (by rw [(Eq.trans (xv_a hg76 (xne hs_wt hs_a0 (by decide))) (xv_a hg74 (xne hs_wt hs_a0 (by decide)))), (Eq.trans (xv_a hg76 (xne hs_wp hs_a0 (by decide))) (xv_a hg74 (xne hs_wp hs_a0 (by decide))))]; exact hp0) (by omega) (by omega) (by rw [show (na + 1) - 1 = na by omega, ← k5]; omega) (by omega)) hs_a0 ⟨by decide, rfl⟩ dX7_readOne_103 rfl rfl (by simp [Value.category]) (by decide) (by decide) (by decide) (by decide) (fun r78 S80 g79 pr78 qr78 hg79 => ?_)
        obtain ⟨rfl, rfl, k81⟩ := pr78
        refine X_st [] rfl ?_
        obtain ⟨Ft82, at82, ot82, qt82, eFt82, lFt82, uFt82, eat82, lat82, uat82, eot82, lot82, uot82, eqt82, lqt82, uqt82, kt82⟩ := k81
        have cat82 : at82 ≤ 300 := by have h9 := (show xTB (xv g79 wt) (xv g79 wp) tk tl cn from (by rw [(Eq.trans (Eq.trans (xv_m hg79 hs_wt (by decide) (by decide)) (xv_a hg76 (xne hs_wt hs_a0 (by decide)))) (xv_a hg74 (xne hs_wt hs_a0 (by decide)))), (Eq.trans (Eq.trans (xv_m hg79 hs_wp (by decide) (by decide)) (xv_a hg76 (xne hs_wp hs_a0 (by decide)))) (xv_a hg74 (xne hs_wp hs_a0 (by decide))))]; exact hp0)).2.2.2; omega
        refine X_goto hK 148 dX7_readOne_106 (by decide) ?_
        exact hret _ _ _ _ _ _ dX7_readOne_148 ⟨rfl, rfl, ⟨Ft82, at82, ot82, qt82, eFt82, by omega, by omega, eat82, by omega, by omega, eot82, by omega, by omega, eqt82, by omega, by omega, (by have h9 := kt82; rw [show na + 1 - 1 = na by omega, show no + 1 - 1 = no by omega] at h9; exact h9)⟩⟩ (Nat.le_refl _) (Nat.le_refl _)

set_option maxHeartbeats 4000000 in
set_option maxRecDepth 100000 in
theorem c3_readAll_3 (l : Launch) (D : va_G) (kA : Nat → ClassId) (b0 : Nat) (t0 : Nat → Nat) (S : xT) (g : xG) (a0 : Nat) (a1 : Nat) (x2 : Int) (na : Int) (no : Int) (nf : Int) (nq : Int) (wt : Nat) (wp : Nat) (tk : Int → Int) (tl : Int → Int) (cn : Int) (hs_a0 : S a0 = some (8, 0)) (hs_a1 : S a1 = some (11, 0)) (hx2 : 3 ≤ x2 ∧ x2 ≤ 3) (hna : 0 ≤ na ∧ na ≤ 300) (ena : g a0 2 = .int (iI na)) (hno : 0 ≤ no ∧ no ≤ 50) (eno : g a0 3 = .int (iI no)) (hnf : 0 ≤ nf ∧ nf ≤ 0) (enf : g a0 5 = .int (iI nf)) (hnq : 0 ≤ nq ∧ nq ≤ 300) (enq : g a0 6 = .int (iI nq)) (ewt : g a0 0 = .ref wt) (hs_wt : S wt = some (12900, 301)) (ewp : g a0 1 = .ref wp) (hs_wp : S wp = some (13000, 301)) (hp0 : xTB (xv g wt) (xv g wp) tk tl cn) (hp1 : na ≤ cn) (hp2 : cn ≤ 300) : xMt l yX7_readAll cX7_readAll 4 none 26 0 0 605 D kA b0 t0 [(8, 5), (8, 6), (8, 3), (8, 2), (14000, 0), (11, 2)] [.ref a0, .ref a1, .int (iI x2)] S g (fun (r : Option Value) (S1 : xT) (g1 : xG) => S = S1 ∧ r = none ∧ (∃ F a o q : Int, g1 a0 5 = .int (iI F) ∧ -2147483648 ≤ F ∧ F ≤ 2147483647 ∧ g1 a0 2 = .int (iI a) ∧ 0 ≤ a ∧ a ≤ cn ∧ g1 a0 3 = .int (iI o) ∧ 0 ≤ o ∧ o ≤ 50 ∧ g1 a0 6 = .int (iI q) ∧ 0 ≤ q ∧ q ≤ 300 ∧ xRR tk tl 1 3 na no F a o q)) := by
  refine xEnterV (by decide) (by simp [lg_sl, Value.category]) [(0, .ref a0), (1, .ref a1), (2, .int (iI x2))] rfl ?_
  intro K E hK hret _ _ _
  refine X_aloadn hK (i := 0) 0 dX7_readAll_0 rfl rfl ?_
  refine X_aloadn hK (i := 1) 1 dX7_readAll_1 rfl rfl ?_
  refine X_iloadn hK (i := 2) 2 dX7_readAll_2 rfl rfl ?_
  refine X_callV hK [.ref a1, .int (iI x2)] [] lk_X7_132 (c3_readOne_3 _ _ _ _ _ S g a0 a1 x2 na no nf nq wt wp tk tl cn hs_a0 hs_a1 (by omega) (by omega) ena (by omega) eno (by omega) enf (by omega) enq ewt hs_wt ewp hs_wp hp0 (by omega) (by omega)) hs_a0 ⟨by decide, rfl⟩ dX7_readAll_3 rfl rfl (by simp [Value.category]) (by decide) (by decide) (by decide) (by decide) (fun r1 S3 g2 pr1 qr1 hg2 => ?_)
  obtain ⟨rfl, rfl, k4⟩ := pr1
  refine X_st [] rfl ?_
  obtain ⟨Ft5, at5, ot5, qt5, eFt5, lFt5, uFt5, eat5, lat5, uat5, eot5, lot5, uot5, eqt5, lqt5, uqt5, kt5⟩ := k4
  have cat5 : at5 ≤ 300 := by have h9 := (show xTB (xv g2 wt) (xv g2 wp) tk tl cn from (by rw [(xv_m hg2 hs_wt (by decide) (by decide)), (xv_m hg2 hs_wp (by decide) (by decide))]; exact hp0)).2.2.2; omega
  refine X_iconst hK dX7_readAll_6 ?_
  refine X_istoren hK (i := 3) [(3, .int (iI 0)), (0, .ref a0), (1, .ref a1), (2, .int (iI x2))] dX7_readAll_7 rfl (by decide) rfl ?_
  have P120 : ∀ (nP120 : Nat) (g98 : xG) (_ : xM [(14000, 0), (11, 2), (8, 5), (8, 6), (8, 3), (8, 2)] S g2 g98) (z97 : Int) (_ : 0 ≤ z97) (_ : z97 ≤ 50) (q99 : Int) (_ : 0 ≤ q99) (_ : q99 ≤ 300) (_ : g98 a0 2 = .int (iI q99)) (q100 : Int) (_ : 0 ≤ q100) (_ : q100 ≤ 50) (_ : g98 a0 3 = .int (iI q100)) (q101 : Int) (_ : (-2147483648) ≤ q101) (_ : q101 ≤ 2147483647) (_ : g98 a0 5 = .int (iI q101)) (q102 : Int) (_ : 0 ≤ q102) (_ : q102 ≤ 300) (_ : g98 a0 6 = .int (iI q102)) (_ : xIn tk tl 1 3 na no q101 q99 q100 q102) (_ : q101 = 0 → no + 1 + z97 ≤ q100) (_ : q99 ≤ cn) (_ : 60 - z97 < (nP120 : Int)), X K E 8 [(3, .int (iI z97)), (0, .ref a0), (1, .ref a1), (2, .int (iI x2))] [] S g98 0 0 := by
    intro nP120
    induction nP120 with
    | zero => intro g98 hg98 z97 lz97 uz97 q99 lq99 uq99 eq99 q100 lq100 uq100 eq100 q101 lq101 uq101 eq101 q102 lq102 uq102 eq102 v121 v122 v123 mP120; exact False.elim (by omega)
    | succ nP120 ihP120 =>
      intro g98 hg98 z97 lz97 uz97 q99 lq99 uq99 eq99 q100 lq100 uq100 eq100 q101 lq101 uq101 eq101 q102 lq102 uq102 eq102 v121 v122 v123 mP120
      refine X_iloadn hK (i := 3) 0 dX7_readAll_8 rfl rfl ?_
      refine X_bipush hK dX7_readAll_9 (by decide) ?_
      refine X_icmp_ge hK 60 (by omega) (by omega) dX7_readAll_11 (by decide) (fun c124 => ?_) (fun c124 => ?_)
      · exact hret _ _ _ _ _ _ dX7_readAll_60 ⟨rfl, rfl, ⟨q101, q99, q100, q102, eq101, by omega, by omega, eq99, by omega, by omega, eq100, by omega, by omega, eq102, by omega, by omega, (xIn.e v121 (fun h9 => False.elim (by have h8 := v122 h9; omega)))⟩⟩ (Nat.le_refl _) (Nat.le_refl _)
      · refine X_aloadn hK (i := 0) 1 dX7_readAll_14 rfl rfl ?_
        refine X_getK hK fl_X7_29_8 hs_a0 eq101 dX7_readAll_15 ?_
        refine X_if_ne hK 60 (by omega) dX7_readAll_18 (by decide) (fun c125 => ?_) (fun c125 => ?_)
        · exact hret _ _ _ _ _ _ dX7_readAll_60 ⟨rfl, rfl, ⟨q101, q99, q100, q102, eq101, by omega, by omega, eq99, by omega, by omega, eq100, by omega, by omega, eq102, by omega, by omega, (xIn.e v121 (fun h9 => False.elim (by have h8 := v122 h9; omega)))⟩⟩ (Nat.le_refl _) (Nat.le_refl _)
        · refine X_aloadn hK (i := 0) 1 dX7_readAll_21 rfl rfl ?_
          refine X_callV hK [] [] lk_X7_47 (c3_now _ _ _ _ _ S g98 a0 q99 wt wp tk tl cn hs_a0 (by omega) eq99 ((hg98 a0 8 0 0 hs_a0 (by decide)).trans ((hg2 a0 8 0 0 hs_a0 (by decide)).trans ewt)) hs_wt ((hg98 a0 8 0 1 hs_a0 (by decide)).trans ((hg2 a0 8 0 1 hs_a0 (by decide)).trans ewp)) hs_wp (by rw [(Eq.trans (xv_m hg98 hs_wt (by decide) (by decide)) (xv_m hg2 hs_wt (by decide) (by decide))), (Eq.trans (xv_m hg98 hs_wp (by decide) (by decide)) (xv_m hg2 hs_wp (by decide) (by decide)))]; exact hp0) (by omega) (by omega)) hs_a0 ⟨by decide, rfl⟩ dX7_readAll_22 rfl rfl (by simp [Value.category]) (by decide) (by decide) (by decide) (by decide) (fun r126 S128 g127 pr126 qr126 hg127 => ?_)
          obtain ⟨rfl, rfl, z129, rfl, lz129, uz129, k130⟩ := pr126
          refine X_st [.int (iI z129)] rfl ?_
          refine X_bipush hK dX7_readAll_25 (by decide) ?_
          refine X_icmp_ne hK 60 (by omega) (by omega) dX7_readAll_27 (by decide) (fun c131 => ?_) (fun c131 => ?_)
          · exact hret _ _ _ _ _ _ dX7_readAll_60 ⟨rfl, rfl, ⟨q101, q99, q100, q102, eq101, by omega, by omega, eq99, by omega, by omega, eq100, by omega, by omega, eq102, by omega, by omega, (xIn.e v121 (fun h9 => Or.inl ⟨rfl, by rw [← k130]; omega⟩))⟩⟩ (Nat.le_refl _) (Nat.le_refl _)
          · refine X_aloadn hK (i := 0) 1 dX7_readAll_30 rfl rfl ?_
            refine X_dup hK dX7_readAll_31 rfl ?_
            have hl132 := xTB.lt (A := xv g98 wt) (B := xv g98 wp) (tk := tk) (tl := tl) (c := cn) (a := q99) (by rw [(Eq.trans (xv_m hg98 hs_wt (by decide) (by decide)) (xv_m hg2 hs_wt (by decide) (by decide))), (Eq.trans (xv_m hg98 hs_wp (by decide) (by decide)) (xv_m hg2 hs_wp (by decide) (by decide)))]; exact hp0) (by omega) (by rw [← k130]; omega)
            refine X_getK hK fl_X7_18_8 hs_a0 eq99 dX7_readAll_32 ?_
            refine X_iconst hK dX7_readAll_35 ?_
            refine X_iadd hK dX7_readAll_36 ?_
            refine X_puti hK fl_X7_18_8 hs_a0 (by decide) sl_8_2 (by omega) (by omega) dX7_readAll_37 (fun g133 hg133 => ?_)
            refine X_aloadn hK (i := 0) 1 dX7_readAll_40 rfl rfl ?_
            refine X_aloadn hK (i := 1) 2 dX7_readAll_41 rfl rfl ?_
            refine X_iloadn hK (i := 2) 3 dX7_readAll_42 rfl rfl ?_
            refine X_callV hK [.ref a1, .int (iI x2)] [] lk_X7_132 (c3_readOne_3 _ _ _ _ _ S g133 a0 a1 x2 (q99 + 1) q100 q101 q102 wt wp tk tl cn hs_a0 hs_a1 (by omega) (by omega) (xs_s hg133) (by omega) ((xs_k hg133 (by decide)).trans eq100) (by omega) ((xs_k hg133 (by decide)).trans eq101) (by omega) ((xs_k hg133 (by decide)).trans eq102) ((xs_k hg133 (by decide)).trans ((hg98 a0 8 0 0 hs_a0 (by decide)).trans ((hg2 a0 8 0 0 hs_a0 (by decide)).trans ewt))) hs_wt ((xs_k hg133 (by decide)).trans ((hg98 a0 8 0 1 hs_a0 (by decide)).trans ((hg2 a0 8 0 1 hs_a0 (by decide)).trans ewp))) hs_wp (by rw [(Eq.trans (Eq.trans (xv_a hg133 (xne hs_wt hs_a0 (by decide))) (xv_m hg98 hs_wt (by decide) (by decide))) (xv_m hg2 hs_wt (by decide) (by decide))), (Eq.trans (Eq.trans (xv_a hg133 (xne hs_wp hs_a0 (by decide))) (xv_m hg98 hs_wp (by decide) (by decide))) (xv_m hg2 hs_wp (by decide) (by decide)))]; exact hp0) (by omega) (by omega)) hs_a0 ⟨by decide, rfl⟩ dX7_readAll_43 rfl rfl (by simp [Value.category]) (by decide) (by decide) (by decide) (by decide) (fun r134 S136 g135 pr134 qr134 hg135 => ?_)
            obtain ⟨rfl, rfl, k137⟩ := pr134
            refine X_st [] rfl ?_
            obtain ⟨Ft138, at138, ot138, qt138, eFt138, lFt138, uFt138, eat138, lat138, uat138, eot138, lot138, uot138, eqt138, lqt138, uqt138, kt138⟩ := k137
            have cat138 : at138 ≤ 300 := by have h9 := (show xTB (xv g135 wt) (xv g135 wp) tk tl cn from (by rw [(Eq.trans (Eq.trans (Eq.trans (xv_m hg135 hs_wt (by decide) (by decide)) (xv_a hg133 (xne hs_wt hs_a0 (by decide)))) (xv_m hg98 hs_wt (by decide) (by decide))) (xv_m hg2 hs_wt (by decide) (by decide))), (Eq.trans (Eq.trans (Eq.trans (xv_m hg135 hs_wp (by decide) (by decide)) (xv_a hg133 (xne hs_wp hs_a0 (by decide)))) (xv_m hg98 hs_wp (by decide) (by decide))) (xv_m hg2 hs_wp (by decide) (by decide)))]; exact hp0)).2.2.2; omega
            refine X_aloadn hK (i := 1) 2 dX7_readAll_46 rfl rfl ?_
            refine X_bipush hK dX7_readAll_47 (by decide) ?_
            refine X_iconst hK dX7_readAll_49 ?_
            refine X_iconst hK dX7_readAll_50 ?_
            refine X_callV hK [.int (iI 13), .int (iI 0), .int (iI 0)] [] lk_X7_129 (c_X10_addStep _ _ _ _ _ S g135 a1 13 0 0 hs_a1 (by omega) (by omega) (by omega)) hs_a1 ⟨by decide, rfl⟩ dX7_readAll_51 rfl rfl (by simp [Value.category]) (by decide) (by decide) (by decide) (by decide) (fun r139 S141 g140 pr139 qr139 hg140 => ?_)
            obtain ⟨rfl, rfl⟩ := pr139
            refine X_st [] rfl ?_
            refine X_iinc hK (i := 3) (z := z97) (n := 1) 0 [(3, .int (iI (z97 + 1))), (0, .ref a0), (1, .ref a1), (2, .int (iI x2))] dX7_readAll_54 rfl (by decide) rfl ?_
            refine X_goto hK 8 dX7_readAll_57 (by decide) ?_
            exact ihP120  g140 (xM.tr (xM.tr (xM_up (xM.tr xM.rf xLe.rf hg98 (by decide)) hg133 hs_a0 (by decide) (by decide)) xLe.rf hg135 (by decide)) xLe.rf hg140 (by decide)) (z97 + 1) (by omega) (by omega) at138 (by omega) (by omega) ((hg140 a0 8 0 2 hs_a0 (by decide)).trans eat138) ot138 (by omega) (by omega) ((hg140 a0 8 0 3 hs_a0 (by decide)).trans eot138) Ft138 (by omega) (by omega) ((hg140 a0 8 0 5 hs_a0 (by decide)).trans eFt138) qt138 (by omega) (by omega) ((hg140 a0 8 0 6 hs_a0 (by decide)).trans eqt138) (xIn.s (Or.inl ⟨rfl, rfl, (by rw [← k130]; omega)⟩) v121 (by omega) kt138) (fun h9 => by have h8 := xRR.b kt138 h9; omega) (by omega) (by omega)
  exact P120 ((60 - 0 : Int).toNat + 1) g2 xM.rf 0 (by omega) (by omega) at5 (by omega) (by omega) eat5 ot5 (by omega) (by omega) eot5 Ft5 (by omega) (by omega) eFt5 qt5 (by omega) (by omega) eqt5 (xIn.z (Or.inl ⟨rfl, rfl⟩) kt5) (fun h9 => by have h8 := xRR.b kt5 h9; omega) (by omega) (by omega)

set_option maxHeartbeats 4000000 in
set_option maxRecDepth 100000 in
theorem c3_readCond_3 (l : Launch) (D : va_G) (kA : Nat → ClassId) (b0 : Nat) (t0 : Nat → Nat) (S : xT) (g : xG) (a0 : Nat) (a1 : Nat) (x2 : Int) (na : Int) (no : Int) (nf : Int) (nq : Int) (wt : Nat) (wp : Nat) (tk : Int → Int) (tl : Int → Int) (cn : Int) (hs_a0 : S a0 = some (8, 0)) (hs_a1 : S a1 = some (11, 0)) (hx2 : 3 ≤ x2 ∧ x2 ≤ 3) (hna : 0 ≤ na ∧ na ≤ 300) (ena : g a0 2 = .int (iI na)) (hno : 0 ≤ no ∧ no ≤ 50) (eno : g a0 3 = .int (iI no)) (hnf : 0 ≤ nf ∧ nf ≤ 0) (enf : g a0 5 = .int (iI nf)) (hnq : 0 ≤ nq ∧ nq ≤ 300) (enq : g a0 6 = .int (iI nq)) (ewt : g a0 0 = .ref wt) (hs_wt : S wt = some (12900, 301)) (ewp : g a0 1 = .ref wp) (hs_wp : S wp = some (13000, 301)) (hp0 : xTB (xv g wt) (xv g wp) tk tl cn) (hp1 : na ≤ cn) (hp2 : cn ≤ 300) : xMt l yX7_readCond cX7_readCond 4 none 27 0 0 628 D kA b0 t0 [(8, 5), (8, 6), (8, 3), (8, 2), (14000, 0), (11, 2)] [.ref a0, .ref a1, .int (iI x2)] S g (fun (r : Option Value) (S1 : xT) (g1 : xG) => S = S1 ∧ r = none ∧ (∃ F a o q : Int, g1 a0 5 = .int (iI F) ∧ -2147483648 ≤ F ∧ F ≤ 2147483647 ∧ g1 a0 2 = .int (iI a) ∧ 0 ≤ a ∧ a ≤ cn ∧ g1 a0 3 = .int (iI o) ∧ 0 ≤ o ∧ o ≤ 50 ∧ g1 a0 6 = .int (iI q) ∧ 0 ≤ q ∧ q ≤ 300 ∧ xRR tk tl 2 3 na no F a o q)) := by
  refine xEnterV (by decide) (by simp [lg_sl, Value.category]) [(0, .ref a0), (1, .ref a1), (2, .int (iI x2))] rfl ?_
  intro K E hK hret _ _ _
  refine X_aloadn hK (i := 0) 0 dX7_readCond_0 rfl rfl ?_
  refine X_aloadn hK (i := 1) 1 dX7_readCond_1 rfl rfl ?_
  refine X_iloadn hK (i := 2) 2 dX7_readCond_2 rfl rfl ?_
  refine X_callV hK [.ref a1, .int (iI x2)] [] lk_X7_126 (c3_readAll_3 _ _ _ _ _ S g a0 a1 x2 na no nf nq wt wp tk tl cn hs_a0 hs_a1 (by omega) (by omega) ena (by omega) eno (by omega) enf (by omega) enq ewt hs_wt ewp hs_wp hp0 (by omega) (by omega)) hs_a0 ⟨by decide, rfl⟩ dX7_readCond_3 rfl rfl (by simp [Value.category]) (by decide) (by decide) (by decide) (by decide) (fun r1 S3 g2 pr1 qr1 hg2 => ?_)
  obtain ⟨rfl, rfl, k4⟩ := pr1
  refine X_st [] rfl ?_
  obtain ⟨Ft5, at5, ot5, qt5, eFt5, lFt5, uFt5, eat5, lat5, uat5, eot5, lot5, uot5, eqt5, lqt5, uqt5, kt5⟩ := k4
  have cat5 : at5 ≤ 300 := by have h9 := (show xTB (xv g2 wt) (xv g2 wp) tk tl cn from (by rw [(xv_m hg2 hs_wt (by decide) (by decide)), (xv_m hg2 hs_wp (by decide) (by decide))]; exact hp0)).2.2.2; omega
  refine X_iconst hK dX7_readCond_6 ?_
  refine X_istoren hK (i := 3) [(3, .int (iI 0)), (0, .ref a0), (1, .ref a1), (2, .int (iI x2))] dX7_readCond_7 rfl (by decide) rfl ?_
  have P120 : ∀ (nP120 : Nat) (g98 : xG) (_ : xM [(14000, 0), (11, 2), (8, 5), (8, 6), (8, 3), (8, 2)] S g2 g98) (z97 : Int) (_ : 0 ≤ z97) (_ : z97 ≤ 50) (q99 : Int) (_ : 0 ≤ q99) (_ : q99 ≤ 300) (_ : g98 a0 2 = .int (iI q99)) (q100 : Int) (_ : 0 ≤ q100) (_ : q100 ≤ 50) (_ : g98 a0 3 = .int (iI q100)) (q101 : Int) (_ : (-2147483648) ≤ q101) (_ : q101 ≤ 2147483647) (_ : g98 a0 5 = .int (iI q101)) (q102 : Int) (_ : 0 ≤ q102) (_ : q102 ≤ 300) (_ : g98 a0 6 = .int (iI q102)) (_ : xIn tk tl 2 3 na no q101 q99 q100 q102) (_ : q101 = 0 → no + 1 + z97 ≤ q100) (_ : q99 ≤ cn) (_ : 60 - z97 < (nP120 : Int)), X K E 8 [(3, .int (iI z97)), (0, .ref a0), (1, .ref a1), (2, .int (iI x2))] [] S g98 0 0 := by
    intro nP120
    induction nP120 with
    | zero => intro g98 hg98 z97 lz97 uz97 q99 lq99 uq99 eq99 q100 lq100 uq100 eq100 q101 lq101 uq101 eq101 q102 lq102 uq102 eq102 v121 v122 v123 mP120; exact False.elim (by omega)
    | succ nP120 ihP120 =>
      intro g98 hg98 z97 lz97 uz97 q99 lq99 uq99 eq99 q100 lq100 uq100 eq100 q101 lq101 uq101 eq101 q102 lq102 uq102 eq102 v121 v122 v123 mP120
      refine X_iloadn hK (i := 3) 0 dX7_readCond_8 rfl rfl ?_
      refine X_bipush hK dX7_readCond_9 (by decide) ?_
      refine X_icmp_ge hK 60 (by omega) (by omega) dX7_readCond_11 (by decide) (fun c124 => ?_) (fun c124 => ?_)
      · exact hret _ _ _ _ _ _ dX7_readCond_60 ⟨rfl, rfl, ⟨q101, q99, q100, q102, eq101, by omega, by omega, eq99, by omega, by omega, eq100, by omega, by omega, eq102, by omega, by omega, (xIn.e v121 (fun h9 => False.elim (by have h8 := v122 h9; omega)))⟩⟩ (Nat.le_refl _) (Nat.le_refl _)
      · refine X_aloadn hK (i := 0) 1 dX7_readCond_14 rfl rfl ?_
        refine X_getK hK fl_X7_29_8 hs_a0 eq101 dX7_readCond_15 ?_
        refine X_if_ne hK 60 (by omega) dX7_readCond_18 (by decide) (fun c125 => ?_) (fun c125 => ?_)
        · exact hret _ _ _ _ _ _ dX7_readCond_60 ⟨rfl, rfl, ⟨q101, q99, q100, q102, eq101, by omega, by omega, eq99, by omega, by omega, eq100, by omega, by omega, eq102, by omega, by omega, (xIn.e v121 (fun h9 => False.elim (by have h8 := v122 h9; omega)))⟩⟩ (Nat.le_refl _) (Nat.le_refl _)
        · refine X_aloadn hK (i := 0) 1 dX7_readCond_21 rfl rfl ?_
          refine X_callV hK [] [] lk_X7_47 (c3_now _ _ _ _ _ S g98 a0 q99 wt wp tk tl cn hs_a0 (by omega) eq99 ((hg98 a0 8 0 0 hs_a0 (by decide)).trans ((hg2 a0 8 0 0 hs_a0 (by decide)).trans ewt)) hs_wt ((hg98 a0 8 0 1 hs_a0 (by decide)).trans ((hg2 a0 8 0 1 hs_a0 (by decide)).trans ewp)) hs_wp (by rw [(Eq.trans (xv_m hg98 hs_wt (by decide) (by decide)) (xv_m hg2 hs_wt (by decide) (by decide))), (Eq.trans (xv_m hg98 hs_wp (by decide) (by decide)) (xv_m hg2 hs_wp (by decide) (by decide)))]; exact hp0) (by omega) (by omega)) hs_a0 ⟨by decide, rfl⟩ dX7_readCond_22 rfl rfl (by simp [Value.category]) (by decide) (by decide) (by decide) (by decide) (fun r126 S128 g127 pr126 qr126 hg127 => ?_)
          obtain ⟨rfl, rfl, z129, rfl, lz129, uz129, k130⟩ := pr126
          refine X_st [.int (iI z129)] rfl ?_
          refine X_bipush hK dX7_readCond_25 (by decide) ?_
          refine X_icmp_ne hK 60 (by omega) (by omega) dX7_readCond_27 (by decide) (fun c131 => ?_) (fun c131 => ?_)
          · exact hret _ _ _ _ _ _ dX7_readCond_60 ⟨rfl, rfl, ⟨q101, q99, q100, q102, eq101, by omega, by omega, eq99, by omega, by omega, eq100, by omega, by omega, eq102, by omega, by omega, (xIn.e v121 (fun h9 => Or.inr ⟨rfl, by rw [← k130]; omega⟩))⟩⟩ (Nat.le_refl _) (Nat.le_refl _)
          · refine X_aloadn hK (i := 0) 1 dX7_readCond_30 rfl rfl ?_
            refine X_dup hK dX7_readCond_31 rfl ?_
            have hl132 := xTB.lt (A := xv g98 wt) (B := xv g98 wp) (tk := tk) (tl := tl) (c := cn) (a := q99) (by rw [(Eq.trans (xv_m hg98 hs_wt (by decide) (by decide)) (xv_m hg2 hs_wt (by decide) (by decide))), (Eq.trans (xv_m hg98 hs_wp (by decide) (by decide)) (xv_m hg2 hs_wp (by decide) (by decide)))]; exact hp0) (by omega) (by rw [← k130]; omega)
            refine X_getK hK fl_X7_18_8 hs_a0 eq99 dX7_readCond_32 ?_
            refine X_iconst hK dX7_readCond_35 ?_
            refine X_iadd hK dX7_readCond_36 ?_
            refine X_puti hK fl_X7_18_8 hs_a0 (by decide) sl_8_2 (by omega) (by omega) dX7_readCond_37 (fun g133 hg133 => ?_)
            refine X_aloadn hK (i := 0) 1 dX7_readCond_40 rfl rfl ?_
            refine X_aloadn hK (i := 1) 2 dX7_readCond_41 rfl rfl ?_
            refine X_iloadn hK (i := 2) 3 dX7_readCond_42 rfl rfl ?_
            refine X_callV hK [.ref a1, .int (iI x2)] [] lk_X7_126 (c3_readAll_3 _ _ _ _ _ S g133 a0 a1 x2 (q99 + 1) q100 q101 q102 wt wp tk tl cn hs_a0 hs_a1 (by omega) (by omega) (xs_s hg133) (by omega) ((xs_k hg133 (by decide)).trans eq100) (by omega) ((xs_k hg133 (by decide)).trans eq101) (by omega) ((xs_k hg133 (by decide)).trans eq102) ((xs_k hg133 (by decide)).trans ((hg98 a0 8 0 0 hs_a0 (by decide)).trans ((hg2 a0 8 0 0 hs_a0 (by decide)).trans ewt))) hs_wt ((xs_k hg133 (by decide)).trans ((hg98 a0 8 0 1 hs_a0 (by decide)).trans ((hg2 a0 8 0 1 hs_a0 (by decide)).trans ewp))) hs_wp (by rw [(Eq.trans (Eq.trans (xv_a hg133 (xne hs_wt hs_a0 (by decide))) (xv_m hg98 hs_wt (by decide) (by decide))) (xv_m hg2 hs_wt (by decide) (by decide))), (Eq.trans (Eq.trans (xv_a hg133 (xne hs_wp hs_a0 (by decide))) (xv_m hg98 hs_wp (by decide) (by decide))) (xv_m hg2 hs_wp (by decide) (by decide)))]; exact hp0) (by omega) (by omega)) hs_a0 ⟨by decide, rfl⟩ dX7_readCond_43 rfl rfl (by simp [Value.category]) (by decide) (by decide) (by decide) (by decide) (fun r134 S136 g135 pr134 qr134 hg135 => ?_)
            obtain ⟨rfl, rfl, k137⟩ := pr134
            refine X_st [] rfl ?_
            obtain ⟨Ft138, at138, ot138, qt138, eFt138, lFt138, uFt138, eat138, lat138, uat138, eot138, lot138, uot138, eqt138, lqt138, uqt138, kt138⟩ := k137
            have cat138 : at138 ≤ 300 := by have h9 := (show xTB (xv g135 wt) (xv g135 wp) tk tl cn from (by rw [(Eq.trans (Eq.trans (Eq.trans (xv_m hg135 hs_wt (by decide) (by decide)) (xv_a hg133 (xne hs_wt hs_a0 (by decide)))) (xv_m hg98 hs_wt (by decide) (by decide))) (xv_m hg2 hs_wt (by decide) (by decide))), (Eq.trans (Eq.trans (Eq.trans (xv_m hg135 hs_wp (by decide) (by decide)) (xv_a hg133 (xne hs_wp hs_a0 (by decide)))) (xv_m hg98 hs_wp (by decide) (by decide))) (xv_m hg2 hs_wp (by decide) (by decide)))]; exact hp0)).2.2.2; omega
            refine X_aloadn hK (i := 1) 2 dX7_readCond_46 rfl rfl ?_
            refine X_bipush hK dX7_readCond_47 (by decide) ?_
            refine X_iconst hK dX7_readCond_49 ?_
            refine X_iconst hK dX7_readCond_50 ?_
            refine X_callV hK [.int (iI 14), .int (iI 0), .int (iI 0)] [] lk_X7_129 (c_X10_addStep _ _ _ _ _ S g135 a1 14 0 0 hs_a1 (by omega) (by omega) (by omega)) hs_a1 ⟨by decide, rfl⟩ dX7_readCond_51 rfl rfl (by simp [Value.category]) (by decide) (by decide) (by decide) (by decide) (fun r139 S141 g140 pr139 qr139 hg140 => ?_)
            obtain ⟨rfl, rfl⟩ := pr139
            refine X_st [] rfl ?_
            refine X_iinc hK (i := 3) (z := z97) (n := 1) 0 [(3, .int (iI (z97 + 1))), (0, .ref a0), (1, .ref a1), (2, .int (iI x2))] dX7_readCond_54 rfl (by decide) rfl ?_
            refine X_goto hK 8 dX7_readCond_57 (by decide) ?_
            exact ihP120  g140 (xM.tr (xM.tr (xM_up (xM.tr xM.rf xLe.rf hg98 (by decide)) hg133 hs_a0 (by decide) (by decide)) xLe.rf hg135 (by decide)) xLe.rf hg140 (by decide)) (z97 + 1) (by omega) (by omega) at138 (by omega) (by omega) ((hg140 a0 8 0 2 hs_a0 (by decide)).trans eat138) ot138 (by omega) (by omega) ((hg140 a0 8 0 3 hs_a0 (by decide)).trans eot138) Ft138 (by omega) (by omega) ((hg140 a0 8 0 5 hs_a0 (by decide)).trans eFt138) qt138 (by omega) (by omega) ((hg140 a0 8 0 6 hs_a0 (by decide)).trans eqt138) (xIn.s (Or.inr ⟨rfl, rfl, (by rw [← k130]; omega)⟩) v121 (by omega) kt138) (fun h9 => by have h8 := xRR.b1 kt138 h9; omega) (by omega) (by omega)
  exact P120 ((60 - 0 : Int).toNat + 1) g2 xM.rf 0 (by omega) (by omega) at5 (by omega) (by omega) eat5 ot5 (by omega) (by omega) eot5 Ft5 (by omega) (by omega) eFt5 qt5 (by omega) (by omega) eqt5 (xIn.z (Or.inr ⟨rfl, rfl⟩) kt5) (fun h9 => by have h8 := xRR.b1 kt5 h9; omega) (by omega) (by omega)

set_option maxHeartbeats 4000000 in
set_option maxRecDepth 100000 in
theorem c3_readOne_2 (l : Launch) (D : va_G) (kA : Nat → ClassId) (b0 : Nat) (t0 : Nat → Nat) (S : xT) (g : xG) (a0 : Nat) (a1 : Nat) (x2 : Int) (na : Int) (no : Int) (nf : Int) (nq : Int) (wt : Nat) (wp : Nat) (tk : Int → Int) (tl : Int → Int) (cn : Int) (hs_a0 : S a0 = some (8, 0)) (hs_a1 : S a1 = some (11, 0)) (hx2 : 2 ≤ x2 ∧ x2 ≤ 2) (hna : 0 ≤ na ∧ na ≤ 300) (ena : g a0 2 = .int (iI na)) (hno : 0 ≤ no ∧ no ≤ 50) (eno : g a0 3 = .int (iI no)) (hnf : 0 ≤ nf ∧ nf ≤ 0) (enf : g a0 5 = .int (iI nf)) (hnq : 0 ≤ nq ∧ nq ≤ 300) (enq : g a0 6 = .int (iI nq)) (ewt : g a0 0 = .ref wt) (hs_wt : S wt = some (12900, 301)) (ewp : g a0 1 = .ref wp) (hs_wp : S wp = some (13000, 301)) (hp0 : xTB (xv g wt) (xv g wp) tk tl cn) (hp1 : na ≤ cn) (hp2 : cn ≤ 300) : xMt l yX7_readOne cX7_readOne 5 none 28 0 0 651 D kA b0 t0 [(8, 5), (8, 6), (8, 3), (8, 2), (14000, 0), (11, 2)] [.ref a0, .ref a1, .int (iI x2)] S g (fun (r : Option Value) (S1 : xT) (g1 : xG) => S = S1 ∧ r = none ∧ (∃ F a o q : Int, g1 a0 5 = .int (iI F) ∧ -2147483648 ≤ F ∧ F ≤ 2147483647 ∧ g1 a0 2 = .int (iI a) ∧ 0 ≤ a ∧ a ≤ cn ∧ g1 a0 3 = .int (iI o) ∧ 0 ≤ o ∧ o ≤ 50 ∧ g1 a0 6 = .int (iI q) ∧ 0 ≤ q ∧ q ≤ 300 ∧ xRR tk tl 0 2 na no F a o q)) := by
  refine xEnterV (by decide) (by simp [lg_sl, Value.category]) [(0, .ref a0), (1, .ref a1), (2, .int (iI x2))] rfl ?_
  intro K E hK hret _ _ _
  refine X_aloadn hK (i := 0) 0 dX7_readOne_0 rfl rfl ?_
  refine X_callV hK [] [] lk_X7_47 (c3_now _ _ _ _ _ S g a0 na wt wp tk tl cn hs_a0 (by omega) ena ewt hs_wt ewp hs_wp hp0 (by omega) (by omega)) hs_a0 ⟨by decide, rfl⟩ dX7_readOne_1 rfl rfl (by simp [Value.category]) (by decide) (by decide) (by decide) (by decide) (fun r1 S3 g2 pr1 qr1 hg2 => ?_)
  obtain ⟨rfl, rfl, z4, rfl, lz4, uz4, k5⟩ := pr1
  refine X_st [.int (iI z4)] rfl ?_
  refine X_istoren hK (i := 3) [(3, .int (iI z4)), (0, .ref a0), (1, .ref a1), (2, .int (iI x2))] dX7_readOne_4 rfl (by decide) rfl ?_
  refine X_iloadn hK (i := 3) 0 dX7_readOne_5 rfl rfl ?_
  refine X_bipush hK dX7_readOne_6 (by decide) ?_
  refine X_icmp_lt hK 21 (by omega) (by omega) dX7_readOne_8 (by decide) (fun c6 => ?_) (fun c6 => ?_)
  · refine X_iconst hK dX7_readOne_21 ?_
    refine X_istore hK (i := 4) [(4, .int (iI 0)), (3, .int (iI z4)), (0, .ref a0), (1, .ref a1), (2, .int (iI x2))] dX7_readOne_22 (by decide) rfl ?_
    refine X_iload hK (i := 4) 0 dX7_readOne_24 rfl ?_
    refine X_if_ne hK 49 (by omega) dX7_readOne_26 (by decide) (fun c7 => False.elim (by omega)) (fun c7 => ?_)
    refine X_iloadn hK (i := 3) 1 dX7_readOne_29 rfl rfl ?_
    refine X_bipush hK dX7_readOne_30 (by decide) ?_
    refine X_icmp_eq hK 49 (by omega) (by omega) dX7_readOne_32 (by decide) (fun c8 => ?_) (fun c8 => ?_)
    · refine X_aloadn hK (i := 0) 2 dX7_readOne_49 rfl rfl ?_
      refine X_getK hK fl_X7_22_8 hs_a0 eno dX7_readOne_50 ?_
      refine X_bipush hK dX7_readOne_53 (by decide) ?_
      refine X_icmp_ge hK 64 (by omega) (by omega) dX7_readOne_55 (by decide) (fun c9 => ?_) (fun c9 => ?_)
      · refine X_aloadn hK (i := 0) 2 dX7_readOne_64 rfl rfl ?_
        refine X_iconst hK dX7_readOne_65 ?_
        refine X_callV hK [.int (iI 4)] [] lk_X7_60 (c3_tell _ _ _ _ _ S g a0 4 na no nf nq wt wp tk tl cn hs_a0 (by omega) (by omega) ena (by omega) eno (by omega) enf (by omega) enq ewt hs_wt ewp hs_wp hp0 (by omega) (by omega)) hs_a0 ⟨by decide, rfl⟩ dX7_readOne_66 rfl rfl (by simp [Value.category]) (by decide) (by decide) (by decide) (by decide) (fun r10 S12 g11 pr10 qr10 hg11 => ?_)
        obtain ⟨rfl, rfl, k13⟩ := pr10
        refine X_st [] rfl ?_
        obtain ⟨Ft14, at14, ot14, qt14, eFt14, lFt14, uFt14, eat14, lat14, uat14, eot14, lot14, uot14, eqt14, lqt14, uqt14, kt14⟩ := k13
        have cat14 : at14 ≤ 300 := by have h9 := (show xTB (xv g11 wt) (xv g11 wp) tk tl cn from (by rw [(xv_m hg11 hs_wt (by decide) (by decide)), (xv_m hg11 hs_wp (by decide) (by decide))]; exact hp0)).2.2.2; omega
        refine X_goto hK 148 dX7_readOne_69 (by decide) ?_
        exact hret _ _ _ _ _ _ dX7_readOne_148 ⟨rfl, rfl, ⟨Ft14, at14, ot14, qt14, eFt14, by omega, by omega, eat14, by omega, by omega, eot14, by omega, by omega, eqt14, by omega, by omega, (by obtain ⟨h8, h7, h6⟩ := kt14; have h5 := h8.resolve_left (fun q9 => by omega); rw [h5.2.1]; exact xRR.f4 (by rw [← k5]; omega) (by omega) h5.2.2)⟩⟩ (Nat.le_refl _) (Nat.le_refl _)
      · refine X_iloadn hK (i := 2) 4 dX7_readOne_58 rfl rfl ?_
        refine X_bipush hK dX7_readOne_59 (by decide) ?_
        refine X_icmp_le hK 72 (by omega) (by omega) dX7_readOne_61 (by decide) (fun c15 => ?_) (fun c15 => False.elim (by omega))
        refine X_aloadn hK (i := 0) 2 dX7_readOne_72 rfl rfl ?_
        refine X_dup hK dX7_readOne_73 rfl ?_
        refine X_getK hK fl_X7_22_8 hs_a0 eno dX7_readOne_74 ?_
        refine X_iconst hK dX7_readOne_77 ?_
        refine X_iadd hK dX7_readOne_78 ?_
        refine X_puti hK fl_X7_22_8 hs_a0 (by decide) sl_8_3 (by omega) (by omega) dX7_readOne_79 (fun g16 hg16 => ?_)
        refine X_aloadn hK (i := 0) 2 dX7_readOne_82 rfl rfl ?_
        refine X_dup hK dX7_readOne_83 rfl ?_
        have hl17 := xTB.lt (A := xv g16 wt) (B := xv g16 wp) (tk := tk) (tl := tl) (c := cn) (a := na) (by rw [(xv_a hg16 (xne hs_wt hs_a0 (by decide))), (xv_a hg16 (xne hs_wp hs_a0 (by decide)))]; exact hp0) (by omega) (by rw [← k5]; omega)
        refine X_getK hK fl_X7_18_8 hs_a0 ((xs_k hg16 (by decide)).trans ena) dX7_readOne_84 ?_
        refine X_iconst hK dX7_readOne_87 ?_
        refine X_iadd hK dX7_readOne_88 ?_
        refine X_puti hK fl_X7_18_8 hs_a0 (by decide) sl_8_2 (by omega) (by omega) dX7_readOne_89 (fun g18 hg18 => ?_)
        refine X_iload hK (i := 4) 0 dX7_readOne_92 rfl ?_
        refine X_if_eq hK 109 (by omega) dX7_readOne_94 (by decide) (fun c19 => ?_) (fun c19 => False.elim (by omega))
        refine X_iloadn hK (i := 3) 1 dX7_readOne_109 rfl rfl ?_
        refine X_bipush hK dX7_readOne_110 (by decide) ?_
        refine X_icmp_ne hK 132 (by omega) (by omega) dX7_readOne_112 (by decide) (fun c20 => ?_) (fun c20 => False.elim (by omega))
        refine X_aloadn hK (i := 0) 2 dX7_readOne_132 rfl rfl ?_
        refine X_aloadn hK (i := 1) 3 dX7_readOne_133 rfl rfl ?_
        refine X_iloadn hK (i := 2) 4 dX7_readOne_134 rfl rfl ?_
        refine X_iconst hK dX7_readOne_135 ?_
        refine X_iadd hK dX7_readOne_136 ?_
        refine X_callV hK [.ref a1, .int (iI (x2 + 1))] [] lk_X7_132 (c3_readOne_3 _ _ _ _ _ S g18 a0 a1 (x2 + 1) (na + 1) (no + 1) nf nq wt wp tk tl cn hs_a0 hs_a1 (by omega) (by omega) (xs_s hg18) (by omega) ((xs_k hg18 (by decide)).trans (xs_s hg16)) (by omega) ((xs_k hg18 (by decide)).trans ((xs_k hg16 (by decide)).trans enf)) (by omega) ((xs_k hg18 (by decide)).trans ((xs_k hg16 (by decide)).trans enq)) ((xs_k hg18 (by decide)).trans ((xs_k hg16 (by decide)).trans ewt)) hs_wt ((xs_k hg18 (by decide)).trans ((xs_k hg16 (by decide)).trans ewp)) hs_wp (by rw [(Eq.trans (xv_a hg18 (xne hs_wt hs_a0 (by decide))) (xv_a hg16 (xne hs_wt hs_a0 (by decide)))), (Eq.trans (xv_a hg18 (xne hs_wp hs_a0 (by decide))) (xv_a hg16 (xne hs_wp hs_a0 (by decide))))]; exact hp0) (by omega) (by omega)) hs_a0 ⟨by decide, rfl⟩ dX7_readOne_137 rfl rfl (by simp [Value.category]) (by decide) (by decide) (by decide) (by decide) (fun r21 S23 g22 pr21 qr21 hg22 => ?_)
        obtain ⟨rfl, rfl, k24⟩ := pr21
        refine X_st [] rfl ?_
        obtain ⟨Ft25, at25, ot25, qt25, eFt25, lFt25, uFt25, eat25, lat25, uat25, eot25, lot25, uot25, eqt25, lqt25, uqt25, kt25⟩ := k24
        have cat25 : at25 ≤ 300 := by have h9 := (show xTB (xv g22 wt) (xv g22 wp) tk tl cn from (by rw [(Eq.trans (Eq.trans (xv_m hg22 hs_wt (by decide) (by decide)) (xv_a hg18 (xne hs_wt hs_a0 (by decide)))) (xv_a hg16 (xne hs_wt hs_a0 (by decide)))), (Eq.trans (Eq.trans (xv_m hg22 hs_wp (by decide) (by decide)) (xv_a hg18 (xne hs_wp hs_a0 (by decide)))) (xv_a hg16 (xne hs_wp hs_a0 (by decide))))]; exact hp0)).2.2.2; omega
        refine X_aloadn hK (i := 1) 3 dX7_readOne_140 rfl rfl ?_
        refine X_bipush hK dX7_readOne_141 (by decide) ?_
        refine X_iconst hK dX7_readOne_143 ?_
        refine X_iconst hK dX7_readOne_144 ?_
        refine X_callV hK [.int (iI 12), .int (iI 0), .int (iI 0)] [] lk_X7_129 (c_X10_addStep _ _ _ _ _ S g22 a1 12 0 0 hs_a1 (by omega) (by omega) (by omega)) hs_a1 ⟨by decide, rfl⟩ dX7_readOne_145 rfl rfl (by simp [Value.category]) (by decide) (by decide) (by decide) (by decide) (fun r26 S28 g27 pr26 qr26 hg27 => ?_)
        obtain ⟨rfl, rfl⟩ := pr26
        refine X_st [] rfl ?_
        exact hret _ _ _ _ _ _ dX7_readOne_148 ⟨rfl, rfl, ⟨Ft25, at25, ot25, qt25, ((hg27 a0 8 0 5 hs_a0 (by decide)).trans eFt25), by omega, by omega, ((hg27 a0 8 0 2 hs_a0 (by decide)).trans eat25), by omega, by omega, ((hg27 a0 8 0 3 hs_a0 (by decide)).trans eot25), by omega, by omega, ((hg27 a0 8 0 6 hs_a0 (by decide)).trans eqt25), by omega, by omega, (xRR.nt (by rw [← k5]; omega) (by omega) kt25)⟩⟩ (Nat.le_refl _) (Nat.le_refl _)
    · refine X_iloadn hK (i := 3) 1 dX7_readOne_35 rfl rfl ?_
      refine X_bipush hK dX7_readOne_36 (by decide) ?_
      refine X_icmp_eq hK 49 (by omega) (by omega) dX7_readOne_38 (by decide) (fun c29 => False.elim (by omega)) (fun c29 => ?_)
      refine X_aloadn hK (i := 0) 2 dX7_readOne_41 rfl rfl ?_
      refine X_iconst hK dX7_readOne_42 ?_
      refine X_callV hK [.int (iI 1)] [] lk_X7_60 (c3_tell _ _ _ _ _ S g a0 1 na no nf nq wt wp tk tl cn hs_a0 (by omega) (by omega) ena (by omega) eno (by omega) enf (by omega) enq ewt hs_wt ewp hs_wp hp0 (by omega) (by omega)) hs_a0 ⟨by decide, rfl⟩ dX7_readOne_43 rfl rfl (by simp [Value.category]) (by decide) (by decide) (by decide) (by decide) (fun r30 S32 g31 pr30 qr30 hg31 => ?_)
      obtain ⟨rfl, rfl, k33⟩ := pr30
      refine X_st [] rfl ?_
      obtain ⟨Ft34, at34, ot34, qt34, eFt34, lFt34, uFt34, eat34, lat34, uat34, eot34, lot34, uot34, eqt34, lqt34, uqt34, kt34⟩ := k33
      have cat34 : at34 ≤ 300 := by have h9 := (show xTB (xv g31 wt) (xv g31 wp) tk tl cn from (by rw [(xv_m hg31 hs_wt (by decide) (by decide)), (xv_m hg31 hs_wp (by decide) (by decide))]; exact hp0)).2.2.2; omega
      refine X_goto hK 148 dX7_readOne_46 (by decide) ?_
      exact hret _ _ _ _ _ _ dX7_readOne_148 ⟨rfl, rfl, ⟨Ft34, at34, ot34, qt34, eFt34, by omega, by omega, eat34, by omega, by omega, eot34, by omega, by omega, eqt34, by omega, by omega, (by obtain ⟨h8, h7, h6⟩ := kt34; have h5 := h8.resolve_left (fun q9 => by omega); rw [h5.2.1]; exact xRR.f1 (by rw [← k5]; omega) h5.2.2)⟩⟩ (Nat.le_refl _) (Nat.le_refl _)
  · refine X_iloadn hK (i := 3) 0 dX7_readOne_11 rfl rfl ?_
    refine X_bipush hK dX7_readOne_12 (by decide) ?_
    refine X_icmp_ge hK 21 (by omega) (by omega) dX7_readOne_14 (by decide) (fun c35 => ?_) (fun c35 => ?_)
    · refine X_iconst hK dX7_readOne_21 ?_
      refine X_istore hK (i := 4) [(4, .int (iI 0)), (3, .int (iI z4)), (0, .ref a0), (1, .ref a1), (2, .int (iI x2))] dX7_readOne_22 (by decide) rfl ?_
      refine X_iload hK (i := 4) 0 dX7_readOne_24 rfl ?_
      refine X_if_ne hK 49 (by omega) dX7_readOne_26 (by decide) (fun c36 => False.elim (by omega)) (fun c36 => ?_)
      refine X_iloadn hK (i := 3) 1 dX7_readOne_29 rfl rfl ?_
      refine X_bipush hK dX7_readOne_30 (by decide) ?_
      refine X_icmp_eq hK 49 (by omega) (by omega) dX7_readOne_32 (by decide) (fun c37 => False.elim (by omega)) (fun c37 => ?_)
      refine X_iloadn hK (i := 3) 1 dX7_readOne_35 rfl rfl ?_
      refine X_bipush hK dX7_readOne_36 (by decide) ?_
      refine X_icmp_eq hK 49 (by omega) (by omega) dX7_readOne_38 (by decide) (fun c38 => ?_) (fun c38 => ?_)
      · refine X_aloadn hK (i := 0) 2 dX7_readOne_49 rfl rfl ?_
        refine X_getK hK fl_X7_22_8 hs_a0 eno dX7_readOne_50 ?_
        refine X_bipush hK dX7_readOne_53 (by decide) ?_
        refine X_icmp_ge hK 64 (by omega) (by omega) dX7_readOne_55 (by decide) (fun c39 => ?_) (fun c39 => ?_)
        · refine X_aloadn hK (i := 0) 2 dX7_readOne_64 rfl rfl ?_
          refine X_iconst hK dX7_readOne_65 ?_
          refine X_callV hK [.int (iI 4)] [] lk_X7_60 (c3_tell _ _ _ _ _ S g a0 4 na no nf nq wt wp tk tl cn hs_a0 (by omega) (by omega) ena (by omega) eno (by omega) enf (by omega) enq ewt hs_wt ewp hs_wp hp0 (by omega) (by omega)) hs_a0 ⟨by decide, rfl⟩ dX7_readOne_66 rfl rfl (by simp [Value.category]) (by decide) (by decide) (by decide) (by decide) (fun r40 S42 g41 pr40 qr40 hg41 => ?_)
          obtain ⟨rfl, rfl, k43⟩ := pr40
          refine X_st [] rfl ?_
          obtain ⟨Ft44, at44, ot44, qt44, eFt44, lFt44, uFt44, eat44, lat44, uat44, eot44, lot44, uot44, eqt44, lqt44, uqt44, kt44⟩ := k43
          have cat44 : at44 ≤ 300 := by have h9 := (show xTB (xv g41 wt) (xv g41 wp) tk tl cn from (by rw [(xv_m hg41 hs_wt (by decide) (by decide)), (xv_m hg41 hs_wp (by decide) (by decide))]; exact hp0)).2.2.2; omega
          refine X_goto hK 148 dX7_readOne_69 (by decide) ?_
          exact hret _ _ _ _ _ _ dX7_readOne_148 ⟨rfl, rfl, ⟨Ft44, at44, ot44, qt44, eFt44, by omega, by omega, eat44, by omega, by omega, eot44, by omega, by omega, eqt44, by omega, by omega, (by obtain ⟨h8, h7, h6⟩ := kt44; have h5 := h8.resolve_left (fun q9 => by omega); rw [h5.2.1]; exact xRR.f4 (by rw [← k5]; omega) (by omega) h5.2.2)⟩⟩ (Nat.le_refl _) (Nat.le_refl _)
        · refine X_iloadn hK (i := 2) 4 dX7_readOne_58 rfl rfl ?_
          refine X_bipush hK dX7_readOne_59 (by decide) ?_
          refine X_icmp_le hK 72 (by omega) (by omega) dX7_readOne_61 (by decide) (fun c45 => ?_) (fun c45 => False.elim (by omega))
          refine X_aloadn hK (i := 0) 2 dX7_readOne_72 rfl rfl ?_
          refine X_dup hK dX7_readOne_73 rfl ?_
          refine X_getK hK fl_X7_22_8 hs_a0 eno dX7_readOne_74 ?_
          refine X_iconst hK dX7_readOne_77 ?_
          refine X_iadd hK dX7_readOne_78 ?_
          refine X_puti hK fl_X7_22_8 hs_a0 (by decide) sl_8_3 (by omega) (by omega) dX7_readOne_79 (fun g46 hg46 => ?_)
          refine X_aloadn hK (i := 0) 2 dX7_readOne_82 rfl rfl ?_
          refine X_dup hK dX7_readOne_83 rfl ?_
          have hl47 := xTB.lt (A := xv g46 wt) (B := xv g46 wp) (tk := tk) (tl := tl) (c := cn) (a := na) (by rw [(xv_a hg46 (xne hs_wt hs_a0 (by decide))), (xv_a hg46 (xne hs_wp hs_a0 (by decide)))]; exact hp0) (by omega) (by rw [← k5]; omega)
          refine X_getK hK fl_X7_18_8 hs_a0 ((xs_k hg46 (by decide)).trans ena) dX7_readOne_84 ?_
          refine X_iconst hK dX7_readOne_87 ?_
          refine X_iadd hK dX7_readOne_88 ?_
          refine X_puti hK fl_X7_18_8 hs_a0 (by decide) sl_8_2 (by omega) (by omega) dX7_readOne_89 (fun g48 hg48 => ?_)
          refine X_iload hK (i := 4) 0 dX7_readOne_92 rfl ?_
          refine X_if_eq hK 109 (by omega) dX7_readOne_94 (by decide) (fun c49 => ?_) (fun c49 => False.elim (by omega))
          refine X_iloadn hK (i := 3) 1 dX7_readOne_109 rfl rfl ?_
          refine X_bipush hK dX7_readOne_110 (by decide) ?_
          refine X_icmp_ne hK 132 (by omega) (by omega) dX7_readOne_112 (by decide) (fun c50 => False.elim (by omega)) (fun c50 => ?_)
          refine X_aloadn hK (i := 0) 2 dX7_readOne_115 rfl rfl ?_
          refine X_aloadn hK (i := 1) 3 dX7_readOne_116 rfl rfl ?_
          refine X_iloadn hK (i := 2) 4 dX7_readOne_117 rfl rfl ?_
          refine X_iconst hK dX7_readOne_118 ?_
          refine X_iadd hK dX7_readOne_119 ?_
          refine X_callV hK [.ref a1, .int (iI (x2 + 1))] [] lk_X7_115 (c3_readCond_3 _ _ _ _ _ S g48 a0 a1 (x2 + 1) (na + 1) (no + 1) nf nq wt wp tk tl cn hs_a0 hs_a1 (by omega) (by omega) (xs_s hg48) (by omega) ((xs_k hg48 (by decide)).trans (xs_s hg46)) (by omega) ((xs_k hg48 (by decide)).trans ((xs_k hg46 (by decide)).trans enf)) (by omega) ((xs_k hg48 (by decide)).trans ((xs_k hg46 (by decide)).trans enq)) ((xs_k hg48 (by decide)).trans ((xs_k hg46 (by decide)).trans ewt)) hs_wt ((xs_k hg48 (by decide)).trans ((xs_k hg46 (by decide)).trans ewp)) hs_wp (by rw [(Eq.trans (xv_a hg48 (xne hs_wt hs_a0 (by decide))) (xv_a hg46 (xne hs_wt hs_a0 (by decide)))), (Eq.trans (xv_a hg48 (xne hs_wp hs_a0 (by decide))) (xv_a hg46 (xne hs_wp hs_a0 (by decide))))]; exact hp0) (by omega) (by omega)) hs_a0 ⟨by decide, rfl⟩ dX7_readOne_120 rfl rfl (by simp [Value.category]) (by decide) (by decide) (by decide) (by decide) (fun r51 S53 g52 pr51 qr51 hg52 => ?_)
          obtain ⟨rfl, rfl, k54⟩ := pr51
          refine X_st [] rfl ?_
          obtain ⟨Ft55, at55, ot55, qt55, eFt55, lFt55, uFt55, eat55, lat55, uat55, eot55, lot55, uot55, eqt55, lqt55, uqt55, kt55⟩ := k54
          have cat55 : at55 ≤ 300 := by have h9 := (show xTB (xv g52 wt) (xv g52 wp) tk tl cn from (by rw [(Eq.trans (Eq.trans (xv_m hg52 hs_wt (by decide) (by decide)) (xv_a hg48 (xne hs_wt hs_a0 (by decide)))) (xv_a hg46 (xne hs_wt hs_a0 (by decide)))), (Eq.trans (Eq.trans (xv_m hg52 hs_wp (by decide) (by decide)) (xv_a hg48 (xne hs_wp hs_a0 (by decide)))) (xv_a hg46 (xne hs_wp hs_a0 (by decide))))]; exact hp0)).2.2.2; omega
          refine X_aloadn hK (i := 0) 2 dX7_readOne_123 rfl rfl ?_
          refine X_bipush hK dX7_readOne_124 (by decide) ?_
          refine X_callV hK [.int (iI 26)] [] lk_X7_119 (c3_expect _ _ _ _ _ S g52 a0 26 at55 ot55 Ft55 qt55 wt wp tk tl cn hs_a0 (by omega) (by omega) eat55 (by omega) eot55 (by omega) eFt55 (by omega) eqt55 ((hg52 a0 8 0 0 hs_a0 (by decide)).trans ((xs_k hg48 (by decide)).trans ((xs_k hg46 (by decide)).trans ewt))) hs_wt ((hg52 a0 8 0 1 hs_a0 (by decide)).trans ((xs_k hg48 (by decide)).trans ((xs_k hg46 (by decide)).trans ewp))) hs_wp (by rw [(Eq.trans (Eq.trans (xv_m hg52 hs_wt (by decide) (by decide)) (xv_a hg48 (xne hs_wt hs_a0 (by decide)))) (xv_a hg46 (xne hs_wt hs_a0 (by decide)))), (Eq.trans (Eq.trans (xv_m hg52 hs_wp (by decide) (by decide)) (xv_a hg48 (xne hs_wp hs_a0 (by decide)))) (xv_a hg46 (xne hs_wp hs_a0 (by decide))))]; exact hp0) (by omega) (by omega)) hs_a0 ⟨by decide, rfl⟩ dX7_readOne_126 rfl rfl (by simp [Value.category]) (by decide) (by decide) (by decide) (by decide) (fun r56 S58 g57 pr56 qr56 hg57 => ?_)
          obtain ⟨rfl, rfl, k59⟩ := pr56
          refine X_st [] rfl ?_
          obtain ⟨Ft60, at60, ot60, qt60, eFt60, lFt60, uFt60, eat60, lat60, uat60, eot60, lot60, uot60, eqt60, lqt60, uqt60, kt60⟩ := k59
          have cat60 : at60 ≤ 300 := by have h9 := (show xTB (xv g57 wt) (xv g57 wp) tk tl cn from (by rw [(Eq.trans (Eq.trans (Eq.trans (xv_m hg57 hs_wt (by decide) (by decide)) (xv_m hg52 hs_wt (by decide) (by decide))) (xv_a hg48 (xne hs_wt hs_a0 (by decide)))) (xv_a hg46 (xne hs_wt hs_a0 (by decide)))), (Eq.trans (Eq.trans (Eq.trans (xv_m hg57 hs_wp (by decide) (by decide)) (xv_m hg52 hs_wp (by decide) (by decide))) (xv_a hg48 (xne hs_wp hs_a0 (by decide)))) (xv_a hg46 (xne hs_wp hs_a0 (by decide))))]; exact hp0)).2.2.2; omega
          refine X_goto hK 148 dX7_readOne_129 (by decide) ?_
          exact hret _ _ _ _ _ _ dX7_readOne_148 ⟨rfl, rfl, ⟨Ft60, at60, ot60, qt60, eFt60, by omega, by omega, eat60, by omega, by omega, eot60, by omega, by omega, eqt60, by omega, by omega, (by obtain ⟨h8, h7⟩ := kt60; by_cases f9 : Ft55 = 0; (rcases h8 with ⟨c1, c2, c3, c4⟩ | ⟨c1, c2, c3⟩; (rw [show Ft60 = 0 by omega, c3, h7]; exact xRR.po (by rw [← k5]; omega) (by omega) (show xRR tk tl 2 (2 + 1) (na + 1) (no + 1) Ft55 at55 ot55 qt55 from kt55) f9 c1); (have c4 := c3.resolve_left (fun q9 => q9.1 f9); rw [c4.2.1]; exact xRR.px (by rw [← k5]; omega) (by omega) (show xRR tk tl 2 (2 + 1) (na + 1) (no + 1) Ft55 at55 ot55 qt55 from kt55) f9 c1 c4.2.2)); (have h6 : Ft60 = Ft55 ∧ qt60 = qt55 := (by omega); rw [h6.1, h6.2]; exact xRR.pf (by rw [← k5]; omega) (by omega) (show xRR tk tl 2 (2 + 1) (na + 1) (no + 1) Ft55 at55 ot55 qt55 from kt55) f9))⟩⟩ (Nat.le_refl _) (Nat.le_refl _)
      · refine X_aloadn hK (i := 0) 2 dX7_readOne_41 rfl rfl ?_
        refine X_iconst hK dX7_readOne_42 ?_
        refine X_callV hK [.int (iI 1)] [] lk_X7_60 (c3_tell _ _ _ _ _ S g a0 1 na no nf nq wt wp tk tl cn hs_a0 (by omega) (by omega) ena (by omega) eno (by omega) enf (by omega) enq ewt hs_wt ewp hs_wp hp0 (by omega) (by omega)) hs_a0 ⟨by decide, rfl⟩ dX7_readOne_43 rfl rfl (by simp [Value.category]) (by decide) (by decide) (by decide) (by decide) (fun r61 S63 g62 pr61 qr61 hg62 => ?_)
        obtain ⟨rfl, rfl, k64⟩ := pr61
        refine X_st [] rfl ?_
        obtain ⟨Ft65, at65, ot65, qt65, eFt65, lFt65, uFt65, eat65, lat65, uat65, eot65, lot65, uot65, eqt65, lqt65, uqt65, kt65⟩ := k64
        have cat65 : at65 ≤ 300 := by have h9 := (show xTB (xv g62 wt) (xv g62 wp) tk tl cn from (by rw [(xv_m hg62 hs_wt (by decide) (by decide)), (xv_m hg62 hs_wp (by decide) (by decide))]; exact hp0)).2.2.2; omega
        refine X_goto hK 148 dX7_readOne_46 (by decide) ?_
        exact hret _ _ _ _ _ _ dX7_readOne_148 ⟨rfl, rfl, ⟨Ft65, at65, ot65, qt65, eFt65, by omega, by omega, eat65, by omega, by omega, eot65, by omega, by omega, eqt65, by omega, by omega, (by obtain ⟨h8, h7, h6⟩ := kt65; have h5 := h8.resolve_left (fun q9 => by omega); rw [h5.2.1]; exact xRR.f1 (by rw [← k5]; omega) h5.2.2)⟩⟩ (Nat.le_refl _) (Nat.le_refl _)
    · refine X_iconst hK dX7_readOne_17 ?_
      refine X_goto hK 22 dX7_readOne_18 (by decide) ?_
      refine X_istore hK (i := 4) [(4, .int (iI 1)), (3, .int (iI z4)), (0, .ref a0), (1, .ref a1), (2, .int (iI x2))] dX7_readOne_22 (by decide) rfl ?_
      refine X_iload hK (i := 4) 0 dX7_readOne_24 rfl ?_
      refine X_if_ne hK 49 (by omega) dX7_readOne_26 (by decide) (fun c66 => ?_) (fun c66 => False.elim (by omega))
      refine X_aloadn hK (i := 0) 2 dX7_readOne_49 rfl rfl ?_
      refine X_getK hK fl_X7_22_8 hs_a0 eno dX7_readOne_50 ?_
      refine X_bipush hK dX7_readOne_53 (by decide) ?_
      refine X_icmp_ge hK 64 (by omega) (by omega) dX7_readOne_55 (by decide) (fun c67 => ?_) (fun c67 => ?_)
      · refine X_aloadn hK (i := 0) 2 dX7_readOne_64 rfl rfl ?_
        refine X_iconst hK dX7_readOne_65 ?_
        refine X_callV hK [.int (iI 4)] [] lk_X7_60 (c3_tell _ _ _ _ _ S g a0 4 na no nf nq wt wp tk tl cn hs_a0 (by omega) (by omega) ena (by omega) eno (by omega) enf (by omega) enq ewt hs_wt ewp hs_wp hp0 (by omega) (by omega)) hs_a0 ⟨by decide, rfl⟩ dX7_readOne_66 rfl rfl (by simp [Value.category]) (by decide) (by decide) (by decide) (by decide) (fun r68 S70 g69 pr68 qr68 hg69 => ?_)
        obtain ⟨rfl, rfl, k71⟩ := pr68
        refine X_st [] rfl ?_
        obtain ⟨Ft72, at72, ot72, qt72, eFt72, lFt72, uFt72, eat72, lat72, uat72, eot72, lot72, uot72, eqt72, lqt72, uqt72, kt72⟩ := k71
        have cat72 : at72 ≤ 300 := by have h9 := (show xTB (xv g69 wt) (xv g69 wp) tk tl cn from (by rw [(xv_m hg69 hs_wt (by decide) (by decide)), (xv_m hg69 hs_wp (by decide) (by decide))]; exact hp0)).2.2.2; omega
        refine X_goto hK 148 dX7_readOne_69 (by decide) ?_
        exact hret _ _ _ _ _ _ dX7_readOne_148 ⟨rfl, rfl, ⟨Ft72, at72, ot72, qt72, eFt72, by omega, by omega, eat72, by omega, by omega, eot72, by omega, by omega, eqt72, by omega, by omega, (by obtain ⟨h8, h7, h6⟩ := kt72; have h5 := h8.resolve_left (fun q9 => by omega); rw [h5.2.1]; exact xRR.f4 (by rw [← k5]; omega) (by omega) h5.2.2)⟩⟩ (Nat.le_refl _) (Nat.le_refl _)
      · refine X_iloadn hK (i := 2) 4 dX7_readOne_58 rfl rfl ?_
        refine X_bipush hK dX7_readOne_59 (by decide) ?_
        refine X_icmp_le hK 72 (by omega) (by omega) dX7_readOne_61 (by decide) (fun c73 => ?_) (fun c73 => False.elim (by omega))
        refine X_aloadn hK (i := 0) 2 dX7_readOne_72 rfl rfl ?_
        refine X_dup hK dX7_readOne_73 rfl ?_
        refine X_getK hK fl_X7_22_8 hs_a0 eno dX7_readOne_74 ?_
        refine X_iconst hK dX7_readOne_77 ?_
        refine X_iadd hK dX7_readOne_78 ?_
        refine X_puti hK fl_X7_22_8 hs_a0 (by decide) sl_8_3 (by omega) (by omega) dX7_readOne_79 (fun g74 hg74 => ?_)
        refine X_aloadn hK (i := 0) 2 dX7_readOne_82 rfl rfl ?_
        refine X_dup hK dX7_readOne_83 rfl ?_
        have hl75 := xTB.lt (A := xv g74 wt) (B := xv g74 wp) (tk := tk) (tl := tl) (c := cn) (a := na) (by rw [(xv_a hg74 (xne hs_wt hs_a0 (by decide))), (xv_a hg74 (xne hs_wp hs_a0 (by decide)))]; exact hp0) (by omega) (by rw [← k5]; omega)
        refine X_getK hK fl_X7_18_8 hs_a0 ((xs_k hg74 (by decide)).trans ena) dX7_readOne_84 ?_
        refine X_iconst hK dX7_readOne_87 ?_
        refine X_iadd hK dX7_readOne_88 ?_
        refine X_puti hK fl_X7_18_8 hs_a0 (by decide) sl_8_2 (by omega) (by omega) dX7_readOne_89 (fun g76 hg76 => ?_)
        refine X_iload hK (i := 4) 0 dX7_readOne_92 rfl ?_
        refine X_if_eq hK 109 (by omega) dX7_readOne_94 (by decide) (fun c77 => False.elim (by omega)) (fun c77 => ?_)
        refine X_aloadn hK (i := 0) 2 dX7_readOne_97 rfl rfl ?_
        refine X_aloadn hK (i := 1) 3 dX7_readOne_98 rfl rfl ?_
        refine X_iloadn hK (i := 3) 1 dX7_readOne_99 rfl rfl ?_
        refine X_bipush hK dX7_readOne_100 (by decide) ?_
        refine X_isub hK dX7_readOne_102 ?_
        refine X_callV hK [.ref a1, .int (iI (z4 - 10))] [] lk_X7_135 (c3_readFact _ _ _ _ _ S g76 a0 a1 (z4 - 10) (na + 1) (no + 1) nf nq wt wp tk tl cn 2 hs_a0 hs_a1 (by omega) (by omega) (xs_s hg76) (by omega) ((xs_k hg76 (by decide)).trans (xs_s hg74)) (by omega) ((xs_k hg76 (by decide)).trans ((xs_k hg74 (by decide)).trans enf)) (by omega) ((xs_k hg76 (by decide)).trans ((xs_k hg74 (by decide)).trans enq)) ((xs_k hg76 (by decide)).trans ((xs_k hg74 (by decide)).trans ewt)) hs_wt ((xs_k hg76 (by decide)).trans ((xs_k hg74 (by decide)).trans ewp)) hs_wp (by rw [(Eq.trans (xv_a hg76 (xne hs_wt hs_a0 (by decide))) (xv_a hg74 (xne hs_wt hs_a0 (by decide)))), (Eq.trans (xv_a hg76 (xne hs_wp hs_a0 (by decide))) (xv_a hg74 (xne hs_wp hs_a0 (by decide))))]; exact hp0) (by omega) (by omega) (by rw [show (na + 1) - 1 = na by omega, ← k5]; omega) (by omega)) hs_a0 ⟨by decide, rfl⟩ dX7_readOne_103 rfl rfl (by simp [Value.category]) (by decide) (by decide) (by decide) (by decide) (fun r78 S80 g79 pr78 qr78 hg79 => ?_)
        obtain ⟨rfl, rfl, k81⟩ := pr78
        refine X_st [] rfl ?_
        obtain ⟨Ft82, at82, ot82, qt82, eFt82, lFt82, uFt82, eat82, lat82, uat82, eot82, lot82, uot82, eqt82, lqt82, uqt82, kt82⟩ := k81
        have cat82 : at82 ≤ 300 := by have h9 := (show xTB (xv g79 wt) (xv g79 wp) tk tl cn from (by rw [(Eq.trans (Eq.trans (xv_m hg79 hs_wt (by decide) (by decide)) (xv_a hg76 (xne hs_wt hs_a0 (by decide)))) (xv_a hg74 (xne hs_wt hs_a0 (by decide)))), (Eq.trans (Eq.trans (xv_m hg79 hs_wp (by decide) (by decide)) (xv_a hg76 (xne hs_wp hs_a0 (by decide)))) (xv_a hg74 (xne hs_wp hs_a0 (by decide))))]; exact hp0)).2.2.2; omega
        refine X_goto hK 148 dX7_readOne_106 (by decide) ?_
        exact hret _ _ _ _ _ _ dX7_readOne_148 ⟨rfl, rfl, ⟨Ft82, at82, ot82, qt82, eFt82, by omega, by omega, eat82, by omega, by omega, eot82, by omega, by omega, eqt82, by omega, by omega, (by have h9 := kt82; rw [show na + 1 - 1 = na by omega, show no + 1 - 1 = no by omega] at h9; exact h9)⟩⟩ (Nat.le_refl _) (Nat.le_refl _)

set_option maxHeartbeats 4000000 in
set_option maxRecDepth 100000 in
theorem c3_readAll_2 (l : Launch) (D : va_G) (kA : Nat → ClassId) (b0 : Nat) (t0 : Nat → Nat) (S : xT) (g : xG) (a0 : Nat) (a1 : Nat) (x2 : Int) (na : Int) (no : Int) (nf : Int) (nq : Int) (wt : Nat) (wp : Nat) (tk : Int → Int) (tl : Int → Int) (cn : Int) (hs_a0 : S a0 = some (8, 0)) (hs_a1 : S a1 = some (11, 0)) (hx2 : 2 ≤ x2 ∧ x2 ≤ 2) (hna : 0 ≤ na ∧ na ≤ 300) (ena : g a0 2 = .int (iI na)) (hno : 0 ≤ no ∧ no ≤ 50) (eno : g a0 3 = .int (iI no)) (hnf : 0 ≤ nf ∧ nf ≤ 0) (enf : g a0 5 = .int (iI nf)) (hnq : 0 ≤ nq ∧ nq ≤ 300) (enq : g a0 6 = .int (iI nq)) (ewt : g a0 0 = .ref wt) (hs_wt : S wt = some (12900, 301)) (ewp : g a0 1 = .ref wp) (hs_wp : S wp = some (13000, 301)) (hp0 : xTB (xv g wt) (xv g wp) tk tl cn) (hp1 : na ≤ cn) (hp2 : cn ≤ 300) : xMt l yX7_readAll cX7_readAll 4 none 29 0 0 675 D kA b0 t0 [(8, 5), (8, 6), (8, 3), (8, 2), (14000, 0), (11, 2)] [.ref a0, .ref a1, .int (iI x2)] S g (fun (r : Option Value) (S1 : xT) (g1 : xG) => S = S1 ∧ r = none ∧ (∃ F a o q : Int, g1 a0 5 = .int (iI F) ∧ -2147483648 ≤ F ∧ F ≤ 2147483647 ∧ g1 a0 2 = .int (iI a) ∧ 0 ≤ a ∧ a ≤ cn ∧ g1 a0 3 = .int (iI o) ∧ 0 ≤ o ∧ o ≤ 50 ∧ g1 a0 6 = .int (iI q) ∧ 0 ≤ q ∧ q ≤ 300 ∧ xRR tk tl 1 2 na no F a o q)) := by
  refine xEnterV (by decide) (by simp [lg_sl, Value.category]) [(0, .ref a0), (1, .ref a1), (2, .int (iI x2))] rfl ?_
  intro K E hK hret _ _ _
  refine X_aloadn hK (i := 0) 0 dX7_readAll_0 rfl rfl ?_
  refine X_aloadn hK (i := 1) 1 dX7_readAll_1 rfl rfl ?_
  refine X_iloadn hK (i := 2) 2 dX7_readAll_2 rfl rfl ?_
  refine X_callV hK [.ref a1, .int (iI x2)] [] lk_X7_132 (c3_readOne_2 _ _ _ _ _ S g a0 a1 x2 na no nf nq wt wp tk tl cn hs_a0 hs_a1 (by omega) (by omega) ena (by omega) eno (by omega) enf (by omega) enq ewt hs_wt ewp hs_wp hp0 (by omega) (by omega)) hs_a0 ⟨by decide, rfl⟩ dX7_readAll_3 rfl rfl (by simp [Value.category]) (by decide) (by decide) (by decide) (by decide) (fun r1 S3 g2 pr1 qr1 hg2 => ?_)
  obtain ⟨rfl, rfl, k4⟩ := pr1
  refine X_st [] rfl ?_
  obtain ⟨Ft5, at5, ot5, qt5, eFt5, lFt5, uFt5, eat5, lat5, uat5, eot5, lot5, uot5, eqt5, lqt5, uqt5, kt5⟩ := k4
  have cat5 : at5 ≤ 300 := by have h9 := (show xTB (xv g2 wt) (xv g2 wp) tk tl cn from (by rw [(xv_m hg2 hs_wt (by decide) (by decide)), (xv_m hg2 hs_wp (by decide) (by decide))]; exact hp0)).2.2.2; omega
  refine X_iconst hK dX7_readAll_6 ?_
  refine X_istoren hK (i := 3) [(3, .int (iI 0)), (0, .ref a0), (1, .ref a1), (2, .int (iI x2))] dX7_readAll_7 rfl (by decide) rfl ?_
  have P120 : ∀ (nP120 : Nat) (g98 : xG) (_ : xM [(14000, 0), (11, 2), (8, 5), (8, 6), (8, 3), (8, 2)] S g2 g98) (z97 : Int) (_ : 0 ≤ z97) (_ : z97 ≤ 50) (q99 : Int) (_ : 0 ≤ q99) (_ : q99 ≤ 300) (_ : g98 a0 2 = .int (iI q99)) (q100 : Int) (_ : 0 ≤ q100) (_ : q100 ≤ 50) (_ : g98 a0 3 = .int (iI q100)) (q101 : Int) (_ : (-2147483648) ≤ q101) (_ : q101 ≤ 2147483647) (_ : g98 a0 5 = .int (iI q101)) (q102 : Int) (_ : 0 ≤ q102) (_ : q102 ≤ 300) (_ : g98 a0 6 = .int (iI q102)) (_ : xIn tk tl 1 2 na no q101 q99 q100 q102) (_ : q101 = 0 → no + 1 + z97 ≤ q100) (_ : q99 ≤ cn) (_ : 60 - z97 < (nP120 : Int)), X K E 8 [(3, .int (iI z97)), (0, .ref a0), (1, .ref a1), (2, .int (iI x2))] [] S g98 0 0 := by
    intro nP120
    induction nP120 with
    | zero => intro g98 hg98 z97 lz97 uz97 q99 lq99 uq99 eq99 q100 lq100 uq100 eq100 q101 lq101 uq101 eq101 q102 lq102 uq102 eq102 v121 v122 v123 mP120; exact False.elim (by omega)
    | succ nP120 ihP120 =>
      intro g98 hg98 z97 lz97 uz97 q99 lq99 uq99 eq99 q100 lq100 uq100 eq100 q101 lq101 uq101 eq101 q102 lq102 uq102 eq102 v121 v122 v123 mP120
      refine X_iloadn hK (i := 3) 0 dX7_readAll_8 rfl rfl ?_
      refine X_bipush hK dX7_readAll_9 (by decide) ?_
      refine X_icmp_ge hK 60 (by omega) (by omega) dX7_readAll_11 (by decide) (fun c124 => ?_) (fun c124 => ?_)
      · exact hret _ _ _ _ _ _ dX7_readAll_60 ⟨rfl, rfl, ⟨q101, q99, q100, q102, eq101, by omega, by omega, eq99, by omega, by omega, eq100, by omega, by omega, eq102, by omega, by omega, (xIn.e v121 (fun h9 => False.elim (by have h8 := v122 h9; omega)))⟩⟩ (Nat.le_refl _) (Nat.le_refl _)
      · refine X_aloadn hK (i := 0) 1 dX7_readAll_14 rfl rfl ?_
        refine X_getK hK fl_X7_29_8 hs_a0 eq101 dX7_readAll_15 ?_
        refine X_if_ne hK 60 (by omega) dX7_readAll_18 (by decide) (fun c125 => ?_) (fun c125 => ?_)
        · exact hret _ _ _ _ _ _ dX7_readAll_60 ⟨rfl, rfl, ⟨q101, q99, q100, q102, eq101, by omega, by omega, eq99, by omega, by omega, eq100, by omega, by omega, eq102, by omega, by omega, (xIn.e v121 (fun h9 => False.elim (by have h8 := v122 h9; omega)))⟩⟩ (Nat.le_refl _) (Nat.le_refl _)
        · refine X_aloadn hK (i := 0) 1 dX7_readAll_21 rfl rfl ?_
          refine X_callV hK [] [] lk_X7_47 (c3_now _ _ _ _ _ S g98 a0 q99 wt wp tk tl cn hs_a0 (by omega) eq99 ((hg98 a0 8 0 0 hs_a0 (by decide)).trans ((hg2 a0 8 0 0 hs_a0 (by decide)).trans ewt)) hs_wt ((hg98 a0 8 0 1 hs_a0 (by decide)).trans ((hg2 a0 8 0 1 hs_a0 (by decide)).trans ewp)) hs_wp (by rw [(Eq.trans (xv_m hg98 hs_wt (by decide) (by decide)) (xv_m hg2 hs_wt (by decide) (by decide))), (Eq.trans (xv_m hg98 hs_wp (by decide) (by decide)) (xv_m hg2 hs_wp (by decide) (by decide)))]; exact hp0) (by omega) (by omega)) hs_a0 ⟨by decide, rfl⟩ dX7_readAll_22 rfl rfl (by simp [Value.category]) (by decide) (by decide) (by decide) (by decide) (fun r126 S128 g127 pr126 qr126 hg127 => ?_)
          obtain ⟨rfl, rfl, z129, rfl, lz129, uz129, k130⟩ := pr126
          refine X_st [.int (iI z129)] rfl ?_
          refine X_bipush hK dX7_readAll_25 (by decide) ?_
          refine X_icmp_ne hK 60 (by omega) (by omega) dX7_readAll_27 (by decide) (fun c131 => ?_) (fun c131 => ?_)
          · exact hret _ _ _ _ _ _ dX7_readAll_60 ⟨rfl, rfl, ⟨q101, q99, q100, q102, eq101, by omega, by omega, eq99, by omega, by omega, eq100, by omega, by omega, eq102, by omega, by omega, (xIn.e v121 (fun h9 => Or.inl ⟨rfl, by rw [← k130]; omega⟩))⟩⟩ (Nat.le_refl _) (Nat.le_refl _)
          · refine X_aloadn hK (i := 0) 1 dX7_readAll_30 rfl rfl ?_
            refine X_dup hK dX7_readAll_31 rfl ?_
            have hl132 := xTB.lt (A := xv g98 wt) (B := xv g98 wp) (tk := tk) (tl := tl) (c := cn) (a := q99) (by rw [(Eq.trans (xv_m hg98 hs_wt (by decide) (by decide)) (xv_m hg2 hs_wt (by decide) (by decide))), (Eq.trans (xv_m hg98 hs_wp (by decide) (by decide)) (xv_m hg2 hs_wp (by decide) (by decide)))]; exact hp0) (by omega) (by rw [← k130]; omega)
            refine X_getK hK fl_X7_18_8 hs_a0 eq99 dX7_readAll_32 ?_
            refine X_iconst hK dX7_readAll_35 ?_
            refine X_iadd hK dX7_readAll_36 ?_
            refine X_puti hK fl_X7_18_8 hs_a0 (by decide) sl_8_2 (by omega) (by omega) dX7_readAll_37 (fun g133 hg133 => ?_)
            refine X_aloadn hK (i := 0) 1 dX7_readAll_40 rfl rfl ?_
            refine X_aloadn hK (i := 1) 2 dX7_readAll_41 rfl rfl ?_
            refine X_iloadn hK (i := 2) 3 dX7_readAll_42 rfl rfl ?_
            refine X_callV hK [.ref a1, .int (iI x2)] [] lk_X7_132 (c3_readOne_2 _ _ _ _ _ S g133 a0 a1 x2 (q99 + 1) q100 q101 q102 wt wp tk tl cn hs_a0 hs_a1 (by omega) (by omega) (xs_s hg133) (by omega) ((xs_k hg133 (by decide)).trans eq100) (by omega) ((xs_k hg133 (by decide)).trans eq101) (by omega) ((xs_k hg133 (by decide)).trans eq102) ((xs_k hg133 (by decide)).trans ((hg98 a0 8 0 0 hs_a0 (by decide)).trans ((hg2 a0 8 0 0 hs_a0 (by decide)).trans ewt))) hs_wt ((xs_k hg133 (by decide)).trans ((hg98 a0 8 0 1 hs_a0 (by decide)).trans ((hg2 a0 8 0 1 hs_a0 (by decide)).trans ewp))) hs_wp (by rw [(Eq.trans (Eq.trans (xv_a hg133 (xne hs_wt hs_a0 (by decide))) (xv_m hg98 hs_wt (by decide) (by decide))) (xv_m hg2 hs_wt (by decide) (by decide))), (Eq.trans (Eq.trans (xv_a hg133 (xne hs_wp hs_a0 (by decide))) (xv_m hg98 hs_wp (by decide) (by decide))) (xv_m hg2 hs_wp (by decide) (by decide)))]; exact hp0) (by omega) (by omega)) hs_a0 ⟨by decide, rfl⟩ dX7_readAll_43 rfl rfl (by simp [Value.category]) (by decide) (by decide) (by decide) (by decide) (fun r134 S136 g135 pr134 qr134 hg135 => ?_)
            obtain ⟨rfl, rfl, k137⟩ := pr134
            refine X_st [] rfl ?_
            obtain ⟨Ft138, at138, ot138, qt138, eFt138, lFt138, uFt138, eat138, lat138, uat138, eot138, lot138, uot138, eqt138, lqt138, uqt138, kt138⟩ := k137
            have cat138 : at138 ≤ 300 := by have h9 := (show xTB (xv g135 wt) (xv g135 wp) tk tl cn from (by rw [(Eq.trans (Eq.trans (Eq.trans (xv_m hg135 hs_wt (by decide) (by decide)) (xv_a hg133 (xne hs_wt hs_a0 (by decide)))) (xv_m hg98 hs_wt (by decide) (by decide))) (xv_m hg2 hs_wt (by decide) (by decide))), (Eq.trans (Eq.trans (Eq.trans (xv_m hg135 hs_wp (by decide) (by decide)) (xv_a hg133 (xne hs_wp hs_a0 (by decide)))) (xv_m hg98 hs_wp (by decide) (by decide))) (xv_m hg2 hs_wp (by decide) (by decide)))]; exact hp0)).2.2.2; omega
            refine X_aloadn hK (i := 1) 2 dX7_readAll_46 rfl rfl ?_
            refine X_bipush hK dX7_readAll_47 (by decide) ?_
            refine X_iconst hK dX7_readAll_49 ?_
            refine X_iconst hK dX7_readAll_50 ?_
            refine X_callV hK [.int (iI 13), .int (iI 0), .int (iI 0)] [] lk_X7_129 (c_X10_addStep _ _ _ _ _ S g135 a1 13 0 0 hs_a1 (by omega) (by omega) (by omega)) hs_a1 ⟨by decide, rfl⟩ dX7_readAll_51 rfl rfl (by simp [Value.category]) (by decide) (by decide) (by decide) (by decide) (fun r139 S141 g140 pr139 qr139 hg140 => ?_)
            obtain ⟨rfl, rfl⟩ := pr139
            refine X_st [] rfl ?_
            refine X_iinc hK (i := 3) (z := z97) (n := 1) 0 [(3, .int (iI (z97 + 1))), (0, .ref a0), (1, .ref a1), (2, .int (iI x2))] dX7_readAll_54 rfl (by decide) rfl ?_
            refine X_goto hK 8 dX7_readAll_57 (by decide) ?_
            exact ihP120  g140 (xM.tr (xM.tr (xM_up (xM.tr xM.rf xLe.rf hg98 (by decide)) hg133 hs_a0 (by decide) (by decide)) xLe.rf hg135 (by decide)) xLe.rf hg140 (by decide)) (z97 + 1) (by omega) (by omega) at138 (by omega) (by omega) ((hg140 a0 8 0 2 hs_a0 (by decide)).trans eat138) ot138 (by omega) (by omega) ((hg140 a0 8 0 3 hs_a0 (by decide)).trans eot138) Ft138 (by omega) (by omega) ((hg140 a0 8 0 5 hs_a0 (by decide)).trans eFt138) qt138 (by omega) (by omega) ((hg140 a0 8 0 6 hs_a0 (by decide)).trans eqt138) (xIn.s (Or.inl ⟨rfl, rfl, (by rw [← k130]; omega)⟩) v121 (by omega) kt138) (fun h9 => by have h8 := xRR.b kt138 h9; omega) (by omega) (by omega)
  exact P120 ((60 - 0 : Int).toNat + 1) g2 xM.rf 0 (by omega) (by omega) at5 (by omega) (by omega) eat5 ot5 (by omega) (by omega) eot5 Ft5 (by omega) (by omega) eFt5 qt5 (by omega) (by omega) eqt5 (xIn.z (Or.inl ⟨rfl, rfl⟩) kt5) (fun h9 => by have h8 := xRR.b kt5 h9; omega) (by omega) (by omega)

set_option maxHeartbeats 4000000 in
set_option maxRecDepth 100000 in
theorem c3_readCond_2 (l : Launch) (D : va_G) (kA : Nat → ClassId) (b0 : Nat) (t0 : Nat → Nat) (S : xT) (g : xG) (a0 : Nat) (a1 : Nat) (x2 : Int) (na : Int) (no : Int) (nf : Int) (nq : Int) (wt : Nat) (wp : Nat) (tk : Int → Int) (tl : Int → Int) (cn : Int) (hs_a0 : S a0 = some (8, 0)) (hs_a1 : S a1 = some (11, 0)) (hx2 : 2 ≤ x2 ∧ x2 ≤ 2) (hna : 0 ≤ na ∧ na ≤ 300) (ena : g a0 2 = .int (iI na)) (hno : 0 ≤ no ∧ no ≤ 50) (eno : g a0 3 = .int (iI no)) (hnf : 0 ≤ nf ∧ nf ≤ 0) (enf : g a0 5 = .int (iI nf)) (hnq : 0 ≤ nq ∧ nq ≤ 300) (enq : g a0 6 = .int (iI nq)) (ewt : g a0 0 = .ref wt) (hs_wt : S wt = some (12900, 301)) (ewp : g a0 1 = .ref wp) (hs_wp : S wp = some (13000, 301)) (hp0 : xTB (xv g wt) (xv g wp) tk tl cn) (hp1 : na ≤ cn) (hp2 : cn ≤ 300) : xMt l yX7_readCond cX7_readCond 4 none 30 0 0 698 D kA b0 t0 [(8, 5), (8, 6), (8, 3), (8, 2), (14000, 0), (11, 2)] [.ref a0, .ref a1, .int (iI x2)] S g (fun (r : Option Value) (S1 : xT) (g1 : xG) => S = S1 ∧ r = none ∧ (∃ F a o q : Int, g1 a0 5 = .int (iI F) ∧ -2147483648 ≤ F ∧ F ≤ 2147483647 ∧ g1 a0 2 = .int (iI a) ∧ 0 ≤ a ∧ a ≤ cn ∧ g1 a0 3 = .int (iI o) ∧ 0 ≤ o ∧ o ≤ 50 ∧ g1 a0 6 = .int (iI q) ∧ 0 ≤ q ∧ q ≤ 300 ∧ xRR tk tl 2 2 na no F a o q)) := by
  refine xEnterV (by decide) (by simp [lg_sl, Value.category]) [(0, .ref a0), (1, .ref a1), (2, .int (iI x2))] rfl ?_
  intro K E hK hret _ _ _
  refine X_aloadn hK (i := 0) 0 dX7_readCond_0 rfl rfl ?_
  refine X_aloadn hK (i := 1) 1 dX7_readCond_1 rfl rfl ?_
  refine X_iloadn hK (i := 2) 2 dX7_readCond_2 rfl rfl ?_
  refine X_callV hK [.ref a1, .int (iI x2)] [] lk_X7_126 (c3_readAll_2 _ _ _ _ _ S g a0 a1 x2 na no nf nq wt wp tk tl cn hs_a0 hs_a1 (by omega) (by omega) ena (by omega) eno (by omega) enf (by omega) enq ewt hs_wt ewp hs_wp hp0 (by omega) (by omega)) hs_a0 ⟨by decide, rfl⟩ dX7_readCond_3 rfl rfl (by simp [Value.category]) (by decide) (by decide) (by decide) (by decide) (fun r1 S3 g2 pr1 qr1 hg2 => ?_)
  obtain ⟨rfl, rfl, k4⟩ := pr1
  refine X_st [] rfl ?_
  obtain ⟨Ft5, at5, ot5, qt5, eFt5, lFt5, uFt5, eat5, lat5, uat5, eot5, lot5, uot5, eqt5, lqt5, uqt5, kt5⟩ := k4
  have cat5 : at5 ≤ 300 := by have h9 := (show xTB (xv g2 wt) (xv g2 wp) tk tl cn from (by rw [(xv_m hg2 hs_wt (by decide) (by decide)), (xv_m hg2 hs_wp (by decide) (by decide))]; exact hp0)).2.2.2; omega
  refine X_iconst hK dX7_readCond_6 ?_
  refine X_istoren hK (i := 3) [(3, .int (iI 0)), (0, .ref a0), (1, .ref a1), (2, .int (iI x2))] dX7_readCond_7 rfl (by decide) rfl ?_
  have P120 : ∀ (nP120 : Nat) (g98 : xG) (_ : xM [(14000, 0), (11, 2), (8, 5), (8, 6), (8, 3), (8, 2)] S g2 g98) (z97 : Int) (_ : 0 ≤ z97) (_ : z97 ≤ 50) (q99 : Int) (_ : 0 ≤ q99) (_ : q99 ≤ 300) (_ : g98 a0 2 = .int (iI q99)) (q100 : Int) (_ : 0 ≤ q100) (_ : q100 ≤ 50) (_ : g98 a0 3 = .int (iI q100)) (q101 : Int) (_ : (-2147483648) ≤ q101) (_ : q101 ≤ 2147483647) (_ : g98 a0 5 = .int (iI q101)) (q102 : Int) (_ : 0 ≤ q102) (_ : q102 ≤ 300) (_ : g98 a0 6 = .int (iI q102)) (_ : xIn tk tl 2 2 na no q101 q99 q100 q102) (_ : q101 = 0 → no + 1 + z97 ≤ q100) (_ : q99 ≤ cn) (_ : 60 - z97 < (nP120 : Int)), X K E 8 [(3, .int (iI z97)), (0, .ref a0), (1, .ref a1), (2, .int (iI x2))] [] S g98 0 0 := by
    intro nP120
    induction nP120 with
    | zero => intro g98 hg98 z97 lz97 uz97 q99 lq99 uq99 eq99 q100 lq100 uq100 eq100 q101 lq101 uq101 eq101 q102 lq102 uq102 eq102 v121 v122 v123 mP120; exact False.elim (by omega)
    | succ nP120 ihP120 =>
      intro g98 hg98 z97 lz97 uz97 q99 lq99 uq99 eq99 q100 lq100 uq100 eq100 q101 lq101 uq101 eq101 q102 lq102 uq102 eq102 v121 v122 v123 mP120
      refine X_iloadn hK (i := 3) 0 dX7_readCond_8 rfl rfl ?_
      refine X_bipush hK dX7_readCond_9 (by decide) ?_
      refine X_icmp_ge hK 60 (by omega) (by omega) dX7_readCond_11 (by decide) (fun c124 => ?_) (fun c124 => ?_)
      · exact hret _ _ _ _ _ _ dX7_readCond_60 ⟨rfl, rfl, ⟨q101, q99, q100, q102, eq101, by omega, by omega, eq99, by omega, by omega, eq100, by omega, by omega, eq102, by omega, by omega, (xIn.e v121 (fun h9 => False.elim (by have h8 := v122 h9; omega)))⟩⟩ (Nat.le_refl _) (Nat.le_refl _)
      · refine X_aloadn hK (i := 0) 1 dX7_readCond_14 rfl rfl ?_
        refine X_getK hK fl_X7_29_8 hs_a0 eq101 dX7_readCond_15 ?_
        refine X_if_ne hK 60 (by omega) dX7_readCond_18 (by decide) (fun c125 => ?_) (fun c125 => ?_)
        · exact hret _ _ _ _ _ _ dX7_readCond_60 ⟨rfl, rfl, ⟨q101, q99, q100, q102, eq101, by omega, by omega, eq99, by omega, by omega, eq100, by omega, by omega, eq102, by omega, by omega, (xIn.e v121 (fun h9 => False.elim (by have h8 := v122 h9; omega)))⟩⟩ (Nat.le_refl _) (Nat.le_refl _)
        · refine X_aloadn hK (i := 0) 1 dX7_readCond_21 rfl rfl ?_
          refine X_callV hK [] [] lk_X7_47 (c3_now _ _ _ _ _ S g98 a0 q99 wt wp tk tl cn hs_a0 (by omega) eq99 ((hg98 a0 8 0 0 hs_a0 (by decide)).trans ((hg2 a0 8 0 0 hs_a0 (by decide)).trans ewt)) hs_wt ((hg98 a0 8 0 1 hs_a0 (by decide)).trans ((hg2 a0 8 0 1 hs_a0 (by decide)).trans ewp)) hs_wp (by rw [(Eq.trans (xv_m hg98 hs_wt (by decide) (by decide)) (xv_m hg2 hs_wt (by decide) (by decide))), (Eq.trans (xv_m hg98 hs_wp (by decide) (by decide)) (xv_m hg2 hs_wp (by decide) (by decide)))]; exact hp0) (by omega) (by omega)) hs_a0 ⟨by decide, rfl⟩ dX7_readCond_22 rfl rfl (by simp [Value.category]) (by decide) (by decide) (by decide) (by decide) (fun r126 S128 g127 pr126 qr126 hg127 => ?_)
          obtain ⟨rfl, rfl, z129, rfl, lz129, uz129, k130⟩ := pr126
          refine X_st [.int (iI z129)] rfl ?_
          refine X_bipush hK dX7_readCond_25 (by decide) ?_
          refine X_icmp_ne hK 60 (by omega) (by omega) dX7_readCond_27 (by decide) (fun c131 => ?_) (fun c131 => ?_)
          · exact hret _ _ _ _ _ _ dX7_readCond_60 ⟨rfl, rfl, ⟨q101, q99, q100, q102, eq101, by omega, by omega, eq99, by omega, by omega, eq100, by omega, by omega, eq102, by omega, by omega, (xIn.e v121 (fun h9 => Or.inr ⟨rfl, by rw [← k130]; omega⟩))⟩⟩ (Nat.le_refl _) (Nat.le_refl _)
          · refine X_aloadn hK (i := 0) 1 dX7_readCond_30 rfl rfl ?_
            refine X_dup hK dX7_readCond_31 rfl ?_
            have hl132 := xTB.lt (A := xv g98 wt) (B := xv g98 wp) (tk := tk) (tl := tl) (c := cn) (a := q99) (by rw [(Eq.trans (xv_m hg98 hs_wt (by decide) (by decide)) (xv_m hg2 hs_wt (by decide) (by decide))), (Eq.trans (xv_m hg98 hs_wp (by decide) (by decide)) (xv_m hg2 hs_wp (by decide) (by decide)))]; exact hp0) (by omega) (by rw [← k130]; omega)
            refine X_getK hK fl_X7_18_8 hs_a0 eq99 dX7_readCond_32 ?_
            refine X_iconst hK dX7_readCond_35 ?_
            refine X_iadd hK dX7_readCond_36 ?_
            refine X_puti hK fl_X7_18_8 hs_a0 (by decide) sl_8_2 (by omega) (by omega) dX7_readCond_37 (fun g133 hg133 => ?_)
            refine X_aloadn hK (i := 0) 1 dX7_readCond_40 rfl rfl ?_
            refine X_aloadn hK (i := 1) 2 dX7_readCond_41 rfl rfl ?_
            refine X_iloadn hK (i := 2) 3 dX7_readCond_42 rfl rfl ?_
            refine X_callV hK [.ref a1, .int (iI x2)] [] lk_X7_126 (c3_readAll_2 _ _ _ _ _ S g133 a0 a1 x2 (q99 + 1) q100 q101 q102 wt wp tk tl cn hs_a0 hs_a1 (by omega) (by omega) (xs_s hg133) (by omega) ((xs_k hg133 (by decide)).trans eq100) (by omega) ((xs_k hg133 (by decide)).trans eq101) (by omega) ((xs_k hg133 (by decide)).trans eq102) ((xs_k hg133 (by decide)).trans ((hg98 a0 8 0 0 hs_a0 (by decide)).trans ((hg2 a0 8 0 0 hs_a0 (by decide)).trans ewt))) hs_wt ((xs_k hg133 (by decide)).trans ((hg98 a0 8 0 1 hs_a0 (by decide)).trans ((hg2 a0 8 0 1 hs_a0 (by decide)).trans ewp))) hs_wp (by rw [(Eq.trans (Eq.trans (xv_a hg133 (xne hs_wt hs_a0 (by decide))) (xv_m hg98 hs_wt (by decide) (by decide))) (xv_m hg2 hs_wt (by decide) (by decide))), (Eq.trans (Eq.trans (xv_a hg133 (xne hs_wp hs_a0 (by decide))) (xv_m hg98 hs_wp (by decide) (by decide))) (xv_m hg2 hs_wp (by decide) (by decide)))]; exact hp0) (by omega) (by omega)) hs_a0 ⟨by decide, rfl⟩ dX7_readCond_43 rfl rfl (by simp [Value.category]) (by decide) (by decide) (by decide) (by decide) (fun r134 S136 g135 pr134 qr134 hg135 => ?_)
            obtain ⟨rfl, rfl, k137⟩ := pr134
            refine X_st [] rfl ?_
            obtain ⟨Ft138, at138, ot138, qt138, eFt138, lFt138, uFt138, eat138, lat138, uat138, eot138, lot138, uot138, eqt138, lqt138, uqt138, kt138⟩ := k137
            have cat138 : at138 ≤ 300 := by have h9 := (show xTB (xv g135 wt) (xv g135 wp) tk tl cn from (by rw [(Eq.trans (Eq.trans (Eq.trans (xv_m hg135 hs_wt (by decide) (by decide)) (xv_a hg133 (xne hs_wt hs_a0 (by decide)))) (xv_m hg98 hs_wt (by decide) (by decide))) (xv_m hg2 hs_wt (by decide) (by decide))), (Eq.trans (Eq.trans (Eq.trans (xv_m hg135 hs_wp (by decide) (by decide)) (xv_a hg133 (xne hs_wp hs_a0 (by decide)))) (xv_m hg98 hs_wp (by decide) (by decide))) (xv_m hg2 hs_wp (by decide) (by decide)))]; exact hp0)).2.2.2; omega
            refine X_aloadn hK (i := 1) 2 dX7_readCond_46 rfl rfl ?_
            refine X_bipush hK dX7_readCond_47 (by decide) ?_
            refine X_iconst hK dX7_readCond_49 ?_
            refine X_iconst hK dX7_readCond_50 ?_
            refine X_callV hK [.int (iI 14), .int (iI 0), .int (iI 0)] [] lk_X7_129 (c_X10_addStep _ _ _ _ _ S g135 a1 14 0 0 hs_a1 (by omega) (by omega) (by omega)) hs_a1 ⟨by decide, rfl⟩ dX7_readCond_51 rfl rfl (by simp [Value.category]) (by decide) (by decide) (by decide) (by decide) (fun r139 S141 g140 pr139 qr139 hg140 => ?_)
            obtain ⟨rfl, rfl⟩ := pr139
            refine X_st [] rfl ?_
            refine X_iinc hK (i := 3) (z := z97) (n := 1) 0 [(3, .int (iI (z97 + 1))), (0, .ref a0), (1, .ref a1), (2, .int (iI x2))] dX7_readCond_54 rfl (by decide) rfl ?_
            refine X_goto hK 8 dX7_readCond_57 (by decide) ?_
            exact ihP120  g140 (xM.tr (xM.tr (xM_up (xM.tr xM.rf xLe.rf hg98 (by decide)) hg133 hs_a0 (by decide) (by decide)) xLe.rf hg135 (by decide)) xLe.rf hg140 (by decide)) (z97 + 1) (by omega) (by omega) at138 (by omega) (by omega) ((hg140 a0 8 0 2 hs_a0 (by decide)).trans eat138) ot138 (by omega) (by omega) ((hg140 a0 8 0 3 hs_a0 (by decide)).trans eot138) Ft138 (by omega) (by omega) ((hg140 a0 8 0 5 hs_a0 (by decide)).trans eFt138) qt138 (by omega) (by omega) ((hg140 a0 8 0 6 hs_a0 (by decide)).trans eqt138) (xIn.s (Or.inr ⟨rfl, rfl, (by rw [← k130]; omega)⟩) v121 (by omega) kt138) (fun h9 => by have h8 := xRR.b1 kt138 h9; omega) (by omega) (by omega)
  exact P120 ((60 - 0 : Int).toNat + 1) g2 xM.rf 0 (by omega) (by omega) at5 (by omega) (by omega) eat5 ot5 (by omega) (by omega) eot5 Ft5 (by omega) (by omega) eFt5 qt5 (by omega) (by omega) eqt5 (xIn.z (Or.inr ⟨rfl, rfl⟩) kt5) (fun h9 => by have h8 := xRR.b1 kt5 h9; omega) (by omega) (by omega)

set_option maxHeartbeats 4000000 in
set_option maxRecDepth 100000 in
theorem c3_readOne_1 (l : Launch) (D : va_G) (kA : Nat → ClassId) (b0 : Nat) (t0 : Nat → Nat) (S : xT) (g : xG) (a0 : Nat) (a1 : Nat) (x2 : Int) (na : Int) (no : Int) (nf : Int) (nq : Int) (wt : Nat) (wp : Nat) (tk : Int → Int) (tl : Int → Int) (cn : Int) (hs_a0 : S a0 = some (8, 0)) (hs_a1 : S a1 = some (11, 0)) (hx2 : 1 ≤ x2 ∧ x2 ≤ 1) (hna : 0 ≤ na ∧ na ≤ 300) (ena : g a0 2 = .int (iI na)) (hno : 0 ≤ no ∧ no ≤ 50) (eno : g a0 3 = .int (iI no)) (hnf : 0 ≤ nf ∧ nf ≤ 0) (enf : g a0 5 = .int (iI nf)) (hnq : 0 ≤ nq ∧ nq ≤ 300) (enq : g a0 6 = .int (iI nq)) (ewt : g a0 0 = .ref wt) (hs_wt : S wt = some (12900, 301)) (ewp : g a0 1 = .ref wp) (hs_wp : S wp = some (13000, 301)) (hp0 : xTB (xv g wt) (xv g wp) tk tl cn) (hp1 : na ≤ cn) (hp2 : cn ≤ 300) : xMt l yX7_readOne cX7_readOne 5 none 31 0 0 721 D kA b0 t0 [(8, 5), (8, 6), (8, 3), (8, 2), (14000, 0), (11, 2)] [.ref a0, .ref a1, .int (iI x2)] S g (fun (r : Option Value) (S1 : xT) (g1 : xG) => S = S1 ∧ r = none ∧ (∃ F a o q : Int, g1 a0 5 = .int (iI F) ∧ -2147483648 ≤ F ∧ F ≤ 2147483647 ∧ g1 a0 2 = .int (iI a) ∧ 0 ≤ a ∧ a ≤ cn ∧ g1 a0 3 = .int (iI o) ∧ 0 ≤ o ∧ o ≤ 50 ∧ g1 a0 6 = .int (iI q) ∧ 0 ≤ q ∧ q ≤ 300 ∧ xRR tk tl 0 1 na no F a o q)) := by
  refine xEnterV (by decide) (by simp [lg_sl, Value.category]) [(0, .ref a0), (1, .ref a1), (2, .int (iI x2))] rfl ?_
  intro K E hK hret _ _ _
  refine X_aloadn hK (i := 0) 0 dX7_readOne_0 rfl rfl ?_
  refine X_callV hK [] [] lk_X7_47 (c3_now _ _ _ _ _ S g a0 na wt wp tk tl cn hs_a0 (by omega) ena ewt hs_wt ewp hs_wp hp0 (by omega) (by omega)) hs_a0 ⟨by decide, rfl⟩ dX7_readOne_1 rfl rfl (by simp [Value.category]) (by decide) (by decide) (by decide) (by decide) (fun r1 S3 g2 pr1 qr1 hg2 => ?_)
  obtain ⟨rfl, rfl, z4, rfl, lz4, uz4, k5⟩ := pr1
  refine X_st [.int (iI z4)] rfl ?_
  refine X_istoren hK (i := 3) [(3, .int (iI z4)), (0, .ref a0), (1, .ref a1), (2, .int (iI x2))] dX7_readOne_4 rfl (by decide) rfl ?_
  refine X_iloadn hK (i := 3) 0 dX7_readOne_5 rfl rfl ?_
  refine X_bipush hK dX7_readOne_6 (by decide) ?_
  refine X_icmp_lt hK 21 (by omega) (by omega) dX7_readOne_8 (by decide) (fun c6 => ?_) (fun c6 => ?_)
  · refine X_iconst hK dX7_readOne_21 ?_
    refine X_istore hK (i := 4) [(4, .int (iI 0)), (3, .int (iI z4)), (0, .ref a0), (1, .ref a1), (2, .int (iI x2))] dX7_readOne_22 (by decide) rfl ?_
    refine X_iload hK (i := 4) 0 dX7_readOne_24 rfl ?_
    refine X_if_ne hK 49 (by omega) dX7_readOne_26 (by decide) (fun c7 => False.elim (by omega)) (fun c7 => ?_)
    refine X_iloadn hK (i := 3) 1 dX7_readOne_29 rfl rfl ?_
    refine X_bipush hK dX7_readOne_30 (by decide) ?_
    refine X_icmp_eq hK 49 (by omega) (by omega) dX7_readOne_32 (by decide) (fun c8 => ?_) (fun c8 => ?_)
    · refine X_aloadn hK (i := 0) 2 dX7_readOne_49 rfl rfl ?_
      refine X_getK hK fl_X7_22_8 hs_a0 eno dX7_readOne_50 ?_
      refine X_bipush hK dX7_readOne_53 (by decide) ?_
      refine X_icmp_ge hK 64 (by omega) (by omega) dX7_readOne_55 (by decide) (fun c9 => ?_) (fun c9 => ?_)
      · refine X_aloadn hK (i := 0) 2 dX7_readOne_64 rfl rfl ?_
        refine X_iconst hK dX7_readOne_65 ?_
        refine X_callV hK [.int (iI 4)] [] lk_X7_60 (c3_tell _ _ _ _ _ S g a0 4 na no nf nq wt wp tk tl cn hs_a0 (by omega) (by omega) ena (by omega) eno (by omega) enf (by omega) enq ewt hs_wt ewp hs_wp hp0 (by omega) (by omega)) hs_a0 ⟨by decide, rfl⟩ dX7_readOne_66 rfl rfl (by simp [Value.category]) (by decide) (by decide) (by decide) (by decide) (fun r10 S12 g11 pr10 qr10 hg11 => ?_)
        obtain ⟨rfl, rfl, k13⟩ := pr10
        refine X_st [] rfl ?_
        obtain ⟨Ft14, at14, ot14, qt14, eFt14, lFt14, uFt14, eat14, lat14, uat14, eot14, lot14, uot14, eqt14, lqt14, uqt14, kt14⟩ := k13
        have cat14 : at14 ≤ 300 := by have h9 := (show xTB (xv g11 wt) (xv g11 wp) tk tl cn from (by rw [(xv_m hg11 hs_wt (by decide) (by decide)), (xv_m hg11 hs_wp (by decide) (by decide))]; exact hp0)).2.2.2; omega
        refine X_goto hK 148 dX7_readOne_69 (by decide) ?_
        exact hret _ _ _ _ _ _ dX7_readOne_148 ⟨rfl, rfl, ⟨Ft14, at14, ot14, qt14, eFt14, by omega, by omega, eat14, by omega, by omega, eot14, by omega, by omega, eqt14, by omega, by omega, (by obtain ⟨h8, h7, h6⟩ := kt14; have h5 := h8.resolve_left (fun q9 => by omega); rw [h5.2.1]; exact xRR.f4 (by rw [← k5]; omega) (by omega) h5.2.2)⟩⟩ (Nat.le_refl _) (Nat.le_refl _)
      · refine X_iloadn hK (i := 2) 4 dX7_readOne_58 rfl rfl ?_
        refine X_bipush hK dX7_readOne_59 (by decide) ?_
        refine X_icmp_le hK 72 (by omega) (by omega) dX7_readOne_61 (by decide) (fun c15 => ?_) (fun c15 => False.elim (by omega))
        refine X_aloadn hK (i := 0) 2 dX7_readOne_72 rfl rfl ?_
        refine X_dup hK dX7_readOne_73 rfl ?_
        refine X_getK hK fl_X7_22_8 hs_a0 eno dX7_readOne_74 ?_
        refine X_iconst hK dX7_readOne_77 ?_
        refine X_iadd hK dX7_readOne_78 ?_
        refine X_puti hK fl_X7_22_8 hs_a0 (by decide) sl_8_3 (by omega) (by omega) dX7_readOne_79 (fun g16 hg16 => ?_)
        refine X_aloadn hK (i := 0) 2 dX7_readOne_82 rfl rfl ?_
        refine X_dup hK dX7_readOne_83 rfl ?_
        have hl17 := xTB.lt (A := xv g16 wt) (B := xv g16 wp) (tk := tk) (tl := tl) (c := cn) (a := na) (by rw [(xv_a hg16 (xne hs_wt hs_a0 (by decide))), (xv_a hg16 (xne hs_wp hs_a0 (by decide)))]; exact hp0) (by omega) (by rw [← k5]; omega)
        refine X_getK hK fl_X7_18_8 hs_a0 ((xs_k hg16 (by decide)).trans ena) dX7_readOne_84 ?_
        refine X_iconst hK dX7_readOne_87 ?_
        refine X_iadd hK dX7_readOne_88 ?_
        refine X_puti hK fl_X7_18_8 hs_a0 (by decide) sl_8_2 (by omega) (by omega) dX7_readOne_89 (fun g18 hg18 => ?_)
        refine X_iload hK (i := 4) 0 dX7_readOne_92 rfl ?_
        refine X_if_eq hK 109 (by omega) dX7_readOne_94 (by decide) (fun c19 => ?_) (fun c19 => False.elim (by omega))
        refine X_iloadn hK (i := 3) 1 dX7_readOne_109 rfl rfl ?_
        refine X_bipush hK dX7_readOne_110 (by decide) ?_
        refine X_icmp_ne hK 132 (by omega) (by omega) dX7_readOne_112 (by decide) (fun c20 => ?_) (fun c20 => False.elim (by omega))
        refine X_aloadn hK (i := 0) 2 dX7_readOne_132 rfl rfl ?_
        refine X_aloadn hK (i := 1) 3 dX7_readOne_133 rfl rfl ?_
        refine X_iloadn hK (i := 2) 4 dX7_readOne_134 rfl rfl ?_
        refine X_iconst hK dX7_readOne_135 ?_
        refine X_iadd hK dX7_readOne_136 ?_
        refine X_callV hK [.ref a1, .int (iI (x2 + 1))] [] lk_X7_132 (c3_readOne_2 _ _ _ _ _ S g18 a0 a1 (x2 + 1) (na + 1) (no + 1) nf nq wt wp tk tl cn hs_a0 hs_a1 (by omega) (by omega) (xs_s hg18) (by omega) ((xs_k hg18 (by decide)).trans (xs_s hg16)) (by omega) ((xs_k hg18 (by decide)).trans ((xs_k hg16 (by decide)).trans enf)) (by omega) ((xs_k hg18 (by decide)).trans ((xs_k hg16 (by decide)).trans enq)) ((xs_k hg18 (by decide)).trans ((xs_k hg16 (by decide)).trans ewt)) hs_wt ((xs_k hg18 (by decide)).trans ((xs_k hg16 (by decide)).trans ewp)) hs_wp (by rw [(Eq.trans (xv_a hg18 (xne hs_wt hs_a0 (by decide))) (xv_a hg16 (xne hs_wt hs_a0 (by decide)))), (Eq.trans (xv_a hg18 (xne hs_wp hs_a0 (by decide))) (xv_a hg16 (xne hs_wp hs_a0 (by decide))))]; exact hp0) (by omega) (by omega)) hs_a0 ⟨by decide, rfl⟩ dX7_readOne_137 rfl rfl (by simp [Value.category]) (by decide) (by decide) (by decide) (by decide) (fun r21 S23 g22 pr21 qr21 hg22 => ?_)
        obtain ⟨rfl, rfl, k24⟩ := pr21
        refine X_st [] rfl ?_
        obtain ⟨Ft25, at25, ot25, qt25, eFt25, lFt25, uFt25, eat25, lat25, uat25, eot25, lot25, uot25, eqt25, lqt25, uqt25, kt25⟩ := k24
        have cat25 : at25 ≤ 300 := by have h9 := (show xTB (xv g22 wt) (xv g22 wp) tk tl cn from (by rw [(Eq.trans (Eq.trans (xv_m hg22 hs_wt (by decide) (by decide)) (xv_a hg18 (xne hs_wt hs_a0 (by decide)))) (xv_a hg16 (xne hs_wt hs_a0 (by decide)))), (Eq.trans (Eq.trans (xv_m hg22 hs_wp (by decide) (by decide)) (xv_a hg18 (xne hs_wp hs_a0 (by decide)))) (xv_a hg16 (xne hs_wp hs_a0 (by decide))))]; exact hp0)).2.2.2; omega
        refine X_aloadn hK (i := 1) 3 dX7_readOne_140 rfl rfl ?_
        refine X_bipush hK dX7_readOne_141 (by decide) ?_
        refine X_iconst hK dX7_readOne_143 ?_
        refine X_iconst hK dX7_readOne_144 ?_
        refine X_callV hK [.int (iI 12), .int (iI 0), .int (iI 0)] [] lk_X7_129 (c_X10_addStep _ _ _ _ _ S g22 a1 12 0 0 hs_a1 (by omega) (by omega) (by omega)) hs_a1 ⟨by decide, rfl⟩ dX7_readOne_145 rfl rfl (by simp [Value.category]) (by decide) (by decide) (by decide) (by decide) (fun r26 S28 g27 pr26 qr26 hg27 => ?_)
        obtain ⟨rfl, rfl⟩ := pr26
        refine X_st [] rfl ?_
        exact hret _ _ _ _ _ _ dX7_readOne_148 ⟨rfl, rfl, ⟨Ft25, at25, ot25, qt25, ((hg27 a0 8 0 5 hs_a0 (by decide)).trans eFt25), by omega, by omega, ((hg27 a0 8 0 2 hs_a0 (by decide)).trans eat25), by omega, by omega, ((hg27 a0 8 0 3 hs_a0 (by decide)).trans eot25), by omega, by omega, ((hg27 a0 8 0 6 hs_a0 (by decide)).trans eqt25), by omega, by omega, (xRR.nt (by rw [← k5]; omega) (by omega) kt25)⟩⟩ (Nat.le_refl _) (Nat.le_refl _)
    · refine X_iloadn hK (i := 3) 1 dX7_readOne_35 rfl rfl ?_
      refine X_bipush hK dX7_readOne_36 (by decide) ?_
      refine X_icmp_eq hK 49 (by omega) (by omega) dX7_readOne_38 (by decide) (fun c29 => False.elim (by omega)) (fun c29 => ?_)
      refine X_aloadn hK (i := 0) 2 dX7_readOne_41 rfl rfl ?_
      refine X_iconst hK dX7_readOne_42 ?_
      refine X_callV hK [.int (iI 1)] [] lk_X7_60 (c3_tell _ _ _ _ _ S g a0 1 na no nf nq wt wp tk tl cn hs_a0 (by omega) (by omega) ena (by omega) eno (by omega) enf (by omega) enq ewt hs_wt ewp hs_wp hp0 (by omega) (by omega)) hs_a0 ⟨by decide, rfl⟩ dX7_readOne_43 rfl rfl (by simp [Value.category]) (by decide) (by decide) (by decide) (by decide) (fun r30 S32 g31 pr30 qr30 hg31 => ?_)
      obtain ⟨rfl, rfl, k33⟩ := pr30
      refine X_st [] rfl ?_
      obtain ⟨Ft34, at34, ot34, qt34, eFt34, lFt34, uFt34, eat34, lat34, uat34, eot34, lot34, uot34, eqt34, lqt34, uqt34, kt34⟩ := k33
      have cat34 : at34 ≤ 300 := by have h9 := (show xTB (xv g31 wt) (xv g31 wp) tk tl cn from (by rw [(xv_m hg31 hs_wt (by decide) (by decide)), (xv_m hg31 hs_wp (by decide) (by decide))]; exact hp0)).2.2.2; omega
      refine X_goto hK 148 dX7_readOne_46 (by decide) ?_
      exact hret _ _ _ _ _ _ dX7_readOne_148 ⟨rfl, rfl, ⟨Ft34, at34, ot34, qt34, eFt34, by omega, by omega, eat34, by omega, by omega, eot34, by omega, by omega, eqt34, by omega, by omega, (by obtain ⟨h8, h7, h6⟩ := kt34; have h5 := h8.resolve_left (fun q9 => by omega); rw [h5.2.1]; exact xRR.f1 (by rw [← k5]; omega) h5.2.2)⟩⟩ (Nat.le_refl _) (Nat.le_refl _)
  · refine X_iloadn hK (i := 3) 0 dX7_readOne_11 rfl rfl ?_
    refine X_bipush hK dX7_readOne_12 (by decide) ?_
    refine X_icmp_ge hK 21 (by omega) (by omega) dX7_readOne_14 (by decide) (fun c35 => ?_) (fun c35 => ?_)
    · refine X_iconst hK dX7_readOne_21 ?_
      refine X_istore hK (i := 4) [(4, .int (iI 0)), (3, .int (iI z4)), (0, .ref a0), (1, .ref a1), (2, .int (iI x2))] dX7_readOne_22 (by decide) rfl ?_
      refine X_iload hK (i := 4) 0 dX7_readOne_24 rfl ?_
      refine X_if_ne hK 49 (by omega) dX7_readOne_26 (by decide) (fun c36 => False.elim (by omega)) (fun c36 => ?_)
      refine X_iloadn hK (i := 3) 1 dX7_readOne_29 rfl rfl ?_
      refine X_bipush hK dX7_readOne_30 (by decide) ?_
      refine X_icmp_eq hK 49 (by omega) (by omega) dX7_readOne_32 (by decide) (fun c37 => False.elim (by omega)) (fun c37 => ?_)
      refine X_iloadn hK (i := 3) 1 dX7_readOne_35 rfl rfl ?_
      refine X_bipush hK dX7_readOne_36 (by decide) ?_
      refine X_icmp_eq hK 49 (by omega) (by omega) dX7_readOne_38 (by decide) (fun c38 => ?_) (fun c38 => ?_)
      · refine X_aloadn hK (i := 0) 2 dX7_readOne_49 rfl rfl ?_
        refine X_getK hK fl_X7_22_8 hs_a0 eno dX7_readOne_50 ?_
        refine X_bipush hK dX7_readOne_53 (by decide) ?_
        refine X_icmp_ge hK 64 (by omega) (by omega) dX7_readOne_55 (by decide) (fun c39 => ?_) (fun c39 => ?_)
        · refine X_aloadn hK (i := 0) 2 dX7_readOne_64 rfl rfl ?_
          refine X_iconst hK dX7_readOne_65 ?_
          refine X_callV hK [.int (iI 4)] [] lk_X7_60 (c3_tell _ _ _ _ _ S g a0 4 na no nf nq wt wp tk tl cn hs_a0 (by omega) (by omega) ena (by omega) eno (by omega) enf (by omega) enq ewt hs_wt ewp hs_wp hp0 (by omega) (by omega)) hs_a0 ⟨by decide, rfl⟩ dX7_readOne_66 rfl rfl (by simp [Value.category]) (by decide) (by decide) (by decide) (by decide) (fun r40 S42 g41 pr40 qr40 hg41 => ?_)
          obtain ⟨rfl, rfl, k43⟩ := pr40
          refine X_st [] rfl ?_
          obtain ⟨Ft44, at44, ot44, qt44, eFt44, lFt44, uFt44, eat44, lat44, uat44, eot44, lot44, uot44, eqt44, lqt44, uqt44, kt44⟩ := k43
          have cat44 : at44 ≤ 300 := by have h9 := (show xTB (xv g41 wt) (xv g41 wp) tk tl cn from (by rw [(xv_m hg41 hs_wt (by decide) (by decide)), (xv_m hg41 hs_wp (by decide) (by decide))]; exact hp0)).2.2.2; omega
          refine X_goto hK 148 dX7_readOne_69 (by decide) ?_
          exact hret _ _ _ _ _ _ dX7_readOne_148 ⟨rfl, rfl, ⟨Ft44, at44, ot44, qt44, eFt44, by omega, by omega, eat44, by omega, by omega, eot44, by omega, by omega, eqt44, by omega, by omega, (by obtain ⟨h8, h7, h6⟩ := kt44; have h5 := h8.resolve_left (fun q9 => by omega); rw [h5.2.1]; exact xRR.f4 (by rw [← k5]; omega) (by omega) h5.2.2)⟩⟩ (Nat.le_refl _) (Nat.le_refl _)
        · refine X_iloadn hK (i := 2) 4 dX7_readOne_58 rfl rfl ?_
          refine X_bipush hK dX7_readOne_59 (by decide) ?_
          refine X_icmp_le hK 72 (by omega) (by omega) dX7_readOne_61 (by decide) (fun c45 => ?_) (fun c45 => False.elim (by omega))
          refine X_aloadn hK (i := 0) 2 dX7_readOne_72 rfl rfl ?_
          refine X_dup hK dX7_readOne_73 rfl ?_
          refine X_getK hK fl_X7_22_8 hs_a0 eno dX7_readOne_74 ?_
          refine X_iconst hK dX7_readOne_77 ?_
          refine X_iadd hK dX7_readOne_78 ?_
          refine X_puti hK fl_X7_22_8 hs_a0 (by decide) sl_8_3 (by omega) (by omega) dX7_readOne_79 (fun g46 hg46 => ?_)
          refine X_aloadn hK (i := 0) 2 dX7_readOne_82 rfl rfl ?_
          refine X_dup hK dX7_readOne_83 rfl ?_
          have hl47 := xTB.lt (A := xv g46 wt) (B := xv g46 wp) (tk := tk) (tl := tl) (c := cn) (a := na) (by rw [(xv_a hg46 (xne hs_wt hs_a0 (by decide))), (xv_a hg46 (xne hs_wp hs_a0 (by decide)))]; exact hp0) (by omega) (by rw [← k5]; omega)
          refine X_getK hK fl_X7_18_8 hs_a0 ((xs_k hg46 (by decide)).trans ena) dX7_readOne_84 ?_
          refine X_iconst hK dX7_readOne_87 ?_
          refine X_iadd hK dX7_readOne_88 ?_
          refine X_puti hK fl_X7_18_8 hs_a0 (by decide) sl_8_2 (by omega) (by omega) dX7_readOne_89 (fun g48 hg48 => ?_)
          refine X_iload hK (i := 4) 0 dX7_readOne_92 rfl ?_
          refine X_if_eq hK 109 (by omega) dX7_readOne_94 (by decide) (fun c49 => ?_) (fun c49 => False.elim (by omega))
          refine X_iloadn hK (i := 3) 1 dX7_readOne_109 rfl rfl ?_
          refine X_bipush hK dX7_readOne_110 (by decide) ?_
          refine X_icmp_ne hK 132 (by omega) (by omega) dX7_readOne_112 (by decide) (fun c50 => False.elim (by omega)) (fun c50 => ?_)
          refine X_aloadn hK (i := 0) 2 dX7_readOne_115 rfl rfl ?_
          refine X_aloadn hK (i := 1) 3 dX7_readOne_116 rfl rfl ?_
          refine X_iloadn hK (i := 2) 4 dX7_readOne_117 rfl rfl ?_
          refine X_iconst hK dX7_readOne_118 ?_
          refine X_iadd hK dX7_readOne_119 ?_
          refine X_callV hK [.ref a1, .int (iI (x2 + 1))] [] lk_X7_115 (c3_readCond_2 _ _ _ _ _ S g48 a0 a1 (x2 + 1) (na + 1) (no + 1) nf nq wt wp tk tl cn hs_a0 hs_a1 (by omega) (by omega) (xs_s hg48) (by omega) ((xs_k hg48 (by decide)).trans (xs_s hg46)) (by omega) ((xs_k hg48 (by decide)).trans ((xs_k hg46 (by decide)).trans enf)) (by omega) ((xs_k hg48 (by decide)).trans ((xs_k hg46 (by decide)).trans enq)) ((xs_k hg48 (by decide)).trans ((xs_k hg46 (by decide)).trans ewt)) hs_wt ((xs_k hg48 (by decide)).trans ((xs_k hg46 (by decide)).trans ewp)) hs_wp (by rw [(Eq.trans (xv_a hg48 (xne hs_wt hs_a0 (by decide))) (xv_a hg46 (xne hs_wt hs_a0 (by decide)))), (Eq.trans (xv_a hg48 (xne hs_wp hs_a0 (by decide))) (xv_a hg46 (xne hs_wp hs_a0 (by decide))))]; exact hp0) (by omega) (by omega)) hs_a0 ⟨by decide, rfl⟩ dX7_readOne_120 rfl rfl (by simp [Value.category]) (by decide) (by decide) (by decide) (by decide) (fun r51 S53 g52 pr51 qr51 hg52 => ?_)
          obtain ⟨rfl, rfl, k54⟩ := pr51
          refine X_st [] rfl ?_
          obtain ⟨Ft55, at55, ot55, qt55, eFt55, lFt55, uFt55, eat55, lat55, uat55, eot55, lot55, uot55, eqt55, lqt55, uqt55, kt55⟩ := k54
          have cat55 : at55 ≤ 300 := by have h9 := (show xTB (xv g52 wt) (xv g52 wp) tk tl cn from (by rw [(Eq.trans (Eq.trans (xv_m hg52 hs_wt (by decide) (by decide)) (xv_a hg48 (xne hs_wt hs_a0 (by decide)))) (xv_a hg46 (xne hs_wt hs_a0 (by decide)))), (Eq.trans (Eq.trans (xv_m hg52 hs_wp (by decide) (by decide)) (xv_a hg48 (xne hs_wp hs_a0 (by decide)))) (xv_a hg46 (xne hs_wp hs_a0 (by decide))))]; exact hp0)).2.2.2; omega
          refine X_aloadn hK (i := 0) 2 dX7_readOne_123 rfl rfl ?_
          refine X_bipush hK dX7_readOne_124 (by decide) ?_
          refine X_callV hK [.int (iI 26)] [] lk_X7_119 (c3_expect _ _ _ _ _ S g52 a0 26 at55 ot55 Ft55 qt55 wt wp tk tl cn hs_a0 (by omega) (by omega) eat55 (by omega) eot55 (by omega) eFt55 (by omega) eqt55 ((hg52 a0 8 0 0 hs_a0 (by decide)).trans ((xs_k hg48 (by decide)).trans ((xs_k hg46 (by decide)).trans ewt))) hs_wt ((hg52 a0 8 0 1 hs_a0 (by decide)).trans ((xs_k hg48 (by decide)).trans ((xs_k hg46 (by decide)).trans ewp))) hs_wp (by rw [(Eq.trans (Eq.trans (xv_m hg52 hs_wt (by decide) (by decide)) (xv_a hg48 (xne hs_wt hs_a0 (by decide)))) (xv_a hg46 (xne hs_wt hs_a0 (by decide)))), (Eq.trans (Eq.trans (xv_m hg52 hs_wp (by decide) (by decide)) (xv_a hg48 (xne hs_wp hs_a0 (by decide)))) (xv_a hg46 (xne hs_wp hs_a0 (by decide))))]; exact hp0) (by omega) (by omega)) hs_a0 ⟨by decide, rfl⟩ dX7_readOne_126 rfl rfl (by simp [Value.category]) (by decide) (by decide) (by decide) (by decide) (fun r56 S58 g57 pr56 qr56 hg57 => ?_)
          obtain ⟨rfl, rfl, k59⟩ := pr56
          refine X_st [] rfl ?_
          obtain ⟨Ft60, at60, ot60, qt60, eFt60, lFt60, uFt60, eat60, lat60, uat60, eot60, lot60, uot60, eqt60, lqt60, uqt60, kt60⟩ := k59
          have cat60 : at60 ≤ 300 := by have h9 := (show xTB (xv g57 wt) (xv g57 wp) tk tl cn from (by rw [(Eq.trans (Eq.trans (Eq.trans (xv_m hg57 hs_wt (by decide) (by decide)) (xv_m hg52 hs_wt (by decide) (by decide))) (xv_a hg48 (xne hs_wt hs_a0 (by decide)))) (xv_a hg46 (xne hs_wt hs_a0 (by decide)))), (Eq.trans (Eq.trans (Eq.trans (xv_m hg57 hs_wp (by decide) (by decide)) (xv_m hg52 hs_wp (by decide) (by decide))) (xv_a hg48 (xne hs_wp hs_a0 (by decide)))) (xv_a hg46 (xne hs_wp hs_a0 (by decide))))]; exact hp0)).2.2.2; omega
          refine X_goto hK 148 dX7_readOne_129 (by decide) ?_
          exact hret _ _ _ _ _ _ dX7_readOne_148 ⟨rfl, rfl, ⟨Ft60, at60, ot60, qt60, eFt60, by omega, by omega, eat60, by omega, by omega, eot60, by omega, by omega, eqt60, by omega, by omega, (by obtain ⟨h8, h7⟩ := kt60; by_cases f9 : Ft55 = 0; (rcases h8 with ⟨c1, c2, c3, c4⟩ | ⟨c1, c2, c3⟩; (rw [show Ft60 = 0 by omega, c3, h7]; exact xRR.po (by rw [← k5]; omega) (by omega) (show xRR tk tl 2 (1 + 1) (na + 1) (no + 1) Ft55 at55 ot55 qt55 from kt55) f9 c1); (have c4 := c3.resolve_left (fun q9 => q9.1 f9); rw [c4.2.1]; exact xRR.px (by rw [← k5]; omega) (by omega) (show xRR tk tl 2 (1 + 1) (na + 1) (no + 1) Ft55 at55 ot55 qt55 from kt55) f9 c1 c4.2.2)); (have h6 : Ft60 = Ft55 ∧ qt60 = qt55 := (by omega); rw [h6.1, h6.2]; exact xRR.pf (by rw [← k5]; omega) (by omega) (show xRR tk tl 2 (1 + 1) (na + 1) (no + 1) Ft55 at55 ot55 qt55 from kt55) f9))⟩⟩ (Nat.le_refl _) (Nat.le_refl _)
      · refine X_aloadn hK (i := 0) 2 dX7_readOne_41 rfl rfl ?_
        refine X_iconst hK dX7_readOne_42 ?_
        refine X_callV hK [.int (iI 1)] [] lk_X7_60 (c3_tell _ _ _ _ _ S g a0 1 na no nf nq wt wp tk tl cn hs_a0 (by omega) (by omega) ena (by omega) eno (by omega) enf (by omega) enq ewt hs_wt ewp hs_wp hp0 (by omega) (by omega)) hs_a0 ⟨by decide, rfl⟩ dX7_readOne_43 rfl rfl (by simp [Value.category]) (by decide) (by decide) (by decide) (by decide) (fun r61 S63 g62 pr61 qr61 hg62 => ?_)
        obtain ⟨rfl, rfl, k64⟩ := pr61
        refine X_st [] rfl ?_
        obtain ⟨Ft65, at65, ot65, qt65, eFt65, lFt65, uFt65, eat65, lat65, uat65, eot65, lot65, uot65, eqt65, lqt65, uqt65, kt65⟩ := k64
        have cat65 : at65 ≤ 300 := by have h9 := (show xTB (xv g62 wt) (xv g62 wp) tk tl cn from (by rw [(xv_m hg62 hs_wt (by decide) (by decide)), (xv_m hg62 hs_wp (by decide) (by decide))]; exact hp0)).2.2.2; omega
        refine X_goto hK 148 dX7_readOne_46 (by decide) ?_
        exact hret _ _ _ _ _ _ dX7_readOne_148 ⟨rfl, rfl, ⟨Ft65, at65, ot65, qt65, eFt65, by omega, by omega, eat65, by omega, by omega, eot65, by omega, by omega, eqt65, by omega, by omega, (by obtain ⟨h8, h7, h6⟩ := kt65; have h5 := h8.resolve_left (fun q9 => by omega); rw [h5.2.1]; exact xRR.f1 (by rw [← k5]; omega) h5.2.2)⟩⟩ (Nat.le_refl _) (Nat.le_refl _)
    · refine X_iconst hK dX7_readOne_17 ?_
      refine X_goto hK 22 dX7_readOne_18 (by decide) ?_
      refine X_istore hK (i := 4) [(4, .int (iI 1)), (3, .int (iI z4)), (0, .ref a0), (1, .ref a1), (2, .int (iI x2))] dX7_readOne_22 (by decide) rfl ?_
      refine X_iload hK (i := 4) 0 dX7_readOne_24 rfl ?_
      refine X_if_ne hK 49 (by omega) dX7_readOne_26 (by decide) (fun c66 => ?_) (fun c66 => False.elim (by omega))
      refine X_aloadn hK (i := 0) 2 dX7_readOne_49 rfl rfl ?_
      refine X_getK hK fl_X7_22_8 hs_a0 eno dX7_readOne_50 ?_
      refine X_bipush hK dX7_readOne_53 (by decide) ?_
      refine X_icmp_ge hK 64 (by omega) (by omega) dX7_readOne_55 (by decide) (fun c67 => ?_) (fun c67 => ?_)
      · refine X_aloadn hK (i := 0) 2 dX7_readOne_64 rfl rfl ?_
        refine X_iconst hK dX7_readOne_65 ?_
        refine X_callV hK [.int (iI 4)] [] lk_X7_60 (c3_tell _ _ _ _ _ S g a0 4 na no nf nq wt wp tk tl cn hs_a0 (by omega) (by omega) ena (by omega) eno (by omega) enf (by omega) enq ewt hs_wt ewp hs_wp hp0 (by omega) (by omega)) hs_a0 ⟨by decide, rfl⟩ dX7_readOne_66 rfl rfl (by simp [Value.category]) (by decide) (by decide) (by decide) (by decide) (fun r68 S70 g69 pr68 qr68 hg69 => ?_)
        obtain ⟨rfl, rfl, k71⟩ := pr68
        refine X_st [] rfl ?_
        obtain ⟨Ft72, at72, ot72, qt72, eFt72, lFt72, uFt72, eat72, lat72, uat72, eot72, lot72, uot72, eqt72, lqt72, uqt72, kt72⟩ := k71
        have cat72 : at72 ≤ 300 := by have h9 := (show xTB (xv g69 wt) (xv g69 wp) tk tl cn from (by rw [(xv_m hg69 hs_wt (by decide) (by decide)), (xv_m hg69 hs_wp (by decide) (by decide))]; exact hp0)).2.2.2; omega
        refine X_goto hK 148 dX7_readOne_69 (by decide) ?_
        exact hret _ _ _ _ _ _ dX7_readOne_148 ⟨rfl, rfl, ⟨Ft72, at72, ot72, qt72, eFt72, by omega, by omega, eat72, by omega, by omega, eot72, by omega, by omega, eqt72, by omega, by omega, (by obtain ⟨h8, h7, h6⟩ := kt72; have h5 := h8.resolve_left (fun q9 => by omega); rw [h5.2.1]; exact xRR.f4 (by rw [← k5]; omega) (by omega) h5.2.2)⟩⟩ (Nat.le_refl _) (Nat.le_refl _)
      · refine X_iloadn hK (i := 2) 4 dX7_readOne_58 rfl rfl ?_
        refine X_bipush hK dX7_readOne_59 (by decide) ?_
        refine X_icmp_le hK 72 (by omega) (by omega) dX7_readOne_61 (by decide) (fun c73 => ?_) (fun c73 => False.elim (by omega))
        refine X_aloadn hK (i := 0) 2 dX7_readOne_72 rfl rfl ?_
        refine X_dup hK dX7_readOne_73 rfl ?_
        refine X_getK hK fl_X7_22_8 hs_a0 eno dX7_readOne_74 ?_
        refine X_iconst hK dX7_readOne_77 ?_
        refine X_iadd hK dX7_readOne_78 ?_
        refine X_puti hK fl_X7_22_8 hs_a0 (by decide) sl_8_3 (by omega) (by omega) dX7_readOne_79 (fun g74 hg74 => ?_)
        refine X_aloadn hK (i := 0) 2 dX7_readOne_82 rfl rfl ?_
        refine X_dup hK dX7_readOne_83 rfl ?_
        have hl75 := xTB.lt (A := xv g74 wt) (B := xv g74 wp) (tk := tk) (tl := tl) (c := cn) (a := na) (by rw [(xv_a hg74 (xne hs_wt hs_a0 (by decide))), (xv_a hg74 (xne hs_wp hs_a0 (by decide)))]; exact hp0) (by omega) (by rw [← k5]; omega)
        refine X_getK hK fl_X7_18_8 hs_a0 ((xs_k hg74 (by decide)).trans ena) dX7_readOne_84 ?_
        refine X_iconst hK dX7_readOne_87 ?_
        refine X_iadd hK dX7_readOne_88 ?_
        refine X_puti hK fl_X7_18_8 hs_a0 (by decide) sl_8_2 (by omega) (by omega) dX7_readOne_89 (fun g76 hg76 => ?_)
        refine X_iload hK (i := 4) 0 dX7_readOne_92 rfl ?_
        refine X_if_eq hK 109 (by omega) dX7_readOne_94 (by decide) (fun c77 => False.elim (by omega)) (fun c77 => ?_)
        refine X_aloadn hK (i := 0) 2 dX7_readOne_97 rfl rfl ?_
        refine X_aloadn hK (i := 1) 3 dX7_readOne_98 rfl rfl ?_
        refine X_iloadn hK (i := 3) 1 dX7_readOne_99 rfl rfl ?_
        refine X_bipush hK dX7_readOne_100 (by decide) ?_
        refine X_isub hK dX7_readOne_102 ?_
        refine X_callV hK [.ref a1, .int (iI (z4 - 10))] [] lk_X7_135 (c3_readFact _ _ _ _ _ S g76 a0 a1 (z4 - 10) (na + 1) (no + 1) nf nq wt wp tk tl cn 1 hs_a0 hs_a1 (by omega) (by omega) (xs_s hg76) (by omega) ((xs_k hg76 (by decide)).trans (xs_s hg74)) (by omega) ((xs_k hg76 (by decide)).trans ((xs_k hg74 (by decide)).trans enf)) (by omega) ((xs_k hg76 (by decide)).trans ((xs_k hg74 (by decide)).trans enq)) ((xs_k hg76 (by decide)).trans ((xs_k hg74 (by decide)).trans ewt)) hs_wt ((xs_k hg76 (by decide)).trans ((xs_k hg74 (by decide)).trans ewp)) hs_wp (by rw [(Eq.trans (xv_a hg76 (xne hs_wt hs_a0 (by decide))) (xv_a hg74 (xne hs_wt hs_a0 (by decide)))), (Eq.trans (xv_a hg76 (xne hs_wp hs_a0 (by decide))) (xv_a hg74 (xne hs_wp hs_a0 (by decide))))]; exact hp0) (by omega) (by omega) (by rw [show (na + 1) - 1 = na by omega, ← k5]; omega) (by omega)) hs_a0 ⟨by decide, rfl⟩ dX7_readOne_103 rfl rfl (by simp [Value.category]) (by decide) (by decide) (by decide) (by decide) (fun r78 S80 g79 pr78 qr78 hg79 => ?_)
        obtain ⟨rfl, rfl, k81⟩ := pr78
        refine X_st [] rfl ?_
        obtain ⟨Ft82, at82, ot82, qt82, eFt82, lFt82, uFt82, eat82, lat82, uat82, eot82, lot82, uot82, eqt82, lqt82, uqt82, kt82⟩ := k81
        have cat82 : at82 ≤ 300 := by have h9 := (show xTB (xv g79 wt) (xv g79 wp) tk tl cn from (by rw [(Eq.trans (Eq.trans (xv_m hg79 hs_wt (by decide) (by decide)) (xv_a hg76 (xne hs_wt hs_a0 (by decide)))) (xv_a hg74 (xne hs_wt hs_a0 (by decide)))), (Eq.trans (Eq.trans (xv_m hg79 hs_wp (by decide) (by decide)) (xv_a hg76 (xne hs_wp hs_a0 (by decide)))) (xv_a hg74 (xne hs_wp hs_a0 (by decide))))]; exact hp0)).2.2.2; omega
        refine X_goto hK 148 dX7_readOne_106 (by decide) ?_
        exact hret _ _ _ _ _ _ dX7_readOne_148 ⟨rfl, rfl, ⟨Ft82, at82, ot82, qt82, eFt82, by omega, by omega, eat82, by omega, by omega, eot82, by omega, by omega, eqt82, by omega, by omega, (by have h9 := kt82; rw [show na + 1 - 1 = na by omega, show no + 1 - 1 = no by omega] at h9; exact h9)⟩⟩ (Nat.le_refl _) (Nat.le_refl _)

set_option maxHeartbeats 4000000 in
set_option maxRecDepth 100000 in
theorem c3_readAll_1 (l : Launch) (D : va_G) (kA : Nat → ClassId) (b0 : Nat) (t0 : Nat → Nat) (S : xT) (g : xG) (a0 : Nat) (a1 : Nat) (x2 : Int) (na : Int) (no : Int) (nf : Int) (nq : Int) (wt : Nat) (wp : Nat) (tk : Int → Int) (tl : Int → Int) (cn : Int) (hs_a0 : S a0 = some (8, 0)) (hs_a1 : S a1 = some (11, 0)) (hx2 : 1 ≤ x2 ∧ x2 ≤ 1) (hna : 0 ≤ na ∧ na ≤ 300) (ena : g a0 2 = .int (iI na)) (hno : 0 ≤ no ∧ no ≤ 50) (eno : g a0 3 = .int (iI no)) (hnf : 0 ≤ nf ∧ nf ≤ 0) (enf : g a0 5 = .int (iI nf)) (hnq : 0 ≤ nq ∧ nq ≤ 300) (enq : g a0 6 = .int (iI nq)) (ewt : g a0 0 = .ref wt) (hs_wt : S wt = some (12900, 301)) (ewp : g a0 1 = .ref wp) (hs_wp : S wp = some (13000, 301)) (hp0 : xTB (xv g wt) (xv g wp) tk tl cn) (hp1 : na ≤ cn) (hp2 : cn ≤ 300) : xMt l yX7_readAll cX7_readAll 4 none 32 0 0 745 D kA b0 t0 [(8, 5), (8, 6), (8, 3), (8, 2), (14000, 0), (11, 2)] [.ref a0, .ref a1, .int (iI x2)] S g (fun (r : Option Value) (S1 : xT) (g1 : xG) => S = S1 ∧ r = none ∧ (∃ F a o q : Int, g1 a0 5 = .int (iI F) ∧ -2147483648 ≤ F ∧ F ≤ 2147483647 ∧ g1 a0 2 = .int (iI a) ∧ 0 ≤ a ∧ a ≤ cn ∧ g1 a0 3 = .int (iI o) ∧ 0 ≤ o ∧ o ≤ 50 ∧ g1 a0 6 = .int (iI q) ∧ 0 ≤ q ∧ q ≤ 300 ∧ xRR tk tl 1 1 na no F a o q)) := by
  refine xEnterV (by decide) (by simp [lg_sl, Value.category]) [(0, .ref a0), (1, .ref a1), (2, .int (iI x2))] rfl ?_
  intro K E hK hret _ _ _
  refine X_aloadn hK (i := 0) 0 dX7_readAll_0 rfl rfl ?_
  refine X_aloadn hK (i := 1) 1 dX7_readAll_1 rfl rfl ?_
  refine X_iloadn hK (i := 2) 2 dX7_readAll_2 rfl rfl ?_
  refine X_callV hK [.ref a1, .int (iI x2)] [] lk_X7_132 (c3_readOne_1 _ _ _ _ _ S g a0 a1 x2 na no nf nq wt wp tk tl cn hs_a0 hs_a1 (by omega) (by omega) ena (by omega) eno (by omega) enf (by omega) enq ewt hs_wt ewp hs_wp hp0 (by omega) (by omega)) hs_a0 ⟨by decide, rfl⟩ dX7_readAll_3 rfl rfl (by simp [Value.category]) (by decide) (by decide) (by decide) (by decide) (fun r1 S3 g2 pr1 qr1 hg2 => ?_)
  obtain ⟨rfl, rfl, k4⟩ := pr1
  refine X_st [] rfl ?_
  obtain ⟨Ft5, at5, ot5, qt5, eFt5, lFt5, uFt5, eat5, lat5, uat5, eot5, lot5, uot5, eqt5, lqt5, uqt5, kt5⟩ := k4
  have cat5 : at5 ≤ 300 := by have h9 := (show xTB (xv g2 wt) (xv g2 wp) tk tl cn from (by rw [(xv_m hg2 hs_wt (by decide) (by decide)), (xv_m hg2 hs_wp (by decide) (by decide))]; exact hp0)).2.2.2; omega
  refine X_iconst hK dX7_readAll_6 ?_
  refine X_istoren hK (i := 3) [(3, .int (iI 0)), (0, .ref a0), (1, .ref a1), (2, .int (iI x2))] dX7_readAll_7 rfl (by decide) rfl ?_
  have P120 : ∀ (nP120 : Nat) (g98 : xG) (_ : xM [(14000, 0), (11, 2), (8, 5), (8, 6), (8, 3), (8, 2)] S g2 g98) (z97 : Int) (_ : 0 ≤ z97) (_ : z97 ≤ 50) (q99 : Int) (_ : 0 ≤ q99) (_ : q99 ≤ 300) (_ : g98 a0 2 = .int (iI q99)) (q100 : Int) (_ : 0 ≤ q100) (_ : q100 ≤ 50) (_ : g98 a0 3 = .int (iI q100)) (q101 : Int) (_ : (-2147483648) ≤ q101) (_ : q101 ≤ 2147483647) (_ : g98 a0 5 = .int (iI q101)) (q102 : Int) (_ : 0 ≤ q102) (_ : q102 ≤ 300) (_ : g98 a0 6 = .int (iI q102)) (_ : xIn tk tl 1 1 na no q101 q99 q100 q102) (_ : q101 = 0 → no + 1 + z97 ≤ q100) (_ : q99 ≤ cn) (_ : 60 - z97 < (nP120 : Int)), X K E 8 [(3, .int (iI z97)), (0, .ref a0), (1, .ref a1), (2, .int (iI x2))] [] S g98 0 0 := by
    intro nP120
    induction nP120 with
    | zero => intro g98 hg98 z97 lz97 uz97 q99 lq99 uq99 eq99 q100 lq100 uq100 eq100 q101 lq101 uq101 eq101 q102 lq102 uq102 eq102 v121 v122 v123 mP120; exact False.elim (by omega)
    | succ nP120 ihP120 =>
      intro g98 hg98 z97 lz97 uz97 q99 lq99 uq99 eq99 q100 lq100 uq100 eq100 q101 lq101 uq101 eq101 q102 lq102 uq102 eq102 v121 v122 v123 mP120
      refine X_iloadn hK (i := 3) 0 dX7_readAll_8 rfl rfl ?_
      refine X_bipush hK dX7_readAll_9 (by decide) ?_
      refine X_icmp_ge hK 60 (by omega) (by omega) dX7_readAll_11 (by decide) (fun c124 => ?_) (fun c124 => ?_)
      · exact hret _ _ _ _ _ _ dX7_readAll_60 ⟨rfl, rfl, ⟨q101, q99, q100, q102, eq101, by omega, by omega, eq99, by omega, by omega, eq100, by omega, by omega, eq102, by omega, by omega, (xIn.e v121 (fun h9 => False.elim (by have h8 := v122 h9; omega)))⟩⟩ (Nat.le_refl _) (Nat.le_refl _)
      · refine X_aloadn hK (i := 0) 1 dX7_readAll_14 rfl rfl ?_
        refine X_getK hK fl_X7_29_8 hs_a0 eq101 dX7_readAll_15 ?_
        refine X_if_ne hK 60 (by omega) dX7_readAll_18 (by decide) (fun c125 => ?_) (fun c125 => ?_)
        · exact hret _ _ _ _ _ _ dX7_readAll_60 ⟨rfl, rfl, ⟨q101, q99, q100, q102, eq101, by omega, by omega, eq99, by omega, by omega, eq100, by omega, by omega, eq102, by omega, by omega, (xIn.e v121 (fun h9 => False.elim (by have h8 := v122 h9; omega)))⟩⟩ (Nat.le_refl _) (Nat.le_refl _)
        · refine X_aloadn hK (i := 0) 1 dX7_readAll_21 rfl rfl ?_
          refine X_callV hK [] [] lk_X7_47 (c3_now _ _ _ _ _ S g98 a0 q99 wt wp tk tl cn hs_a0 (by omega) eq99 ((hg98 a0 8 0 0 hs_a0 (by decide)).trans ((hg2 a0 8 0 0 hs_a0 (by decide)).trans ewt)) hs_wt ((hg98 a0 8 0 1 hs_a0 (by decide)).trans ((hg2 a0 8 0 1 hs_a0 (by decide)).trans ewp)) hs_wp (by rw [(Eq.trans (xv_m hg98 hs_wt (by decide) (by decide)) (xv_m hg2 hs_wt (by decide) (by decide))), (Eq.trans (xv_m hg98 hs_wp (by decide) (by decide)) (xv_m hg2 hs_wp (by decide) (by decide)))]; exact hp0) (by omega) (by omega)) hs_a0 ⟨by decide, rfl⟩ dX7_readAll_22 rfl rfl (by simp [Value.category]) (by decide) (by decide) (by decide) (by decide) (fun r126 S128 g127 pr126 qr126 hg127 => ?_)
          obtain ⟨rfl, rfl, z129, rfl, lz129, uz129, k130⟩ := pr126
          refine X_st [.int (iI z129)] rfl ?_
          refine X_bipush hK dX7_readAll_25 (by decide) ?_
          refine X_icmp_ne hK 60 (by omega) (by omega) dX7_readAll_27 (by decide) (fun c131 => ?_) (fun c131 => ?_)
          · exact hret _ _ _ _ _ _ dX7_readAll_60 ⟨rfl, rfl, ⟨q101, q99, q100, q102, eq101, by omega, by omega, eq99, by omega, by omega, eq100, by omega, by omega, eq102, by omega, by omega, (xIn.e v121 (fun h9 => Or.inl ⟨rfl, by rw [← k130]; omega⟩))⟩⟩ (Nat.le_refl _) (Nat.le_refl _)
          · refine X_aloadn hK (i := 0) 1 dX7_readAll_30 rfl rfl ?_
            refine X_dup hK dX7_readAll_31 rfl ?_
            have hl132 := xTB.lt (A := xv g98 wt) (B := xv g98 wp) (tk := tk) (tl := tl) (c := cn) (a := q99) (by rw [(Eq.trans (xv_m hg98 hs_wt (by decide) (by decide)) (xv_m hg2 hs_wt (by decide) (by decide))), (Eq.trans (xv_m hg98 hs_wp (by decide) (by decide)) (xv_m hg2 hs_wp (by decide) (by decide)))]; exact hp0) (by omega) (by rw [← k130]; omega)
            refine X_getK hK fl_X7_18_8 hs_a0 eq99 dX7_readAll_32 ?_
            refine X_iconst hK dX7_readAll_35 ?_
            refine X_iadd hK dX7_readAll_36 ?_
            refine X_puti hK fl_X7_18_8 hs_a0 (by decide) sl_8_2 (by omega) (by omega) dX7_readAll_37 (fun g133 hg133 => ?_)
            refine X_aloadn hK (i := 0) 1 dX7_readAll_40 rfl rfl ?_
            refine X_aloadn hK (i := 1) 2 dX7_readAll_41 rfl rfl ?_
            refine X_iloadn hK (i := 2) 3 dX7_readAll_42 rfl rfl ?_
            refine X_callV hK [.ref a1, .int (iI x2)] [] lk_X7_132 (c3_readOne_1 _ _ _ _ _ S g133 a0 a1 x2 (q99 + 1) q100 q101 q102 wt wp tk tl cn hs_a0 hs_a1 (by omega) (by omega) (xs_s hg133) (by omega) ((xs_k hg133 (by decide)).trans eq100) (by omega) ((xs_k hg133 (by decide)).trans eq101) (by omega) ((xs_k hg133 (by decide)).trans eq102) ((xs_k hg133 (by decide)).trans ((hg98 a0 8 0 0 hs_a0 (by decide)).trans ((hg2 a0 8 0 0 hs_a0 (by decide)).trans ewt))) hs_wt ((xs_k hg133 (by decide)).trans ((hg98 a0 8 0 1 hs_a0 (by decide)).trans ((hg2 a0 8 0 1 hs_a0 (by decide)).trans ewp))) hs_wp (by rw [(Eq.trans (Eq.trans (xv_a hg133 (xne hs_wt hs_a0 (by decide))) (xv_m hg98 hs_wt (by decide) (by decide))) (xv_m hg2 hs_wt (by decide) (by decide))), (Eq.trans (Eq.trans (xv_a hg133 (xne hs_wp hs_a0 (by decide))) (xv_m hg98 hs_wp (by decide) (by decide))) (xv_m hg2 hs_wp (by decide) (by decide)))]; exact hp0) (by omega) (by omega)) hs_a0 ⟨by decide, rfl⟩ dX7_readAll_43 rfl rfl (by simp [Value.category]) (by decide) (by decide) (by decide) (by decide) (fun r134 S136 g135 pr134 qr134 hg135 => ?_)
            obtain ⟨rfl, rfl, k137⟩ := pr134
            refine X_st [] rfl ?_
            obtain ⟨Ft138, at138, ot138, qt138, eFt138, lFt138, uFt138, eat138, lat138, uat138, eot138, lot138, uot138, eqt138, lqt138, uqt138, kt138⟩ := k137
            have cat138 : at138 ≤ 300 := by have h9 := (show xTB (xv g135 wt) (xv g135 wp) tk tl cn from (by rw [(Eq.trans (Eq.trans (Eq.trans (xv_m hg135 hs_wt (by decide) (by decide)) (xv_a hg133 (xne hs_wt hs_a0 (by decide)))) (xv_m hg98 hs_wt (by decide) (by decide))) (xv_m hg2 hs_wt (by decide) (by decide))), (Eq.trans (Eq.trans (Eq.trans (xv_m hg135 hs_wp (by decide) (by decide)) (xv_a hg133 (xne hs_wp hs_a0 (by decide)))) (xv_m hg98 hs_wp (by decide) (by decide))) (xv_m hg2 hs_wp (by decide) (by decide)))]; exact hp0)).2.2.2; omega
            refine X_aloadn hK (i := 1) 2 dX7_readAll_46 rfl rfl ?_
            refine X_bipush hK dX7_readAll_47 (by decide) ?_
            refine X_iconst hK dX7_readAll_49 ?_
            refine X_iconst hK dX7_readAll_50 ?_
            refine X_callV hK [.int (iI 13), .int (iI 0), .int (iI 0)] [] lk_X7_129 (c_X10_addStep _ _ _ _ _ S g135 a1 13 0 0 hs_a1 (by omega) (by omega) (by omega)) hs_a1 ⟨by decide, rfl⟩ dX7_readAll_51 rfl rfl (by simp [Value.category]) (by decide) (by decide) (by decide) (by decide) (fun r139 S141 g140 pr139 qr139 hg140 => ?_)
            obtain ⟨rfl, rfl⟩ := pr139
            refine X_st [] rfl ?_
            refine X_iinc hK (i := 3) (z := z97) (n := 1) 0 [(3, .int (iI (z97 + 1))), (0, .ref a0), (1, .ref a1), (2, .int (iI x2))] dX7_readAll_54 rfl (by decide) rfl ?_
            refine X_goto hK 8 dX7_readAll_57 (by decide) ?_
            exact ihP120  g140 (xM.tr (xM.tr (xM_up (xM.tr xM.rf xLe.rf hg98 (by decide)) hg133 hs_a0 (by decide) (by decide)) xLe.rf hg135 (by decide)) xLe.rf hg140 (by decide)) (z97 + 1) (by omega) (by omega) at138 (by omega) (by omega) ((hg140 a0 8 0 2 hs_a0 (by decide)).trans eat138) ot138 (by omega) (by omega) ((hg140 a0 8 0 3 hs_a0 (by decide)).trans eot138) Ft138 (by omega) (by omega) ((hg140 a0 8 0 5 hs_a0 (by decide)).trans eFt138) qt138 (by omega) (by omega) ((hg140 a0 8 0 6 hs_a0 (by decide)).trans eqt138) (xIn.s (Or.inl ⟨rfl, rfl, (by rw [← k130]; omega)⟩) v121 (by omega) kt138) (fun h9 => by have h8 := xRR.b kt138 h9; omega) (by omega) (by omega)
  exact P120 ((60 - 0 : Int).toNat + 1) g2 xM.rf 0 (by omega) (by omega) at5 (by omega) (by omega) eat5 ot5 (by omega) (by omega) eot5 Ft5 (by omega) (by omega) eFt5 qt5 (by omega) (by omega) eqt5 (xIn.z (Or.inl ⟨rfl, rfl⟩) kt5) (fun h9 => by have h8 := xRR.b kt5 h9; omega) (by omega) (by omega)

set_option maxHeartbeats 4000000 in
set_option maxRecDepth 100000 in
theorem c3_readCond_1 (l : Launch) (D : va_G) (kA : Nat → ClassId) (b0 : Nat) (t0 : Nat → Nat) (S : xT) (g : xG) (a0 : Nat) (a1 : Nat) (x2 : Int) (na : Int) (no : Int) (nf : Int) (nq : Int) (wt : Nat) (wp : Nat) (tk : Int → Int) (tl : Int → Int) (cn : Int) (hs_a0 : S a0 = some (8, 0)) (hs_a1 : S a1 = some (11, 0)) (hx2 : 1 ≤ x2 ∧ x2 ≤ 1) (hna : 0 ≤ na ∧ na ≤ 300) (ena : g a0 2 = .int (iI na)) (hno : 0 ≤ no ∧ no ≤ 50) (eno : g a0 3 = .int (iI no)) (hnf : 0 ≤ nf ∧ nf ≤ 0) (enf : g a0 5 = .int (iI nf)) (hnq : 0 ≤ nq ∧ nq ≤ 300) (enq : g a0 6 = .int (iI nq)) (ewt : g a0 0 = .ref wt) (hs_wt : S wt = some (12900, 301)) (ewp : g a0 1 = .ref wp) (hs_wp : S wp = some (13000, 301)) (hp0 : xTB (xv g wt) (xv g wp) tk tl cn) (hp1 : na ≤ cn) (hp2 : cn ≤ 300) : xMt l yX7_readCond cX7_readCond 4 none 33 0 0 768 D kA b0 t0 [(8, 5), (8, 6), (8, 3), (8, 2), (14000, 0), (11, 2)] [.ref a0, .ref a1, .int (iI x2)] S g (fun (r : Option Value) (S1 : xT) (g1 : xG) => S = S1 ∧ r = none ∧ (∃ F a o q : Int, g1 a0 5 = .int (iI F) ∧ -2147483648 ≤ F ∧ F ≤ 2147483647 ∧ g1 a0 2 = .int (iI a) ∧ 0 ≤ a ∧ a ≤ cn ∧ g1 a0 3 = .int (iI o) ∧ 0 ≤ o ∧ o ≤ 50 ∧ g1 a0 6 = .int (iI q) ∧ 0 ≤ q ∧ q ≤ 300 ∧ xRR tk tl 2 1 na no F a o q)) := by
  refine xEnterV (by decide) (by simp [lg_sl, Value.category]) [(0, .ref a0), (1, .ref a1), (2, .int (iI x2))] rfl ?_
  intro K E hK hret _ _ _
  refine X_aloadn hK (i := 0) 0 dX7_readCond_0 rfl rfl ?_
  refine X_aloadn hK (i := 1) 1 dX7_readCond_1 rfl rfl ?_
  refine X_iloadn hK (i := 2) 2 dX7_readCond_2 rfl rfl ?_
  refine X_callV hK [.ref a1, .int (iI x2)] [] lk_X7_126 (c3_readAll_1 _ _ _ _ _ S g a0 a1 x2 na no nf nq wt wp tk tl cn hs_a0 hs_a1 (by omega) (by omega) ena (by omega) eno (by omega) enf (by omega) enq ewt hs_wt ewp hs_wp hp0 (by omega) (by omega)) hs_a0 ⟨by decide, rfl⟩ dX7_readCond_3 rfl rfl (by simp [Value.category]) (by decide) (by decide) (by decide) (by decide) (fun r1 S3 g2 pr1 qr1 hg2 => ?_)
  obtain ⟨rfl, rfl, k4⟩ := pr1
  refine X_st [] rfl ?_
  obtain ⟨Ft5, at5, ot5, qt5, eFt5, lFt5, uFt5, eat5, lat5, uat5, eot5, lot5, uot5, eqt5, lqt5, uqt5, kt5⟩ := k4
  have cat5 : at5 ≤ 300 := by have h9 := (show xTB (xv g2 wt) (xv g2 wp) tk tl cn from (by rw [(xv_m hg2 hs_wt (by decide) (by decide)), (xv_m hg2 hs_wp (by decide) (by decide))]; exact hp0)).2.2.2; omega
  refine X_iconst hK dX7_readCond_6 ?_
  refine X_istoren hK (i := 3) [(3, .int (iI 0)), (0, .ref a0), (1, .ref a1), (2, .int (iI x2))] dX7_readCond_7 rfl (by decide) rfl ?_
  have P120 : ∀ (nP120 : Nat) (g98 : xG) (_ : xM [(14000, 0), (11, 2), (8, 5), (8, 6), (8, 3), (8, 2)] S g2 g98) (z97 : Int) (_ : 0 ≤ z97) (_ : z97 ≤ 50) (q99 : Int) (_ : 0 ≤ q99) (_ : q99 ≤ 300) (_ : g98 a0 2 = .int (iI q99)) (q100 : Int) (_ : 0 ≤ q100) (_ : q100 ≤ 50) (_ : g98 a0 3 = .int (iI q100)) (q101 : Int) (_ : (-2147483648) ≤ q101) (_ : q101 ≤ 2147483647) (_ : g98 a0 5 = .int (iI q101)) (q102 : Int) (_ : 0 ≤ q102) (_ : q102 ≤ 300) (_ : g98 a0 6 = .int (iI q102)) (_ : xIn tk tl 2 1 na no q101 q99 q100 q102) (_ : q101 = 0 → no + 1 + z97 ≤ q100) (_ : q99 ≤ cn) (_ : 60 - z97 < (nP120 : Int)), X K E 8 [(3, .int (iI z97)), (0, .ref a0), (1, .ref a1), (2, .int (iI x2))] [] S g98 0 0 := by
    intro nP120
    induction nP120 with
    | zero => intro g98 hg98 z97 lz97 uz97 q99 lq99 uq99 eq99 q100 lq100 uq100 eq100 q101 lq101 uq101 eq101 q102 lq102 uq102 eq102 v121 v122 v123 mP120; exact False.elim (by omega)
    | succ nP120 ihP120 =>
      intro g98 hg98 z97 lz97 uz97 q99 lq99 uq99 eq99 q100 lq100 uq100 eq100 q101 lq101 uq101 eq101 q102 lq102 uq102 eq102 v121 v122 v123 mP120
      refine X_iloadn hK (i := 3) 0 dX7_readCond_8 rfl rfl ?_
      refine X_bipush hK dX7_readCond_9 (by decide) ?_
      refine X_icmp_ge hK 60 (by omega) (by omega) dX7_readCond_11 (by decide) (fun c124 => ?_) (fun c124 => ?_)
      · exact hret _ _ _ _ _ _ dX7_readCond_60 ⟨rfl, rfl, ⟨q101, q99, q100, q102, eq101, by omega, by omega, eq99, by omega, by omega, eq100, by omega, by omega, eq102, by omega, by omega, (xIn.e v121 (fun h9 => False.elim (by have h8 := v122 h9; omega)))⟩⟩ (Nat.le_refl _) (Nat.le_refl _)
      · refine X_aloadn hK (i := 0) 1 dX7_readCond_14 rfl rfl ?_
        refine X_getK hK fl_X7_29_8 hs_a0 eq101 dX7_readCond_15 ?_
        refine X_if_ne hK 60 (by omega) dX7_readCond_18 (by decide) (fun c125 => ?_) (fun c125 => ?_)
        · exact hret _ _ _ _ _ _ dX7_readCond_60 ⟨rfl, rfl, ⟨q101, q99, q100, q102, eq101, by omega, by omega, eq99, by omega, by omega, eq100, by omega, by omega, eq102, by omega, by omega, (xIn.e v121 (fun h9 => False.elim (by have h8 := v122 h9; omega)))⟩⟩ (Nat.le_refl _) (Nat.le_refl _)
        · refine X_aloadn hK (i := 0) 1 dX7_readCond_21 rfl rfl ?_
          refine X_callV hK [] [] lk_X7_47 (c3_now _ _ _ _ _ S g98 a0 q99 wt wp tk tl cn hs_a0 (by omega) eq99 ((hg98 a0 8 0 0 hs_a0 (by decide)).trans ((hg2 a0 8 0 0 hs_a0 (by decide)).trans ewt)) hs_wt ((hg98 a0 8 0 1 hs_a0 (by decide)).trans ((hg2 a0 8 0 1 hs_a0 (by decide)).trans ewp)) hs_wp (by rw [(Eq.trans (xv_m hg98 hs_wt (by decide) (by decide)) (xv_m hg2 hs_wt (by decide) (by decide))), (Eq.trans (xv_m hg98 hs_wp (by decide) (by decide)) (xv_m hg2 hs_wp (by decide) (by decide)))]; exact hp0) (by omega) (by omega)) hs_a0 ⟨by decide, rfl⟩ dX7_readCond_22 rfl rfl (by simp [Value.category]) (by decide) (by decide) (by decide) (by decide) (fun r126 S128 g127 pr126 qr126 hg127 => ?_)
          obtain ⟨rfl, rfl, z129, rfl, lz129, uz129, k130⟩ := pr126
          refine X_st [.int (iI z129)] rfl ?_
          refine X_bipush hK dX7_readCond_25 (by decide) ?_
          refine X_icmp_ne hK 60 (by omega) (by omega) dX7_readCond_27 (by decide) (fun c131 => ?_) (fun c131 => ?_)
          · exact hret _ _ _ _ _ _ dX7_readCond_60 ⟨rfl, rfl, ⟨q101, q99, q100, q102, eq101, by omega, by omega, eq99, by omega, by omega, eq100, by omega, by omega, eq102, by omega, by omega, (xIn.e v121 (fun h9 => Or.inr ⟨rfl, by rw [← k130]; omega⟩))⟩⟩ (Nat.le_refl _) (Nat.le_refl _)
          · refine X_aloadn hK (i := 0) 1 dX7_readCond_30 rfl rfl ?_
            refine X_dup hK dX7_readCond_31 rfl ?_
            have hl132 := xTB.lt (A := xv g98 wt) (B := xv g98 wp) (tk := tk) (tl := tl) (c := cn) (a := q99) (by rw [(Eq.trans (xv_m hg98 hs_wt (by decide) (by decide)) (xv_m hg2 hs_wt (by decide) (by decide))), (Eq.trans (xv_m hg98 hs_wp (by decide) (by decide)) (xv_m hg2 hs_wp (by decide) (by decide)))]; exact hp0) (by omega) (by rw [← k130]; omega)
            refine X_getK hK fl_X7_18_8 hs_a0 eq99 dX7_readCond_32 ?_
            refine X_iconst hK dX7_readCond_35 ?_
            refine X_iadd hK dX7_readCond_36 ?_
            refine X_puti hK fl_X7_18_8 hs_a0 (by decide) sl_8_2 (by omega) (by omega) dX7_readCond_37 (fun g133 hg133 => ?_)
            refine X_aloadn hK (i := 0) 1 dX7_readCond_40 rfl rfl ?_
            refine X_aloadn hK (i := 1) 2 dX7_readCond_41 rfl rfl ?_
            refine X_iloadn hK (i := 2) 3 dX7_readCond_42 rfl rfl ?_
            refine X_callV hK [.ref a1, .int (iI x2)] [] lk_X7_126 (c3_readAll_1 _ _ _ _ _ S g133 a0 a1 x2 (q99 + 1) q100 q101 q102 wt wp tk tl cn hs_a0 hs_a1 (by omega) (by omega) (xs_s hg133) (by omega) ((xs_k hg133 (by decide)).trans eq100) (by omega) ((xs_k hg133 (by decide)).trans eq101) (by omega) ((xs_k hg133 (by decide)).trans eq102) ((xs_k hg133 (by decide)).trans ((hg98 a0 8 0 0 hs_a0 (by decide)).trans ((hg2 a0 8 0 0 hs_a0 (by decide)).trans ewt))) hs_wt ((xs_k hg133 (by decide)).trans ((hg98 a0 8 0 1 hs_a0 (by decide)).trans ((hg2 a0 8 0 1 hs_a0 (by decide)).trans ewp))) hs_wp (by rw [(Eq.trans (Eq.trans (xv_a hg133 (xne hs_wt hs_a0 (by decide))) (xv_m hg98 hs_wt (by decide) (by decide))) (xv_m hg2 hs_wt (by decide) (by decide))), (Eq.trans (Eq.trans (xv_a hg133 (xne hs_wp hs_a0 (by decide))) (xv_m hg98 hs_wp (by decide) (by decide))) (xv_m hg2 hs_wp (by decide) (by decide)))]; exact hp0) (by omega) (by omega)) hs_a0 ⟨by decide, rfl⟩ dX7_readCond_43 rfl rfl (by simp [Value.category]) (by decide) (by decide) (by decide) (by decide) (fun r134 S136 g135 pr134 qr134 hg135 => ?_)
            obtain ⟨rfl, rfl, k137⟩ := pr134
            refine X_st [] rfl ?_
            obtain ⟨Ft138, at138, ot138, qt138, eFt138, lFt138, uFt138, eat138, lat138, uat138, eot138, lot138, uot138, eqt138, lqt138, uqt138, kt138⟩ := k137
            have cat138 : at138 ≤ 300 := by have h9 := (show xTB (xv g135 wt) (xv g135 wp) tk tl cn from (by rw [(Eq.trans (Eq.trans (Eq.trans (xv_m hg135 hs_wt (by decide) (by decide)) (xv_a hg133 (xne hs_wt hs_a0 (by decide)))) (xv_m hg98 hs_wt (by decide) (by decide))) (xv_m hg2 hs_wt (by decide) (by decide))), (Eq.trans (Eq.trans (Eq.trans (xv_m hg135 hs_wp (by decide) (by decide)) (xv_a hg133 (xne hs_wp hs_a0 (by decide)))) (xv_m hg98 hs_wp (by decide) (by decide))) (xv_m hg2 hs_wp (by decide) (by decide)))]; exact hp0)).2.2.2; omega
            refine X_aloadn hK (i := 1) 2 dX7_readCond_46 rfl rfl ?_
            refine X_bipush hK dX7_readCond_47 (by decide) ?_
            refine X_iconst hK dX7_readCond_49 ?_
            refine X_iconst hK dX7_readCond_50 ?_
            refine X_callV hK [.int (iI 14), .int (iI 0), .int (iI 0)] [] lk_X7_129 (c_X10_addStep _ _ _ _ _ S g135 a1 14 0 0 hs_a1 (by omega) (by omega) (by omega)) hs_a1 ⟨by decide, rfl⟩ dX7_readCond_51 rfl rfl (by simp [Value.category]) (by decide) (by decide) (by decide) (by decide) (fun r139 S141 g140 pr139 qr139 hg140 => ?_)
            obtain ⟨rfl, rfl⟩ := pr139
            refine X_st [] rfl ?_
            refine X_iinc hK (i := 3) (z := z97) (n := 1) 0 [(3, .int (iI (z97 + 1))), (0, .ref a0), (1, .ref a1), (2, .int (iI x2))] dX7_readCond_54 rfl (by decide) rfl ?_
            refine X_goto hK 8 dX7_readCond_57 (by decide) ?_
            exact ihP120  g140 (xM.tr (xM.tr (xM_up (xM.tr xM.rf xLe.rf hg98 (by decide)) hg133 hs_a0 (by decide) (by decide)) xLe.rf hg135 (by decide)) xLe.rf hg140 (by decide)) (z97 + 1) (by omega) (by omega) at138 (by omega) (by omega) ((hg140 a0 8 0 2 hs_a0 (by decide)).trans eat138) ot138 (by omega) (by omega) ((hg140 a0 8 0 3 hs_a0 (by decide)).trans eot138) Ft138 (by omega) (by omega) ((hg140 a0 8 0 5 hs_a0 (by decide)).trans eFt138) qt138 (by omega) (by omega) ((hg140 a0 8 0 6 hs_a0 (by decide)).trans eqt138) (xIn.s (Or.inr ⟨rfl, rfl, (by rw [← k130]; omega)⟩) v121 (by omega) kt138) (fun h9 => by have h8 := xRR.b1 kt138 h9; omega) (by omega) (by omega)
  exact P120 ((60 - 0 : Int).toNat + 1) g2 xM.rf 0 (by omega) (by omega) at5 (by omega) (by omega) eat5 ot5 (by omega) (by omega) eot5 Ft5 (by omega) (by omega) eFt5 qt5 (by omega) (by omega) eqt5 (xIn.z (Or.inr ⟨rfl, rfl⟩) kt5) (fun h9 => by have h8 := xRR.b1 kt5 h9; omega) (by omega) (by omega)
