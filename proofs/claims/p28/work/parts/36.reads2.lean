
set_option maxHeartbeats 4000000 in
set_option maxRecDepth 100000 in
theorem c3_now (l : Launch) (D : va_G) (kA : Nat → ClassId) (b0 : Nat) (t0 : Nat → Nat) (S : xT) (g : xG) (a0 : Nat) (na : Int) (wt : Nat) (wp : Nat) (tk : Int → Int) (tl : Int → Int) (cn : Int) (hs_a0 : S a0 = some (8, 0)) (hna : 0 ≤ na ∧ na ≤ 300) (ena : g a0 2 = .int (iI na)) (ewt : g a0 0 = .ref wt) (hs_wt : S wt = some (12900, 301)) (ewp : g a0 1 = .ref wp) (hs_wp : S wp = some (13000, 301)) (hp0 : xTB (xv g wt) (xv g wp) tk tl cn) (hp1 : na ≤ cn) (hp2 : cn ≤ 300) : xMt l yX7_now cX7_now 1 (some .int) 0 0 0 0 D kA b0 t0 [] [.ref a0] S g (fun (r : Option Value) (S1 : xT) (g1 : xG) => S = S1 ∧ g = g1 ∧ ∃ z : Int, r = some (.int (iI z)) ∧ 0 ≤ z ∧ z ≤ 10099 ∧ (z = tk na)) := by
  refine xEnterI (by decide) (by simp [lg_sl, Value.category]) [(0, .ref a0)] rfl ?_
  intro K E hK hret _ _ _
  refine X_aloadn hK (i := 0) 0 kd27_2.2.2.2.2.2.2.2.1 rfl rfl ?_
  refine X_getK hK fl_X7_18_8 hs_a0 ena kd27_2.2.2.2.2.2.2.2.2.1 ?_
  refine X_aloadn hK (i := 0) 0 kd27_2.2.2.2.2.2.2.2.2.2.1 rfl rfl ?_
  refine X_getK hK fl_X7_9_8 hs_a0 ewt kd27_2.2.2.2.2.2.2.2.2.2.2.1 ?_
  refine X_alen hK (i := 0) (ty := .int) hs_wt (by decide) (by decide) (fun _ => rfl) kd27_2.2.2.2.2.2.2.2.2.2.2.2 ?_
  refine X_icmp_ge hK 24 (by omega) (by omega) kd27_3.1 (by decide) (fun c1 => False.elim (by omega)) (fun c1 => ?_)
  refine X_aloadn hK (i := 0) 0 kd27_3.2.1 rfl rfl ?_
  refine X_getK hK fl_X7_9_8 hs_a0 ewt kd27_3.2.2.1 ?_
  refine X_aloadn hK (i := 0) 0 kd27_3.2.2.2.1 rfl rfl ?_
  refine X_getK hK fl_X7_18_8 hs_a0 ena kd27_3.2.2.2.2.1 ?_
  refine X_iald hK hs_wt (by decide) sl_12900 (by omega) (by omega) kd27_3.2.2.2.2.2.1 (fun z2 ez2 lz2 uz2 => ?_)
  have hw3 : xv g wt na = z2 := xv_e (j := na) ez2 (by omega)
  refine X_goto hK 26 kd27_3.2.2.2.2.2.2.1 (by decide) ?_
  exact hret _ _ _ _ _ _ _ kd27_3.2.2.2.2.2.2.2.2.1 ⟨rfl, rfl, z2, rfl, (by omega), (by omega), (by have h9 := (hp0.1 na (by omega) (by omega)).1; rw [hw3] at h9; exact h9)⟩ (Nat.le_refl _) (Nat.le_refl _)

set_option maxHeartbeats 4000000 in
set_option maxRecDepth 100000 in
theorem c3_tell (l : Launch) (D : va_G) (kA : Nat → ClassId) (b0 : Nat) (t0 : Nat → Nat) (S : xT) (g : xG) (a0 : Nat) (x1 : Int) (na : Int) (no : Int) (nf : Int) (nq : Int) (wt : Nat) (wp : Nat) (tk : Int → Int) (tl : Int → Int) (cn : Int) (hs_a0 : S a0 = some (8, 0)) (hx1 : 1 ≤ x1 ∧ x1 ≤ 4) (hna : 0 ≤ na ∧ na ≤ 300) (ena : g a0 2 = .int (iI na)) (hno : 0 ≤ no ∧ no ≤ 50) (eno : g a0 3 = .int (iI no)) (hnf : (-2147483648) ≤ nf ∧ nf ≤ 2147483647) (enf : g a0 5 = .int (iI nf)) (hnq : 0 ≤ nq ∧ nq ≤ 300) (enq : g a0 6 = .int (iI nq)) (ewt : g a0 0 = .ref wt) (hs_wt : S wt = some (12900, 301)) (ewp : g a0 1 = .ref wp) (hs_wp : S wp = some (13000, 301)) (hp0 : xTB (xv g wt) (xv g wp) tk tl cn) (hp1 : na ≤ cn) (hp2 : cn ≤ 300) : xMt l yX7_tell cX7_tell 2 none 0 0 0 0 D kA b0 t0 [(8, 5), (8, 6)] [.ref a0, .int (iI x1)] S g (fun (r : Option Value) (S1 : xT) (g1 : xG) => S = S1 ∧ r = none ∧ (∃ F a o q : Int, g1 a0 5 = .int (iI F) ∧ -2147483648 ≤ F ∧ F ≤ 2147483647 ∧ g1 a0 2 = .int (iI a) ∧ 0 ≤ a ∧ a ≤ cn ∧ g1 a0 3 = .int (iI o) ∧ 0 ≤ o ∧ o ≤ 50 ∧ g1 a0 6 = .int (iI q) ∧ 0 ≤ q ∧ q ≤ 300 ∧ ((nf ≠ 0 ∧ F = nf ∧ q = nq) ∨ (nf = 0 ∧ F = x1 ∧ q = tl na)) ∧ a = na ∧ o = no)) := by
  refine xEnterV (by decide) (by simp [lg_sl, Value.category]) [(0, .ref a0), (1, .int (iI x1))] rfl ?_
  intro K E hK hret _ _ _
  refine X_aloadn hK (i := 0) 0 kd27_3.2.2.2.2.2.2.2.2.2.1 rfl rfl ?_
  refine X_getK hK fl_X7_29_8 hs_a0 enf kd27_3.2.2.2.2.2.2.2.2.2.2.1 ?_
  refine X_if_ne hK 43 (by omega) kd27_3.2.2.2.2.2.2.2.2.2.2.2 (by decide) (fun c1 => ?_) (fun c1 => ?_)
  · exact hret _ _ _ _ _ _ kd27_5.2.2.2.2.2.2 ⟨rfl, rfl, ⟨nf, na, no, nq, enf, by omega, by omega, ena, by omega, by omega, eno, by omega, by omega, enq, by omega, by omega, ⟨by first | (exact Or.inl ⟨by omega, rfl, rfl⟩) | (exact False.elim (by have h9 := hp0.2.2.2; omega)), rfl, rfl⟩⟩⟩ (Nat.le_refl _) (Nat.le_refl _)
  · refine X_aloadn hK (i := 0) 0 kd27_4.1 rfl rfl ?_
    refine X_iloadn hK (i := 1) 1 kd27_4.2.1 rfl rfl ?_
    refine X_puti hK fl_X7_29_8 hs_a0 (by decide) sl_8_5 (by omega) (by omega) kd27_4.2.2.1 (fun g2 hg2 => ?_)
    refine X_aloadn hK (i := 0) 0 kd27_4.2.2.2.1 rfl rfl ?_
    refine X_aloadn hK (i := 0) 0 kd27_4.2.2.2.2.1 rfl rfl ?_
    refine X_getK hK fl_X7_18_8 hs_a0 ((xs_k hg2 (by decide)).trans ena) kd27_4.2.2.2.2.2.1 ?_
    refine X_aloadn hK (i := 0) 0 kd27_4.2.2.2.2.2.2.1 rfl rfl ?_
    refine X_getK hK fl_X7_15_8 hs_a0 ((xs_k hg2 (by decide)).trans ewp) kd27_4.2.2.2.2.2.2.2.1 ?_
    refine X_alen hK (i := 0) (ty := .int) hs_wp (by decide) (by decide) (fun _ => rfl) kd27_4.2.2.2.2.2.2.2.2.1 ?_
    refine X_icmp_ge hK 37 (by omega) (by omega) kd27_4.2.2.2.2.2.2.2.2.2.1 (by decide) (fun c3 => False.elim (by omega)) (fun c3 => ?_)
    refine X_aloadn hK (i := 0) 0 kd27_4.2.2.2.2.2.2.2.2.2.2.1 rfl rfl ?_
    refine X_getK hK fl_X7_15_8 hs_a0 ((xs_k hg2 (by decide)).trans ewp) kd27_4.2.2.2.2.2.2.2.2.2.2.2 ?_
    refine X_aloadn hK (i := 0) 0 kd27_5.1 rfl rfl ?_
    refine X_getK hK fl_X7_18_8 hs_a0 ((xs_k hg2 (by decide)).trans ena) kd27_5.2.1 ?_
    refine X_iald hK hs_wp (by decide) sl_13000 (by omega) (by omega) kd27_5.2.2.1 (fun z4 ez4 lz4 uz4 => ?_)
    have hw5 : xv g2 wp na = z4 := xv_e (j := na) ez4 (by omega)
    refine X_goto hK 40 kd27_5.2.2.2.1 (by decide) ?_
    refine X_puti hK fl_X7_32_8 hs_a0 (by decide) sl_8_6 (by omega) (by omega) kd27_5.2.2.2.2.2.1 (fun g6 hg6 => ?_)
    exact hret _ _ _ _ _ _ kd27_5.2.2.2.2.2.2 ⟨rfl, rfl, ⟨x1, na, no, z4, ((xs_k hg6 (by decide)).trans (xs_s hg2)), by omega, by omega, ((xs_k hg6 (by decide)).trans ((xs_k hg2 (by decide)).trans ena)), by omega, by omega, ((xs_k hg6 (by decide)).trans ((xs_k hg2 (by decide)).trans eno)), by omega, by omega, (xs_s hg6), by omega, by omega, ⟨Or.inr ⟨by omega, rfl, (by have h9 := (hp0.1 na (by omega) (by omega)).2; have h8 := hw5; rw [(xv_a hg2 (xne hs_wp hs_a0 (by decide)))] at h8; rw [h8] at h9; exact h9)⟩, rfl, rfl⟩⟩⟩ (Nat.le_refl _) (Nat.le_refl _)

set_option maxHeartbeats 4000000 in
set_option maxRecDepth 100000 in
theorem c3_expect (l : Launch) (D : va_G) (kA : Nat → ClassId) (b0 : Nat) (t0 : Nat → Nat) (S : xT) (g : xG) (a0 : Nat) (x1 : Int) (na : Int) (no : Int) (nf : Int) (nq : Int) (wt : Nat) (wp : Nat) (tk : Int → Int) (tl : Int → Int) (cn : Int) (hs_a0 : S a0 = some (8, 0)) (hx1 : 24 ≤ x1 ∧ x1 ≤ 26) (hna : 0 ≤ na ∧ na ≤ 300) (ena : g a0 2 = .int (iI na)) (hno : 0 ≤ no ∧ no ≤ 50) (eno : g a0 3 = .int (iI no)) (hnf : (-2147483648) ≤ nf ∧ nf ≤ 2147483647) (enf : g a0 5 = .int (iI nf)) (hnq : 0 ≤ nq ∧ nq ≤ 300) (enq : g a0 6 = .int (iI nq)) (ewt : g a0 0 = .ref wt) (hs_wt : S wt = some (12900, 301)) (ewp : g a0 1 = .ref wp) (hs_wp : S wp = some (13000, 301)) (hp0 : xTB (xv g wt) (xv g wp) tk tl cn) (hp1 : na ≤ cn) (hp2 : cn ≤ 300) : xMt l yX7_expect cX7_expect 2 none 1 0 0 21 D kA b0 t0 [(8, 5), (8, 6), (8, 2)] [.ref a0, .int (iI x1)] S g (fun (r : Option Value) (S1 : xT) (g1 : xG) => S = S1 ∧ r = none ∧ (∃ F a o q : Int, g1 a0 5 = .int (iI F) ∧ -2147483648 ≤ F ∧ F ≤ 2147483647 ∧ g1 a0 2 = .int (iI a) ∧ 0 ≤ a ∧ a ≤ cn ∧ g1 a0 3 = .int (iI o) ∧ 0 ≤ o ∧ o ≤ 50 ∧ g1 a0 6 = .int (iI q) ∧ 0 ≤ q ∧ q ≤ 300 ∧ ((tk na = x1 ∧ F = nf ∧ a = na + 1 ∧ q = nq) ∨ (tk na ≠ x1 ∧ a = na ∧ ((nf ≠ 0 ∧ F = nf ∧ q = nq) ∨ (nf = 0 ∧ F = 1 ∧ q = tl na)))) ∧ o = no)) := by
  refine xEnterV (by decide) (by simp [lg_sl, Value.category]) [(0, .ref a0), (1, .int (iI x1))] rfl ?_
  intro K E hK hret _ _ _
  refine X_aloadn hK (i := 0) 0 kd27_0.1 rfl rfl ?_
  refine X_callV hK [] [] lk_X7_47 (c3_now _ _ _ _ _ S g a0 na wt wp tk tl cn hs_a0 (by omega) ena ewt hs_wt ewp hs_wp hp0 (by omega) (by omega)) hs_a0 ⟨by decide, rfl⟩ kd27_0.2.1 rfl rfl (by simp [Value.category]) (by decide) (by decide) (by decide) (by decide) (fun r1 S3 g2 pr1 qr1 hg2 => ?_)
  obtain ⟨rfl, rfl, z4, rfl, lz4, uz4, k5⟩ := pr1
  refine X_st [.int (iI z4)] rfl ?_
  refine X_iloadn hK (i := 1) 1 kd27_0.2.2.1 rfl rfl ?_
  refine X_icmp_ne hK 21 (by omega) (by omega) kd27_0.2.2.2.1 (by decide) (fun c6 => ?_) (fun c6 => ?_)
  · refine X_aloadn hK (i := 0) 0 kd27_0.2.2.2.2.2.2.2.2.2.2.2 rfl rfl ?_
    refine X_iconst hK kd27_1.1 ?_
    refine X_callV hK [.int (iI 1)] [] lk_X7_60 (c3_tell _ _ _ _ _ S g a0 1 na no nf nq wt wp tk tl cn hs_a0 (by omega) (by omega) ena (by omega) eno (by omega) enf (by omega) enq ewt hs_wt ewp hs_wp hp0 (by omega) (by omega)) hs_a0 ⟨by decide, rfl⟩ kd27_1.2.1 rfl rfl (by simp [Value.category]) (by decide) (by decide) (by decide) (by decide) (fun r7 S9 g8 pr7 qr7 hg8 => ?_)
    obtain ⟨rfl, rfl, k10⟩ := pr7
    refine X_st [] rfl ?_
    obtain ⟨Ft11, at11, ot11, qt11, eFt11, lFt11, uFt11, eat11, lat11, uat11, eot11, lot11, uot11, eqt11, lqt11, uqt11, kt11⟩ := k10
    have cat11 : at11 ≤ 300 := by have h9 := (show xTB (xv g8 wt) (xv g8 wp) tk tl cn from (by rw [(xv_m hg8 hs_wt (by decide) (by decide)), (xv_m hg8 hs_wp (by decide) (by decide))]; exact hp0)).2.2.2; omega
    exact hret _ _ _ _ _ _ kd27_1.2.2.1 ⟨rfl, rfl, ⟨Ft11, at11, ot11, qt11, eFt11, by omega, by omega, eat11, by omega, by omega, eot11, by omega, by omega, eqt11, by omega, by omega, ⟨Or.inr ⟨by rw [← k5]; omega, by omega, kt11.1⟩, by omega⟩⟩⟩ (Nat.le_refl _) (Nat.le_refl _)
  · refine X_aloadn hK (i := 0) 0 kd27_0.2.2.2.2.1 rfl rfl ?_
    refine X_dup hK kd27_0.2.2.2.2.2.1 rfl ?_
    have hl12 := xTB.lt (A := xv g wt) (B := xv g wp) (tk := tk) (tl := tl) (c := cn) (a := na) hp0 (by omega) (by rw [← k5]; omega)
    refine X_getK hK fl_X7_18_8 hs_a0 ena kd27_0.2.2.2.2.2.2.1 ?_
    refine X_iconst hK kd27_0.2.2.2.2.2.2.2.1 ?_
    refine X_iadd hK kd27_0.2.2.2.2.2.2.2.2.1 ?_
    refine X_puti hK fl_X7_18_8 hs_a0 (by decide) sl_8_2 (by omega) (by omega) kd27_0.2.2.2.2.2.2.2.2.2.1 (fun g13 hg13 => ?_)
    refine X_goto hK 26 kd27_0.2.2.2.2.2.2.2.2.2.2.1 (by decide) ?_
    exact hret _ _ _ _ _ _ kd27_1.2.2.1 ⟨rfl, rfl, ⟨nf, (na + 1), no, nq, ((xs_k hg13 (by decide)).trans enf), by omega, by omega, (xs_s hg13), by omega, by omega, ((xs_k hg13 (by decide)).trans eno), by omega, by omega, ((xs_k hg13 (by decide)).trans enq), by omega, by omega, ⟨Or.inl ⟨by rw [← k5]; omega, rfl, rfl, rfl⟩, rfl⟩⟩⟩ (Nat.le_refl _) (Nat.le_refl _)
