
set_option maxHeartbeats 4000000 in
set_option maxRecDepth 100000 in
theorem m_addStep (l : Launch) (D : va_G) (kA : Nat → ClassId) (b0 : Nat) (t0 : Nat → Nat) (S : xT) (g : xG) (a0 : Nat) (x1 : Int) (x2 : Int) (x3 : Int) (ns : Int) (ws : Nat) (hs_a0 : S a0 = some (11, 0)) (hx1 : 0 ≤ x1 ∧ x1 ≤ 14) (hx2 : 0 ≤ x2 ∧ x2 ≤ 2) (hx3 : 0 ≤ x3 ∧ x3 ≤ 9999) (hns : 0 ≤ ns ∧ ns ≤ 100) (ens : g a0 2 = .int (iI ns)) (ews : g a0 7 = .ref ws) (hs_ws : S ws = some (14000, 100)) : xMt l yX10_addStep cX10_addStep 4 none 0 0 0 0 D kA b0 t0 [(14000, 0), (11, 2)] [.ref a0, .int (iI x1), .int (iI x2), .int (iI x3)] S g (fun (r : Option Value) (S1 : xT) (g1 : xG) => S = S1 ∧ r = none ∧ (g1 a0 2 = .int (iI (if ns < 100 then ns + 1 else ns))) ∧ ((ns < 100 → xv g1 ws ns = x1 + 16 * x2 + 64 * x3 ∧ ∀ i : Int, 0 ≤ i → i ≠ ns → xv g1 ws i = xv g ws i) ∧ (¬ ns < 100 → xv g1 ws = xv g ws)) ∧ (xFr 14000 S g g1 ws) ∧ (xFr 11 S g g1 a0)) := by
  refine xEnterV (by decide) (by simp [lg_sl, Value.category]) [(0, .ref a0), (1, .int (iI x1)), (2, .int (iI x2)), (3, .int (iI x3))] rfl ?_
  intro K E hK hret _ _ _
  refine X_aloadn hK (i := 0) 0 kd23_3.1 rfl rfl ?_
  refine X_getK hK fl_X10_18_11 hs_a0 ens kd23_3.2.1 ?_
  refine X_bipush hK kd23_3.2.2.1 (by decide) ?_
  refine X_icmp_ge hK 39 (by omega) (by omega) kd23_3.2.2.2.1 (by decide) (fun c1 => ?_) (fun c1 => ?_)
  · exact hret _ _ _ _ _ _ kd23_5.1 ⟨rfl, rfl, (ens.trans (by congr 2 <;> omega)), ⟨fun h9 => by omega, fun _ => rfl⟩, xFr.rf, xFr.rf⟩ (Nat.le_refl _) (Nat.le_refl _)
  · refine X_aloadn hK (i := 0) 0 kd23_3.2.2.2.2.1 rfl rfl ?_
    refine X_getK hK fl_X10_34_11 hs_a0 ews kd23_3.2.2.2.2.2.1 ?_
    refine X_aloadn hK (i := 0) 0 kd23_3.2.2.2.2.2.2.1 rfl rfl ?_
    refine X_getK hK fl_X10_18_11 hs_a0 ens kd23_3.2.2.2.2.2.2.2.1 ?_
    refine X_iloadn hK (i := 1) 1 kd23_3.2.2.2.2.2.2.2.2.1 rfl rfl ?_
    refine X_bipush hK kd23_3.2.2.2.2.2.2.2.2.2.1 (by decide) ?_
    refine X_iloadn hK (i := 2) 2 kd23_3.2.2.2.2.2.2.2.2.2.2.1 rfl rfl ?_
    refine X_imul hK kd23_3.2.2.2.2.2.2.2.2.2.2.2 ?_
    refine X_iadd hK kd23_4.1 ?_
    refine X_bipush hK kd23_4.2.1 (by decide) ?_
    refine X_iloadn hK (i := 3) 3 kd23_4.2.2.1 rfl rfl ?_
    refine X_imul hK kd23_4.2.2.2.1 ?_
    refine X_iadd hK kd23_4.2.2.2.2.1 ?_
    refine X_iast4 hK hs_ws (by decide) (by decide) sl_14000 (by omega) (by omega) (by omega) (by omega) (by omega) kd23_4.2.2.2.2.2.1 (fun g2 hg2 => ?_)
    refine X_aloadn hK (i := 0) 0 kd23_4.2.2.2.2.2.2.1 rfl rfl ?_
    refine X_dup hK kd23_4.2.2.2.2.2.2.2.1 rfl ?_
    refine X_getK hK fl_X10_18_11 hs_a0 ((xs_a hg2 (xne hs_a0 hs_ws (by decide))).trans ens) kd23_4.2.2.2.2.2.2.2.2.1 ?_
    refine X_iconst hK kd23_4.2.2.2.2.2.2.2.2.2.1 ?_
    refine X_iadd hK kd23_4.2.2.2.2.2.2.2.2.2.2.1 ?_
    refine X_puti hK fl_X10_18_11 hs_a0 (by decide) sl_11_2 (by omega) (by omega) kd23_4.2.2.2.2.2.2.2.2.2.2.2 (fun g3 hg3 => ?_)
    exact hret _ _ _ _ _ _ kd23_5.1 ⟨rfl, rfl, ((xs_s hg3).trans (by congr 2 <;> omega)), ⟨fun _ => ⟨(Eq.trans (show xv g3 ws ns = ((x1 + (16 * x2)) + (64 * x3)) from by rw [(xv_a hg3 (xne hs_ws hs_a0 (by decide))), xv_s hg2 (by omega)]) (by omega)), (fun i9 hi9 h09 => (show xv g3 ws i9 = xv g ws i9 from by rw [(xv_a hg3 (xne hs_ws hs_a0 (by decide))), (xv_k (i := i9) hg2 (by omega) (by omega) (by omega))]))⟩, fun h9 => absurd (by omega) h9⟩, (xFr.t (xFr.w xFr.rf hg2) hg3 hs_a0 (by decide)), (xFr.w (xFr.t xFr.rf hg2 hs_ws (by decide)) hg3)⟩ (Nat.le_refl _) (Nat.le_refl _)

set_option maxHeartbeats 4000000 in
set_option maxRecDepth 100000 in
theorem m_readFact (l : Launch) (D : va_G) (kA : Nat → ClassId) (b0 : Nat) (t0 : Nat → Nat) (S : xT) (g : xG) (a0 : Nat) (a1 : Nat) (x2 : Int) (na : Int) (no : Int) (nf : Int) (nq : Int) (wt : Nat) (wp : Nat) (ns : Int) (ws : Nat) (tk : Int → Int) (tl : Int → Int) (cn : Int) (L : List xS3) (b : Int) (s0 : Int → Int) (dd : Int) (hs_a0 : S a0 = some (8, 0)) (hs_a1 : S a1 = some (11, 0)) (hx2 : 0 ≤ x2 ∧ x2 ≤ 11) (hna : 1 ≤ na ∧ na ≤ 300) (ena : g a0 2 = .int (iI na)) (hno : 1 ≤ no ∧ no ≤ 50) (eno : g a0 3 = .int (iI no)) (hnf : 0 ≤ nf ∧ nf ≤ 0) (enf : g a0 5 = .int (iI nf)) (hnq : 0 ≤ nq ∧ nq ≤ 300) (enq : g a0 6 = .int (iI nq)) (ewt : g a0 0 = .ref wt) (hs_wt : S wt = some (12900, 301)) (ewp : g a0 1 = .ref wp) (hs_wp : S wp = some (13000, 301)) (hns : 0 ≤ ns ∧ ns ≤ 100) (ens : g a1 2 = .int (iI ns)) (ews : g a1 7 = .ref ws) (hs_ws : S ws = some (14000, 100)) (hp0 : xTB (xv g wt) (xv g wp) tk tl cn) (hp1 : na ≤ cn) (hp2 : cn ≤ 300) (hp3 : xStq (xv g ws) s0 b ns L) (hp4 : 0 ≤ b) (hp5 : ns ≤ 2 * (no - 1)) (hp6 : tk (na - 1) = x2 + 10) (hp7 : dd ≤ 10) : xMt l yX7_readFact cX7_readFact 5 none 1 0 0 23 D kA b0 t0 [(8, 5), (8, 6), (8, 2), (14000, 0), (11, 2)] [.ref a0, .ref a1, .int (iI x2)] S g (fun (r : Option Value) (S1 : xT) (g1 : xG) => S = S1 ∧ r = none ∧ (∃ F a o q n : Int, g1 a0 5 = .int (iI F) ∧ -2147483648 ≤ F ∧ F ≤ 2147483647 ∧ g1 a0 2 = .int (iI a) ∧ 0 ≤ a ∧ a ≤ cn ∧ g1 a0 3 = .int (iI o) ∧ 0 ≤ o ∧ o ≤ 50 ∧ g1 a0 6 = .int (iI q) ∧ 0 ≤ q ∧ q ≤ 300 ∧ g1 a1 2 = .int (iI n) ∧ 0 ≤ n ∧ n ≤ 100 ∧ ∃ L1 : List xS3, xRC tk tl 0 dd (na - 1) (no - 1) L F a o q L1 ∧ (F = 0 → xStq (xv g1 ws) s0 b n L1) ∧ xFr 14000 S g g1 ws ∧ xFr 11 S g g1 a1)) := by
  refine xEnterV (by decide) (by simp [lg_sl, Value.category]) [(0, .ref a0), (1, .ref a1), (2, .int (iI x2))] rfl ?_
  intro K E hK hret _ _ _
  refine X_iloadn hK (i := 2) 2 kd29_5.2.2.2.2.2.2.2.2.1 rfl rfl ?_
  refine X_iconst hK kd29_5.2.2.2.2.2.2.2.2.2.1 ?_
  refine X_icmp_ge hK 13 (by omega) (by omega) kd29_5.2.2.2.2.2.2.2.2.2.2.1 (by decide) (fun c1 => ?_) (fun c1 => ?_)
  · refine X_aloadn hK (i := 0) 0 kd29_6.2.2.2.2.2.1 rfl rfl ?_
    refine X_callV hK [] [] lk_X7_47 (c3_now _ _ _ _ _ S g a0 na wt wp tk tl cn hs_a0 (by omega) ena ewt hs_wt ewp hs_wp hp0 (by omega) (by omega)) hs_a0 ⟨by decide, rfl⟩ kd29_6.2.2.2.2.2.2.1 rfl rfl (by simp [Value.category]) (by decide) (by decide) (by decide) (by decide) (fun r2 S4 g3 pr2 qr2 hg3 => ?_)
    obtain ⟨rfl, rfl, z5, rfl, lz5, uz5, k6⟩ := pr2
    refine X_st [.int (iI z5)] rfl ?_
    refine X_istoren hK (i := 3) [(3, .int (iI z5)), (0, .ref a0), (1, .ref a1), (2, .int (iI x2))] kd29_6.2.2.2.2.2.2.2.1 rfl (by decide) rfl ?_
    refine X_iloadn hK (i := 3) 0 kd29_6.2.2.2.2.2.2.2.2.1 rfl rfl ?_
    refine X_bipush hK kd29_6.2.2.2.2.2.2.2.2.2.1 (by decide) ?_
    refine X_icmp_lt hK 30 (by omega) (by omega) kd29_6.2.2.2.2.2.2.2.2.2.2.1 (by decide) (fun c7 => ?_) (fun c7 => ?_)
    · refine X_aloadn hK (i := 0) 1 kd29_7.2.2.1 rfl rfl ?_
      refine X_iconst hK kd29_7.2.2.2.1 ?_
      refine X_callV hK [.int (iI 1)] [] lk_X7_60 (c3_tell _ _ _ _ _ S g a0 1 na no nf nq wt wp tk tl cn hs_a0 (by omega) (by omega) ena (by omega) eno (by omega) enf (by omega) enq ewt hs_wt ewp hs_wp hp0 (by omega) (by omega)) hs_a0 ⟨by decide, rfl⟩ kd29_7.2.2.2.2.1 rfl rfl (by simp [Value.category]) (by decide) (by decide) (by decide) (by decide) (fun r8 S10 g9 pr8 qr8 hg9 => ?_)
      obtain ⟨rfl, rfl, k11⟩ := pr8
      refine X_st [] rfl ?_
      obtain ⟨Ft12, at12, ot12, qt12, eFt12, lFt12, uFt12, eat12, lat12, uat12, eot12, lot12, uot12, eqt12, lqt12, uqt12, kt12⟩ := k11
      have cat12 : at12 ≤ 300 := by have h9 := (show xTB (xv g9 wt) (xv g9 wp) tk tl cn from (by rw [(xv_m hg9 hs_wt (by decide) (by decide)), (xv_m hg9 hs_wp (by decide) (by decide))]; exact hp0)).2.2.2; omega
      exact hret _ _ _ _ _ _ kd29_7.2.2.2.2.2.1 ⟨rfl, rfl, ⟨Ft12, at12, ot12, qt12, ns, eFt12, by omega, by omega, eat12, by omega, by omega, eot12, by omega, by omega, eqt12, by omega, by omega, ((hg9 a1 11 0 2 hs_a1 (by decide)).trans ens), by omega, by omega, [], (by obtain ⟨h8, h7, h6⟩ := kt12; have h5 := h8.resolve_left (fun q9 => by omega); rw [h5.2.1]; exact xRC.fs (by omega) (by omega) (by rw [show na - 1 + 1 = na by omega, ← k6]; omega) (by rw [show na - 1 + 1 = na by omega]; exact h5.2.2)), (fun h9 => by have h8 := kt12; omega), (xFr.m xFr.rf hg9 (by decide)), (xFr.m xFr.rf hg9 (by decide))⟩⟩ (Nat.le_refl _) (Nat.le_refl _)
    · refine X_iloadn hK (i := 3) 0 kd29_6.2.2.2.2.2.2.2.2.2.2.2 rfl rfl ?_
      refine X_bipush hK kd29_7.1 (by decide) ?_
      refine X_icmp_le hK 36 (by omega) (by omega) kd29_7.2.1 (by decide) (fun c13 => ?_) (fun c13 => ?_)
      · refine X_aloadn hK (i := 0) 1 kd29_7.2.2.2.2.2.2.1 rfl rfl ?_
        refine X_dup hK kd29_7.2.2.2.2.2.2.2.1 rfl ?_
        have hl14 := xTB.lt (A := xv g wt) (B := xv g wp) (tk := tk) (tl := tl) (c := cn) (a := na) hp0 (by omega) (by rw [← k6]; omega)
        refine X_getK hK fl_X7_18_8 hs_a0 ena kd29_7.2.2.2.2.2.2.2.2.1 ?_
        refine X_iconst hK kd29_7.2.2.2.2.2.2.2.2.2.1 ?_
        refine X_iadd hK kd29_7.2.2.2.2.2.2.2.2.2.2.1 ?_
        refine X_puti hK fl_X7_18_8 hs_a0 (by decide) sl_8_2 (by omega) (by omega) kd29_7.2.2.2.2.2.2.2.2.2.2.2 (fun g15 hg15 => ?_)
        refine X_aloadn hK (i := 0) 1 kd29_8.1 rfl rfl ?_
        refine X_callV hK [] [] lk_X7_47 (c3_now _ _ _ _ _ S g15 a0 (na + 1) wt wp tk tl cn hs_a0 (by omega) (xs_s hg15) ((xs_k hg15 (by decide)).trans ewt) hs_wt ((xs_k hg15 (by decide)).trans ewp) hs_wp (by rw [(xv_a hg15 (xne hs_wt hs_a0 (by decide))), (xv_a hg15 (xne hs_wp hs_a0 (by decide)))]; exact hp0) (by omega) (by omega)) hs_a0 ⟨by decide, rfl⟩ kd29_8.2.1 rfl rfl (by simp [Value.category]) (by decide) (by decide) (by decide) (by decide) (fun r16 S18 g17 pr16 qr16 hg17 => ?_)
        obtain ⟨rfl, rfl, z19, rfl, lz19, uz19, k20⟩ := pr16
        refine X_st [.int (iI z19)] rfl ?_
        refine X_bipush hK kd29_8.2.2.1 (by decide) ?_
        refine X_isub hK kd29_8.2.2.2.1 ?_
        refine X_istore hK (i := 4) [(4, .int (iI (z19 - 100))), (3, .int (iI z5)), (0, .ref a0), (1, .ref a1), (2, .int (iI x2))] kd29_8.2.2.2.2.1 (by decide) rfl ?_
        refine X_iload hK (i := 4) 0 kd29_8.2.2.2.2.2.1 rfl ?_
        refine X_if_ge hK 66 (by omega) kd29_8.2.2.2.2.2.2.1 (by decide) (fun c21 => ?_) (fun c21 => ?_)
        · refine X_aloadn hK (i := 0) 2 kd29_8.2.2.2.2.2.2.2.2.2.2.2 rfl rfl ?_
          refine X_dup hK kd29_9.1 rfl ?_
          have hl22 := xTB.lt (A := xv g15 wt) (B := xv g15 wp) (tk := tk) (tl := tl) (c := cn) (a := (na + 1)) (by rw [(xv_a hg15 (xne hs_wt hs_a0 (by decide))), (xv_a hg15 (xne hs_wp hs_a0 (by decide)))]; exact hp0) (by omega) (by rw [← k20]; omega)
          refine X_getK hK fl_X7_18_8 hs_a0 (xs_s hg15) kd29_9.2.1 ?_
          refine X_iconst hK kd29_9.2.2.1 ?_
          refine X_iadd hK kd29_9.2.2.2.1 ?_
          refine X_puti hK fl_X7_18_8 hs_a0 (by decide) sl_8_2 (by omega) (by omega) kd29_9.2.2.2.2.1 (fun g23 hg23 => ?_)
          refine X_aloadn hK (i := 1) 3 kd29_9.2.2.2.2.2.1 rfl rfl ?_
          refine X_iloadn hK (i := 2) 4 kd29_9.2.2.2.2.2.2.1 rfl rfl ?_
          refine X_iloadn hK (i := 3) 1 kd29_9.2.2.2.2.2.2.2.1 rfl rfl ?_
          refine X_bipush hK kd29_9.2.2.2.2.2.2.2.2.1 (by decide) ?_
          refine X_isub hK kd29_9.2.2.2.2.2.2.2.2.2.1 ?_
          refine X_iload hK (i := 4) 0 kd29_9.2.2.2.2.2.2.2.2.2.2.1 rfl ?_
          refine X_callV hK [.int (iI x2), .int (iI (z5 - 27)), .int (iI (z19 - 100))] [] lk_X7_129 (m_addStep _ _ _ _ _ S g23 a1 x2 (z5 - 27) (z19 - 100) ns ws hs_a1 (by omega) (by omega) (by omega) (by omega) ((xs_a hg23 (xne hs_a1 hs_a0 (by decide))).trans ((xs_a hg15 (xne hs_a1 hs_a0 (by decide))).trans ens)) ((xs_k hg23 (by decide)).trans ((xs_k hg15 (by decide)).trans ews)) hs_ws) hs_a1 ⟨by decide, rfl⟩ kd29_9.2.2.2.2.2.2.2.2.2.2.2 rfl rfl (by simp [Value.category]) (by decide) (by decide) (by decide) (by decide) (fun r24 S26 g25 pr24 qr24 hg25 => ?_)
          obtain ⟨rfl, rfl, k27, k28, k29, k30⟩ := pr24
          refine X_st [] rfl ?_
          exact hret _ _ _ _ _ _ kd29_10.1 ⟨rfl, rfl, ⟨nf, ((na + 1) + 1), no, nq, (if ns < 100 then ns + 1 else ns), ((hg25 a0 8 0 5 hs_a0 (by decide)).trans ((xs_k hg23 (by decide)).trans ((xs_k hg15 (by decide)).trans enf))), by omega, by omega, ((hg25 a0 8 0 2 hs_a0 (by decide)).trans (xs_s hg23)), by omega, by omega, ((hg25 a0 8 0 3 hs_a0 (by decide)).trans ((xs_k hg23 (by decide)).trans ((xs_k hg15 (by decide)).trans eno))), by omega, by omega, ((hg25 a0 8 0 6 hs_a0 (by decide)).trans ((xs_k hg23 (by decide)).trans ((xs_k hg15 (by decide)).trans enq))), by omega, by omega, k27, by omega, by omega, (L ++ [(tk (na - 1) - 10, tk (na - 1 + 1) - 27, tk (na - 1 + 2) - 100)]), (by rw [show nf = 0 by omega]; exact xRC.cmp (by omega) (by omega) (by rw [show na - 1 + 1 = na by omega, ← k6]; omega) (by rw [show na - 1 + 2 = na + 1 by omega, ← k20]; omega) (by omega) (by omega) rfl), (fun h9 => (by have h6 := k6; have h5 := k20; rw [show na - 1 + 1 = na by omega, show na - 1 + 2 = na + 1 by omega]; exact (by have h9 := (xStq.add (x := (tk (na - 1) - 10, tk na - 27, tk (na + 1) - 100)) (by have h7 := hp3; rw [← (Eq.trans (xv_a hg23 (xne hs_ws hs_a0 (by decide))) (xv_a hg15 (xne hs_ws hs_a0 (by decide))))] at h7; exact h7) (by omega) (by have h4a := (k28.1 (by omega)).1; unfold xec9; (try dsimp only); omega) (k28.1 (by omega)).2); rw [if_pos (by omega)]; exact h9))), (xFr.tr (xFr.t (xFr.t xFr.rf hg15 hs_a0 (by decide)) hg23 hs_a0 (by decide)) k29), (xFr.tr (xFr.t (xFr.t xFr.rf hg15 hs_a0 (by decide)) hg23 hs_a0 (by decide)) k30)⟩⟩ (Nat.le_refl _) (Nat.le_refl _)
        · refine X_aloadn hK (i := 0) 2 kd29_8.2.2.2.2.2.2.2.1 rfl rfl ?_
          refine X_iconst hK kd29_8.2.2.2.2.2.2.2.2.1 ?_
          refine X_callV hK [.int (iI 1)] [] lk_X7_60 (c3_tell _ _ _ _ _ S g15 a0 1 (na + 1) no nf nq wt wp tk tl cn hs_a0 (by omega) (by omega) (xs_s hg15) (by omega) ((xs_k hg15 (by decide)).trans eno) (by omega) ((xs_k hg15 (by decide)).trans enf) (by omega) ((xs_k hg15 (by decide)).trans enq) ((xs_k hg15 (by decide)).trans ewt) hs_wt ((xs_k hg15 (by decide)).trans ewp) hs_wp (by rw [(xv_a hg15 (xne hs_wt hs_a0 (by decide))), (xv_a hg15 (xne hs_wp hs_a0 (by decide)))]; exact hp0) (by omega) (by omega)) hs_a0 ⟨by decide, rfl⟩ kd29_8.2.2.2.2.2.2.2.2.2.1 rfl rfl (by simp [Value.category]) (by decide) (by decide) (by decide) (by decide) (fun r31 S33 g32 pr31 qr31 hg32 => ?_)
          obtain ⟨rfl, rfl, k34⟩ := pr31
          refine X_st [] rfl ?_
          obtain ⟨Ft35, at35, ot35, qt35, eFt35, lFt35, uFt35, eat35, lat35, uat35, eot35, lot35, uot35, eqt35, lqt35, uqt35, kt35⟩ := k34
          have cat35 : at35 ≤ 300 := by have h9 := (show xTB (xv g32 wt) (xv g32 wp) tk tl cn from (by rw [(Eq.trans (xv_m hg32 hs_wt (by decide) (by decide)) (xv_a hg15 (xne hs_wt hs_a0 (by decide)))), (Eq.trans (xv_m hg32 hs_wp (by decide) (by decide)) (xv_a hg15 (xne hs_wp hs_a0 (by decide))))]; exact hp0)).2.2.2; omega
          exact hret _ _ _ _ _ _ kd29_8.2.2.2.2.2.2.2.2.2.2.1 ⟨rfl, rfl, ⟨Ft35, at35, ot35, qt35, ns, eFt35, by omega, by omega, eat35, by omega, by omega, eot35, by omega, by omega, eqt35, by omega, by omega, ((hg32 a1 11 0 2 hs_a1 (by decide)).trans ((xs_a hg15 (xne hs_a1 hs_a0 (by decide))).trans ens)), by omega, by omega, [], (by obtain ⟨h8, h7, h6⟩ := kt35; have h5 := h8.resolve_left (fun q9 => by omega); rw [h5.2.1]; exact xRC.fn (by omega) (by omega) (by rw [show na - 1 + 1 = na by omega, ← k6]; omega) (by rw [show na - 1 + 2 = na + 1 by omega, ← k20]; omega) (by rw [show na - 1 + 2 = na + 1 by omega]; exact h5.2.2)), (fun h9 => by have h8 := kt35; omega), (xFr.m (xFr.t xFr.rf hg15 hs_a0 (by decide)) hg32 (by decide)), (xFr.m (xFr.t xFr.rf hg15 hs_a0 (by decide)) hg32 (by decide))⟩⟩ (Nat.le_refl _) (Nat.le_refl _)
      · refine X_aloadn hK (i := 0) 1 kd29_7.2.2.1 rfl rfl ?_
        refine X_iconst hK kd29_7.2.2.2.1 ?_
        refine X_callV hK [.int (iI 1)] [] lk_X7_60 (c3_tell _ _ _ _ _ S g a0 1 na no nf nq wt wp tk tl cn hs_a0 (by omega) (by omega) ena (by omega) eno (by omega) enf (by omega) enq ewt hs_wt ewp hs_wp hp0 (by omega) (by omega)) hs_a0 ⟨by decide, rfl⟩ kd29_7.2.2.2.2.1 rfl rfl (by simp [Value.category]) (by decide) (by decide) (by decide) (by decide) (fun r36 S38 g37 pr36 qr36 hg37 => ?_)
        obtain ⟨rfl, rfl, k39⟩ := pr36
        refine X_st [] rfl ?_
        obtain ⟨Ft40, at40, ot40, qt40, eFt40, lFt40, uFt40, eat40, lat40, uat40, eot40, lot40, uot40, eqt40, lqt40, uqt40, kt40⟩ := k39
        have cat40 : at40 ≤ 300 := by have h9 := (show xTB (xv g37 wt) (xv g37 wp) tk tl cn from (by rw [(xv_m hg37 hs_wt (by decide) (by decide)), (xv_m hg37 hs_wp (by decide) (by decide))]; exact hp0)).2.2.2; omega
        exact hret _ _ _ _ _ _ kd29_7.2.2.2.2.2.1 ⟨rfl, rfl, ⟨Ft40, at40, ot40, qt40, ns, eFt40, by omega, by omega, eat40, by omega, by omega, eot40, by omega, by omega, eqt40, by omega, by omega, ((hg37 a1 11 0 2 hs_a1 (by decide)).trans ens), by omega, by omega, [], (by obtain ⟨h8, h7, h6⟩ := kt40; have h5 := h8.resolve_left (fun q9 => by omega); rw [h5.2.1]; exact xRC.fs (by omega) (by omega) (by rw [show na - 1 + 1 = na by omega, ← k6]; omega) (by rw [show na - 1 + 1 = na by omega]; exact h5.2.2)), (fun h9 => by have h8 := kt40; omega), (xFr.m xFr.rf hg37 (by decide)), (xFr.m xFr.rf hg37 (by decide))⟩⟩ (Nat.le_refl _) (Nat.le_refl _)
  · refine X_aloadn hK (i := 1) 1 kd29_5.2.2.2.2.2.2.2.2.2.2.2 rfl rfl ?_
    refine X_iloadn hK (i := 2) 2 kd29_6.1 rfl rfl ?_
    refine X_iconst hK kd29_6.2.1 ?_
    refine X_iconst hK kd29_6.2.2.1 ?_
    refine X_callV hK [.int (iI x2), .int (iI 2), .int (iI 0)] [] lk_X7_129 (m_addStep _ _ _ _ _ S g a1 x2 2 0 ns ws hs_a1 (by omega) (by omega) (by omega) (by omega) ens ews hs_ws) hs_a1 ⟨by decide, rfl⟩ kd29_6.2.2.2.1 rfl rfl (by simp [Value.category]) (by decide) (by decide) (by decide) (by decide) (fun r41 S43 g42 pr41 qr41 hg42 => ?_)
    obtain ⟨rfl, rfl, k44, k45, k46, k47⟩ := pr41
    refine X_st [] rfl ?_
    exact hret _ _ _ _ _ _ kd29_6.2.2.2.2.1 ⟨rfl, rfl, ⟨nf, na, no, nq, (if ns < 100 then ns + 1 else ns), ((hg42 a0 8 0 5 hs_a0 (by decide)).trans enf), by omega, by omega, ((hg42 a0 8 0 2 hs_a0 (by decide)).trans ena), by omega, by omega, ((hg42 a0 8 0 3 hs_a0 (by decide)).trans eno), by omega, by omega, ((hg42 a0 8 0 6 hs_a0 (by decide)).trans enq), by omega, by omega, k44, by omega, by omega, (L ++ [(tk (na - 1) - 10, 2, 0)]), (by rw [show nf = 0 by omega]; exact xRC.flag (by omega) (by omega) (by omega) (by omega) rfl), (fun h9 => (by have h9 := (xStq.add (x := (tk (na - 1) - 10, 2, 0)) hp3 (by omega) (by have h4a := (k45.1 (by omega)).1; unfold xec9; (try dsimp only); omega) (k45.1 (by omega)).2); rw [if_pos (by omega)]; exact h9)), (xFr.tr xFr.rf k46), (xFr.tr xFr.rf k47)⟩⟩ (Nat.le_refl _) (Nat.le_refl _)

set_option maxHeartbeats 4000000 in
set_option maxRecDepth 100000 in
theorem m_readOne_11 (l : Launch) (D : va_G) (kA : Nat → ClassId) (b0 : Nat) (t0 : Nat → Nat) (S : xT) (g : xG) (a0 : Nat) (a1 : Nat) (x2 : Int) (na : Int) (no : Int) (nf : Int) (nq : Int) (wt : Nat) (wp : Nat) (ns : Int) (ws : Nat) (tk : Int → Int) (tl : Int → Int) (cn : Int) (L : List xS3) (b : Int) (s0 : Int → Int) (hs_a0 : S a0 = some (8, 0)) (hs_a1 : S a1 = some (11, 0)) (hx2 : 11 ≤ x2 ∧ x2 ≤ 11) (hna : 0 ≤ na ∧ na ≤ 300) (ena : g a0 2 = .int (iI na)) (hno : 0 ≤ no ∧ no ≤ 50) (eno : g a0 3 = .int (iI no)) (hnf : 0 ≤ nf ∧ nf ≤ 0) (enf : g a0 5 = .int (iI nf)) (hnq : 0 ≤ nq ∧ nq ≤ 300) (enq : g a0 6 = .int (iI nq)) (ewt : g a0 0 = .ref wt) (hs_wt : S wt = some (12900, 301)) (ewp : g a0 1 = .ref wp) (hs_wp : S wp = some (13000, 301)) (hns : 0 ≤ ns ∧ ns ≤ 100) (ens : g a1 2 = .int (iI ns)) (ews : g a1 7 = .ref ws) (hs_ws : S ws = some (14000, 100)) (hp0 : xTB (xv g wt) (xv g wp) tk tl cn) (hp1 : na ≤ cn) (hp2 : cn ≤ 300) (hp3 : xStq (xv g ws) s0 b ns L) (hp4 : 0 ≤ b) (hp5 : ns ≤ 2 * no) : xMt l yX7_readOne cX7_readOne 5 none 1 0 0 21 D kA b0 t0 [(8, 5), (8, 6)] [.ref a0, .ref a1, .int (iI x2)] S g (fun (r : Option Value) (S1 : xT) (g1 : xG) => S = S1 ∧ r = none ∧ (∃ F a o q n : Int, g1 a0 5 = .int (iI F) ∧ -2147483648 ≤ F ∧ F ≤ 2147483647 ∧ g1 a0 2 = .int (iI a) ∧ 0 ≤ a ∧ a ≤ cn ∧ g1 a0 3 = .int (iI o) ∧ 0 ≤ o ∧ o ≤ 50 ∧ g1 a0 6 = .int (iI q) ∧ 0 ≤ q ∧ q ≤ 300 ∧ g1 a1 2 = .int (iI n) ∧ 0 ≤ n ∧ n ≤ 100 ∧ ∃ L1 : List xS3, xRC tk tl 0 11 na no L F a o q L1 ∧ (F = 0 → xStq (xv g1 ws) s0 b n L1) ∧ xFr 14000 S g g1 ws ∧ xFr 11 S g g1 a1)) := by
  refine xEnterV (by decide) (by simp [lg_sl, Value.category]) [(0, .ref a0), (1, .ref a1), (2, .int (iI x2))] rfl ?_
  intro K E hK hret _ _ _
  refine X_aloadn hK (i := 0) 0 kd29_20.2.2.2.2.2.2.1 rfl rfl ?_
  refine X_callV hK [] [] lk_X7_47 (c3_now _ _ _ _ _ S g a0 na wt wp tk tl cn hs_a0 (by omega) ena ewt hs_wt ewp hs_wp hp0 (by omega) (by omega)) hs_a0 ⟨by decide, rfl⟩ kd29_20.2.2.2.2.2.2.2.1 rfl rfl (by simp [Value.category]) (by decide) (by decide) (by decide) (by decide) (fun r1 S3 g2 pr1 qr1 hg2 => ?_)
  obtain ⟨rfl, rfl, z4, rfl, lz4, uz4, k5⟩ := pr1
  refine X_st [.int (iI z4)] rfl ?_
  refine X_istoren hK (i := 3) [(3, .int (iI z4)), (0, .ref a0), (1, .ref a1), (2, .int (iI x2))] kd29_20.2.2.2.2.2.2.2.2.1 rfl (by decide) rfl ?_
  refine X_iloadn hK (i := 3) 0 kd29_20.2.2.2.2.2.2.2.2.2.1 rfl rfl ?_
  refine X_bipush hK kd29_20.2.2.2.2.2.2.2.2.2.2.1 (by decide) ?_
  refine X_icmp_lt hK 21 (by omega) (by omega) kd29_20.2.2.2.2.2.2.2.2.2.2.2 (by decide) (fun c6 => ?_) (fun c6 => ?_)
  · refine X_iconst hK kd29_21.2.2.2.2.2.1 ?_
    refine X_istore hK (i := 4) [(4, .int (iI 0)), (3, .int (iI z4)), (0, .ref a0), (1, .ref a1), (2, .int (iI x2))] kd29_21.2.2.2.2.2.2.1 (by decide) rfl ?_
    refine X_iload hK (i := 4) 0 kd29_21.2.2.2.2.2.2.2.1 rfl ?_
    refine X_if_ne hK 49 (by omega) kd29_21.2.2.2.2.2.2.2.2.1 (by decide) (fun c7 => False.elim (by omega)) (fun c7 => ?_)
    refine X_iloadn hK (i := 3) 1 kd29_21.2.2.2.2.2.2.2.2.2.1 rfl rfl ?_
    refine X_bipush hK kd29_21.2.2.2.2.2.2.2.2.2.2.1 (by decide) ?_
    refine X_icmp_eq hK 49 (by omega) (by omega) kd29_21.2.2.2.2.2.2.2.2.2.2.2 (by decide) (fun c8 => ?_) (fun c8 => ?_)
    · refine X_aloadn hK (i := 0) 2 kd29_22.2.2.2.2.2.2.2.1 rfl rfl ?_
      refine X_getK hK fl_X7_22_8 hs_a0 eno kd29_22.2.2.2.2.2.2.2.2.1 ?_
      refine X_bipush hK kd29_22.2.2.2.2.2.2.2.2.2.1 (by decide) ?_
      refine X_icmp_ge hK 64 (by omega) (by omega) kd29_22.2.2.2.2.2.2.2.2.2.2.1 (by decide) (fun c9 => ?_) (fun c9 => ?_)
      · refine X_aloadn hK (i := 0) 2 kd29_23.2.2.1 rfl rfl ?_
        refine X_iconst hK kd29_23.2.2.2.1 ?_
        refine X_callV hK [.int (iI 4)] [] lk_X7_60 (c3_tell _ _ _ _ _ S g a0 4 na no nf nq wt wp tk tl cn hs_a0 (by omega) (by omega) ena (by omega) eno (by omega) enf (by omega) enq ewt hs_wt ewp hs_wp hp0 (by omega) (by omega)) hs_a0 ⟨by decide, rfl⟩ kd29_23.2.2.2.2.1 rfl rfl (by simp [Value.category]) (by decide) (by decide) (by decide) (by decide) (fun r10 S12 g11 pr10 qr10 hg11 => ?_)
        obtain ⟨rfl, rfl, k13⟩ := pr10
        refine X_st [] rfl ?_
        obtain ⟨Ft14, at14, ot14, qt14, eFt14, lFt14, uFt14, eat14, lat14, uat14, eot14, lot14, uot14, eqt14, lqt14, uqt14, kt14⟩ := k13
        have cat14 : at14 ≤ 300 := by have h9 := (show xTB (xv g11 wt) (xv g11 wp) tk tl cn from (by rw [(xv_m hg11 hs_wt (by decide) (by decide)), (xv_m hg11 hs_wp (by decide) (by decide))]; exact hp0)).2.2.2; omega
        refine X_goto hK 148 kd29_23.2.2.2.2.2.1 (by decide) ?_
        exact hret _ _ _ _ _ _ kd29_27.2.2.2 ⟨rfl, rfl, ⟨Ft14, at14, ot14, qt14, ns, eFt14, by omega, by omega, eat14, by omega, by omega, eot14, by omega, by omega, eqt14, by omega, by omega, ((hg11 a1 11 0 2 hs_a1 (by decide)).trans ens), by omega, by omega, [], (by obtain ⟨h8, h7, h6⟩ := kt14; have h5 := h8.resolve_left (fun q9 => by omega); rw [h5.2.1]; exact xRC.f4 (by rw [← k5]; omega) (by omega) h5.2.2), (fun h9 => by have h8 := kt14; omega), (xFr.m xFr.rf hg11 (by decide)), (xFr.m xFr.rf hg11 (by decide))⟩⟩ (Nat.le_refl _) (Nat.le_refl _)
      · refine X_iloadn hK (i := 2) 4 kd29_22.2.2.2.2.2.2.2.2.2.2.2 rfl rfl ?_
        refine X_bipush hK kd29_23.1 (by decide) ?_
        refine X_icmp_le hK 72 (by omega) (by omega) kd29_23.2.1 (by decide) (fun c15 => False.elim (by omega)) (fun c15 => ?_)
        refine X_aloadn hK (i := 0) 2 kd29_23.2.2.1 rfl rfl ?_
        refine X_iconst hK kd29_23.2.2.2.1 ?_
        refine X_callV hK [.int (iI 4)] [] lk_X7_60 (c3_tell _ _ _ _ _ S g a0 4 na no nf nq wt wp tk tl cn hs_a0 (by omega) (by omega) ena (by omega) eno (by omega) enf (by omega) enq ewt hs_wt ewp hs_wp hp0 (by omega) (by omega)) hs_a0 ⟨by decide, rfl⟩ kd29_23.2.2.2.2.1 rfl rfl (by simp [Value.category]) (by decide) (by decide) (by decide) (by decide) (fun r16 S18 g17 pr16 qr16 hg17 => ?_)
        obtain ⟨rfl, rfl, k19⟩ := pr16
        refine X_st [] rfl ?_
        obtain ⟨Ft20, at20, ot20, qt20, eFt20, lFt20, uFt20, eat20, lat20, uat20, eot20, lot20, uot20, eqt20, lqt20, uqt20, kt20⟩ := k19
        have cat20 : at20 ≤ 300 := by have h9 := (show xTB (xv g17 wt) (xv g17 wp) tk tl cn from (by rw [(xv_m hg17 hs_wt (by decide) (by decide)), (xv_m hg17 hs_wp (by decide) (by decide))]; exact hp0)).2.2.2; omega
        refine X_goto hK 148 kd29_23.2.2.2.2.2.1 (by decide) ?_
        exact hret _ _ _ _ _ _ kd29_27.2.2.2 ⟨rfl, rfl, ⟨Ft20, at20, ot20, qt20, ns, eFt20, by omega, by omega, eat20, by omega, by omega, eot20, by omega, by omega, eqt20, by omega, by omega, ((hg17 a1 11 0 2 hs_a1 (by decide)).trans ens), by omega, by omega, [], (by obtain ⟨h8, h7, h6⟩ := kt20; have h5 := h8.resolve_left (fun q9 => by omega); rw [h5.2.1]; exact xRC.f4 (by rw [← k5]; omega) (by omega) h5.2.2), (fun h9 => by have h8 := kt20; omega), (xFr.m xFr.rf hg17 (by decide)), (xFr.m xFr.rf hg17 (by decide))⟩⟩ (Nat.le_refl _) (Nat.le_refl _)
    · refine X_iloadn hK (i := 3) 1 kd29_22.1 rfl rfl ?_
      refine X_bipush hK kd29_22.2.1 (by decide) ?_
      refine X_icmp_eq hK 49 (by omega) (by omega) kd29_22.2.2.1 (by decide) (fun c21 => False.elim (by omega)) (fun c21 => ?_)
      refine X_aloadn hK (i := 0) 2 kd29_22.2.2.2.1 rfl rfl ?_
      refine X_iconst hK kd29_22.2.2.2.2.1 ?_
      refine X_callV hK [.int (iI 1)] [] lk_X7_60 (c3_tell _ _ _ _ _ S g a0 1 na no nf nq wt wp tk tl cn hs_a0 (by omega) (by omega) ena (by omega) eno (by omega) enf (by omega) enq ewt hs_wt ewp hs_wp hp0 (by omega) (by omega)) hs_a0 ⟨by decide, rfl⟩ kd29_22.2.2.2.2.2.1 rfl rfl (by simp [Value.category]) (by decide) (by decide) (by decide) (by decide) (fun r22 S24 g23 pr22 qr22 hg23 => ?_)
      obtain ⟨rfl, rfl, k25⟩ := pr22
      refine X_st [] rfl ?_
      obtain ⟨Ft26, at26, ot26, qt26, eFt26, lFt26, uFt26, eat26, lat26, uat26, eot26, lot26, uot26, eqt26, lqt26, uqt26, kt26⟩ := k25
      have cat26 : at26 ≤ 300 := by have h9 := (show xTB (xv g23 wt) (xv g23 wp) tk tl cn from (by rw [(xv_m hg23 hs_wt (by decide) (by decide)), (xv_m hg23 hs_wp (by decide) (by decide))]; exact hp0)).2.2.2; omega
      refine X_goto hK 148 kd29_22.2.2.2.2.2.2.1 (by decide) ?_
      exact hret _ _ _ _ _ _ kd29_27.2.2.2 ⟨rfl, rfl, ⟨Ft26, at26, ot26, qt26, ns, eFt26, by omega, by omega, eat26, by omega, by omega, eot26, by omega, by omega, eqt26, by omega, by omega, ((hg23 a1 11 0 2 hs_a1 (by decide)).trans ens), by omega, by omega, [], (by obtain ⟨h8, h7, h6⟩ := kt26; have h5 := h8.resolve_left (fun q9 => by omega); rw [h5.2.1]; exact xRC.f1 (by rw [← k5]; omega) h5.2.2), (fun h9 => by have h8 := kt26; omega), (xFr.m xFr.rf hg23 (by decide)), (xFr.m xFr.rf hg23 (by decide))⟩⟩ (Nat.le_refl _) (Nat.le_refl _)
  · refine X_iloadn hK (i := 3) 0 kd29_21.1 rfl rfl ?_
    refine X_bipush hK kd29_21.2.1 (by decide) ?_
    refine X_icmp_ge hK 21 (by omega) (by omega) kd29_21.2.2.1 (by decide) (fun c27 => ?_) (fun c27 => ?_)
    · refine X_iconst hK kd29_21.2.2.2.2.2.1 ?_
      refine X_istore hK (i := 4) [(4, .int (iI 0)), (3, .int (iI z4)), (0, .ref a0), (1, .ref a1), (2, .int (iI x2))] kd29_21.2.2.2.2.2.2.1 (by decide) rfl ?_
      refine X_iload hK (i := 4) 0 kd29_21.2.2.2.2.2.2.2.1 rfl ?_
      refine X_if_ne hK 49 (by omega) kd29_21.2.2.2.2.2.2.2.2.1 (by decide) (fun c28 => False.elim (by omega)) (fun c28 => ?_)
      refine X_iloadn hK (i := 3) 1 kd29_21.2.2.2.2.2.2.2.2.2.1 rfl rfl ?_
      refine X_bipush hK kd29_21.2.2.2.2.2.2.2.2.2.2.1 (by decide) ?_
      refine X_icmp_eq hK 49 (by omega) (by omega) kd29_21.2.2.2.2.2.2.2.2.2.2.2 (by decide) (fun c29 => False.elim (by omega)) (fun c29 => ?_)
      refine X_iloadn hK (i := 3) 1 kd29_22.1 rfl rfl ?_
      refine X_bipush hK kd29_22.2.1 (by decide) ?_
      refine X_icmp_eq hK 49 (by omega) (by omega) kd29_22.2.2.1 (by decide) (fun c30 => ?_) (fun c30 => ?_)
      · refine X_aloadn hK (i := 0) 2 kd29_22.2.2.2.2.2.2.2.1 rfl rfl ?_
        refine X_getK hK fl_X7_22_8 hs_a0 eno kd29_22.2.2.2.2.2.2.2.2.1 ?_
        refine X_bipush hK kd29_22.2.2.2.2.2.2.2.2.2.1 (by decide) ?_
        refine X_icmp_ge hK 64 (by omega) (by omega) kd29_22.2.2.2.2.2.2.2.2.2.2.1 (by decide) (fun c31 => ?_) (fun c31 => ?_)
        · refine X_aloadn hK (i := 0) 2 kd29_23.2.2.1 rfl rfl ?_
          refine X_iconst hK kd29_23.2.2.2.1 ?_
          refine X_callV hK [.int (iI 4)] [] lk_X7_60 (c3_tell _ _ _ _ _ S g a0 4 na no nf nq wt wp tk tl cn hs_a0 (by omega) (by omega) ena (by omega) eno (by omega) enf (by omega) enq ewt hs_wt ewp hs_wp hp0 (by omega) (by omega)) hs_a0 ⟨by decide, rfl⟩ kd29_23.2.2.2.2.1 rfl rfl (by simp [Value.category]) (by decide) (by decide) (by decide) (by decide) (fun r32 S34 g33 pr32 qr32 hg33 => ?_)
          obtain ⟨rfl, rfl, k35⟩ := pr32
          refine X_st [] rfl ?_
          obtain ⟨Ft36, at36, ot36, qt36, eFt36, lFt36, uFt36, eat36, lat36, uat36, eot36, lot36, uot36, eqt36, lqt36, uqt36, kt36⟩ := k35
          have cat36 : at36 ≤ 300 := by have h9 := (show xTB (xv g33 wt) (xv g33 wp) tk tl cn from (by rw [(xv_m hg33 hs_wt (by decide) (by decide)), (xv_m hg33 hs_wp (by decide) (by decide))]; exact hp0)).2.2.2; omega
          refine X_goto hK 148 kd29_23.2.2.2.2.2.1 (by decide) ?_
          exact hret _ _ _ _ _ _ kd29_27.2.2.2 ⟨rfl, rfl, ⟨Ft36, at36, ot36, qt36, ns, eFt36, by omega, by omega, eat36, by omega, by omega, eot36, by omega, by omega, eqt36, by omega, by omega, ((hg33 a1 11 0 2 hs_a1 (by decide)).trans ens), by omega, by omega, [], (by obtain ⟨h8, h7, h6⟩ := kt36; have h5 := h8.resolve_left (fun q9 => by omega); rw [h5.2.1]; exact xRC.f4 (by rw [← k5]; omega) (by omega) h5.2.2), (fun h9 => by have h8 := kt36; omega), (xFr.m xFr.rf hg33 (by decide)), (xFr.m xFr.rf hg33 (by decide))⟩⟩ (Nat.le_refl _) (Nat.le_refl _)
        · refine X_iloadn hK (i := 2) 4 kd29_22.2.2.2.2.2.2.2.2.2.2.2 rfl rfl ?_
          refine X_bipush hK kd29_23.1 (by decide) ?_
          refine X_icmp_le hK 72 (by omega) (by omega) kd29_23.2.1 (by decide) (fun c37 => False.elim (by omega)) (fun c37 => ?_)
          refine X_aloadn hK (i := 0) 2 kd29_23.2.2.1 rfl rfl ?_
          refine X_iconst hK kd29_23.2.2.2.1 ?_
          refine X_callV hK [.int (iI 4)] [] lk_X7_60 (c3_tell _ _ _ _ _ S g a0 4 na no nf nq wt wp tk tl cn hs_a0 (by omega) (by omega) ena (by omega) eno (by omega) enf (by omega) enq ewt hs_wt ewp hs_wp hp0 (by omega) (by omega)) hs_a0 ⟨by decide, rfl⟩ kd29_23.2.2.2.2.1 rfl rfl (by simp [Value.category]) (by decide) (by decide) (by decide) (by decide) (fun r38 S40 g39 pr38 qr38 hg39 => ?_)
          obtain ⟨rfl, rfl, k41⟩ := pr38
          refine X_st [] rfl ?_
          obtain ⟨Ft42, at42, ot42, qt42, eFt42, lFt42, uFt42, eat42, lat42, uat42, eot42, lot42, uot42, eqt42, lqt42, uqt42, kt42⟩ := k41
          have cat42 : at42 ≤ 300 := by have h9 := (show xTB (xv g39 wt) (xv g39 wp) tk tl cn from (by rw [(xv_m hg39 hs_wt (by decide) (by decide)), (xv_m hg39 hs_wp (by decide) (by decide))]; exact hp0)).2.2.2; omega
          refine X_goto hK 148 kd29_23.2.2.2.2.2.1 (by decide) ?_
          exact hret _ _ _ _ _ _ kd29_27.2.2.2 ⟨rfl, rfl, ⟨Ft42, at42, ot42, qt42, ns, eFt42, by omega, by omega, eat42, by omega, by omega, eot42, by omega, by omega, eqt42, by omega, by omega, ((hg39 a1 11 0 2 hs_a1 (by decide)).trans ens), by omega, by omega, [], (by obtain ⟨h8, h7, h6⟩ := kt42; have h5 := h8.resolve_left (fun q9 => by omega); rw [h5.2.1]; exact xRC.f4 (by rw [← k5]; omega) (by omega) h5.2.2), (fun h9 => by have h8 := kt42; omega), (xFr.m xFr.rf hg39 (by decide)), (xFr.m xFr.rf hg39 (by decide))⟩⟩ (Nat.le_refl _) (Nat.le_refl _)
      · refine X_aloadn hK (i := 0) 2 kd29_22.2.2.2.1 rfl rfl ?_
        refine X_iconst hK kd29_22.2.2.2.2.1 ?_
        refine X_callV hK [.int (iI 1)] [] lk_X7_60 (c3_tell _ _ _ _ _ S g a0 1 na no nf nq wt wp tk tl cn hs_a0 (by omega) (by omega) ena (by omega) eno (by omega) enf (by omega) enq ewt hs_wt ewp hs_wp hp0 (by omega) (by omega)) hs_a0 ⟨by decide, rfl⟩ kd29_22.2.2.2.2.2.1 rfl rfl (by simp [Value.category]) (by decide) (by decide) (by decide) (by decide) (fun r43 S45 g44 pr43 qr43 hg44 => ?_)
        obtain ⟨rfl, rfl, k46⟩ := pr43
        refine X_st [] rfl ?_
        obtain ⟨Ft47, at47, ot47, qt47, eFt47, lFt47, uFt47, eat47, lat47, uat47, eot47, lot47, uot47, eqt47, lqt47, uqt47, kt47⟩ := k46
        have cat47 : at47 ≤ 300 := by have h9 := (show xTB (xv g44 wt) (xv g44 wp) tk tl cn from (by rw [(xv_m hg44 hs_wt (by decide) (by decide)), (xv_m hg44 hs_wp (by decide) (by decide))]; exact hp0)).2.2.2; omega
        refine X_goto hK 148 kd29_22.2.2.2.2.2.2.1 (by decide) ?_
        exact hret _ _ _ _ _ _ kd29_27.2.2.2 ⟨rfl, rfl, ⟨Ft47, at47, ot47, qt47, ns, eFt47, by omega, by omega, eat47, by omega, by omega, eot47, by omega, by omega, eqt47, by omega, by omega, ((hg44 a1 11 0 2 hs_a1 (by decide)).trans ens), by omega, by omega, [], (by obtain ⟨h8, h7, h6⟩ := kt47; have h5 := h8.resolve_left (fun q9 => by omega); rw [h5.2.1]; exact xRC.f1 (by rw [← k5]; omega) h5.2.2), (fun h9 => by have h8 := kt47; omega), (xFr.m xFr.rf hg44 (by decide)), (xFr.m xFr.rf hg44 (by decide))⟩⟩ (Nat.le_refl _) (Nat.le_refl _)
    · refine X_iconst hK kd29_21.2.2.2.1 ?_
      refine X_goto hK 22 kd29_21.2.2.2.2.1 (by decide) ?_
      refine X_istore hK (i := 4) [(4, .int (iI 1)), (3, .int (iI z4)), (0, .ref a0), (1, .ref a1), (2, .int (iI x2))] kd29_21.2.2.2.2.2.2.1 (by decide) rfl ?_
      refine X_iload hK (i := 4) 0 kd29_21.2.2.2.2.2.2.2.1 rfl ?_
      refine X_if_ne hK 49 (by omega) kd29_21.2.2.2.2.2.2.2.2.1 (by decide) (fun c48 => ?_) (fun c48 => False.elim (by omega))
      refine X_aloadn hK (i := 0) 2 kd29_22.2.2.2.2.2.2.2.1 rfl rfl ?_
      refine X_getK hK fl_X7_22_8 hs_a0 eno kd29_22.2.2.2.2.2.2.2.2.1 ?_
      refine X_bipush hK kd29_22.2.2.2.2.2.2.2.2.2.1 (by decide) ?_
      refine X_icmp_ge hK 64 (by omega) (by omega) kd29_22.2.2.2.2.2.2.2.2.2.2.1 (by decide) (fun c49 => ?_) (fun c49 => ?_)
      · refine X_aloadn hK (i := 0) 2 kd29_23.2.2.1 rfl rfl ?_
        refine X_iconst hK kd29_23.2.2.2.1 ?_
        refine X_callV hK [.int (iI 4)] [] lk_X7_60 (c3_tell _ _ _ _ _ S g a0 4 na no nf nq wt wp tk tl cn hs_a0 (by omega) (by omega) ena (by omega) eno (by omega) enf (by omega) enq ewt hs_wt ewp hs_wp hp0 (by omega) (by omega)) hs_a0 ⟨by decide, rfl⟩ kd29_23.2.2.2.2.1 rfl rfl (by simp [Value.category]) (by decide) (by decide) (by decide) (by decide) (fun r50 S52 g51 pr50 qr50 hg51 => ?_)
        obtain ⟨rfl, rfl, k53⟩ := pr50
        refine X_st [] rfl ?_
        obtain ⟨Ft54, at54, ot54, qt54, eFt54, lFt54, uFt54, eat54, lat54, uat54, eot54, lot54, uot54, eqt54, lqt54, uqt54, kt54⟩ := k53
        have cat54 : at54 ≤ 300 := by have h9 := (show xTB (xv g51 wt) (xv g51 wp) tk tl cn from (by rw [(xv_m hg51 hs_wt (by decide) (by decide)), (xv_m hg51 hs_wp (by decide) (by decide))]; exact hp0)).2.2.2; omega
        refine X_goto hK 148 kd29_23.2.2.2.2.2.1 (by decide) ?_
        exact hret _ _ _ _ _ _ kd29_27.2.2.2 ⟨rfl, rfl, ⟨Ft54, at54, ot54, qt54, ns, eFt54, by omega, by omega, eat54, by omega, by omega, eot54, by omega, by omega, eqt54, by omega, by omega, ((hg51 a1 11 0 2 hs_a1 (by decide)).trans ens), by omega, by omega, [], (by obtain ⟨h8, h7, h6⟩ := kt54; have h5 := h8.resolve_left (fun q9 => by omega); rw [h5.2.1]; exact xRC.f4 (by rw [← k5]; omega) (by omega) h5.2.2), (fun h9 => by have h8 := kt54; omega), (xFr.m xFr.rf hg51 (by decide)), (xFr.m xFr.rf hg51 (by decide))⟩⟩ (Nat.le_refl _) (Nat.le_refl _)
      · refine X_iloadn hK (i := 2) 4 kd29_22.2.2.2.2.2.2.2.2.2.2.2 rfl rfl ?_
        refine X_bipush hK kd29_23.1 (by decide) ?_
        refine X_icmp_le hK 72 (by omega) (by omega) kd29_23.2.1 (by decide) (fun c55 => False.elim (by omega)) (fun c55 => ?_)
        refine X_aloadn hK (i := 0) 2 kd29_23.2.2.1 rfl rfl ?_
        refine X_iconst hK kd29_23.2.2.2.1 ?_
        refine X_callV hK [.int (iI 4)] [] lk_X7_60 (c3_tell _ _ _ _ _ S g a0 4 na no nf nq wt wp tk tl cn hs_a0 (by omega) (by omega) ena (by omega) eno (by omega) enf (by omega) enq ewt hs_wt ewp hs_wp hp0 (by omega) (by omega)) hs_a0 ⟨by decide, rfl⟩ kd29_23.2.2.2.2.1 rfl rfl (by simp [Value.category]) (by decide) (by decide) (by decide) (by decide) (fun r56 S58 g57 pr56 qr56 hg57 => ?_)
        obtain ⟨rfl, rfl, k59⟩ := pr56
        refine X_st [] rfl ?_
        obtain ⟨Ft60, at60, ot60, qt60, eFt60, lFt60, uFt60, eat60, lat60, uat60, eot60, lot60, uot60, eqt60, lqt60, uqt60, kt60⟩ := k59
        have cat60 : at60 ≤ 300 := by have h9 := (show xTB (xv g57 wt) (xv g57 wp) tk tl cn from (by rw [(xv_m hg57 hs_wt (by decide) (by decide)), (xv_m hg57 hs_wp (by decide) (by decide))]; exact hp0)).2.2.2; omega
        refine X_goto hK 148 kd29_23.2.2.2.2.2.1 (by decide) ?_
        exact hret _ _ _ _ _ _ kd29_27.2.2.2 ⟨rfl, rfl, ⟨Ft60, at60, ot60, qt60, ns, eFt60, by omega, by omega, eat60, by omega, by omega, eot60, by omega, by omega, eqt60, by omega, by omega, ((hg57 a1 11 0 2 hs_a1 (by decide)).trans ens), by omega, by omega, [], (by obtain ⟨h8, h7, h6⟩ := kt60; have h5 := h8.resolve_left (fun q9 => by omega); rw [h5.2.1]; exact xRC.f4 (by rw [← k5]; omega) (by omega) h5.2.2), (fun h9 => by have h8 := kt60; omega), (xFr.m xFr.rf hg57 (by decide)), (xFr.m xFr.rf hg57 (by decide))⟩⟩ (Nat.le_refl _) (Nat.le_refl _)

set_option maxHeartbeats 4000000 in
set_option maxRecDepth 100000 in
theorem m_readAll_11 (l : Launch) (D : va_G) (kA : Nat → ClassId) (b0 : Nat) (t0 : Nat → Nat) (S : xT) (g : xG) (a0 : Nat) (a1 : Nat) (x2 : Int) (na : Int) (no : Int) (nf : Int) (nq : Int) (wt : Nat) (wp : Nat) (ns : Int) (ws : Nat) (tk : Int → Int) (tl : Int → Int) (cn : Int) (L : List xS3) (b : Int) (s0 : Int → Int) (hs_a0 : S a0 = some (8, 0)) (hs_a1 : S a1 = some (11, 0)) (hx2 : 11 ≤ x2 ∧ x2 ≤ 11) (hna : 0 ≤ na ∧ na ≤ 300) (ena : g a0 2 = .int (iI na)) (hno : 0 ≤ no ∧ no ≤ 50) (eno : g a0 3 = .int (iI no)) (hnf : 0 ≤ nf ∧ nf ≤ 0) (enf : g a0 5 = .int (iI nf)) (hnq : 0 ≤ nq ∧ nq ≤ 300) (enq : g a0 6 = .int (iI nq)) (ewt : g a0 0 = .ref wt) (hs_wt : S wt = some (12900, 301)) (ewp : g a0 1 = .ref wp) (hs_wp : S wp = some (13000, 301)) (hns : 0 ≤ ns ∧ ns ≤ 100) (ens : g a1 2 = .int (iI ns)) (ews : g a1 7 = .ref ws) (hs_ws : S ws = some (14000, 100)) (hp0 : xTB (xv g wt) (xv g wp) tk tl cn) (hp1 : na ≤ cn) (hp2 : cn ≤ 300) (hp3 : xStq (xv g ws) s0 b ns L) (hp4 : 0 ≤ b) (hp5 : ns ≤ 2 * no) : xMt l yX7_readAll cX7_readAll 4 none 2 0 0 45 D kA b0 t0 [(8, 5), (8, 6), (8, 2), (14000, 0), (11, 2)] [.ref a0, .ref a1, .int (iI x2)] S g (fun (r : Option Value) (S1 : xT) (g1 : xG) => S = S1 ∧ r = none ∧ (∃ F a o q n : Int, g1 a0 5 = .int (iI F) ∧ -2147483648 ≤ F ∧ F ≤ 2147483647 ∧ g1 a0 2 = .int (iI a) ∧ 0 ≤ a ∧ a ≤ cn ∧ g1 a0 3 = .int (iI o) ∧ 0 ≤ o ∧ o ≤ 50 ∧ g1 a0 6 = .int (iI q) ∧ 0 ≤ q ∧ q ≤ 300 ∧ g1 a1 2 = .int (iI n) ∧ 0 ≤ n ∧ n ≤ 100 ∧ ∃ L1 : List xS3, xRC tk tl 1 11 na no L F a o q L1 ∧ (F = 0 → xStq (xv g1 ws) s0 b n L1) ∧ xFr 14000 S g g1 ws ∧ xFr 11 S g g1 a1)) := by
  refine xEnterV (by decide) (by simp [lg_sl, Value.category]) [(0, .ref a0), (1, .ref a1), (2, .int (iI x2))] rfl ?_
  intro K E hK hret _ _ _
  refine X_aloadn hK (i := 0) 0 kd29_0.1 rfl rfl ?_
  refine X_aloadn hK (i := 1) 1 kd29_0.2.1 rfl rfl ?_
  refine X_iloadn hK (i := 2) 2 kd29_0.2.2.1 rfl rfl ?_
  refine X_callV hK [.ref a1, .int (iI x2)] [] lk_X7_132 (m_readOne_11 _ _ _ _ _ S g a0 a1 x2 na no nf nq wt wp ns ws tk tl cn L b s0 hs_a0 hs_a1 (by omega) (by omega) ena (by omega) eno (by omega) enf (by omega) enq ewt hs_wt ewp hs_wp (by omega) ens ews hs_ws hp0 (by omega) (by omega) hp3 (by omega) (by omega)) hs_a0 ⟨by decide, rfl⟩ kd29_0.2.2.2.1 rfl rfl (by simp [Value.category]) (by decide) (by decide) (by decide) (by decide) (fun r1 S3 g2 pr1 qr1 hg2 => ?_)
  obtain ⟨rfl, rfl, k4⟩ := pr1
  refine X_st [] rfl ?_
  obtain ⟨Ft5, at5, ot5, qt5, nt5, eFt5, lFt5, uFt5, eat5, lat5, uat5, eot5, lot5, uot5, eqt5, lqt5, uqt5, ent5, lnt5, unt5, Lt5, kt5, stt5, fst5, ftt5⟩ := k4
  have cat5 : at5 ≤ 300 := (by omega)
  refine X_iconst hK kd29_0.2.2.2.2.1 ?_
  refine X_istoren hK (i := 3) [(3, .int (iI 0)), (0, .ref a0), (1, .ref a1), (2, .int (iI x2))] kd29_0.2.2.2.2.2.1 rfl (by decide) rfl ?_
  have P150 : ∀ (nP150 : Nat) (g122 : xG) (_ : xM [(14000, 0), (11, 2), (8, 5), (8, 6), (8, 2)] S g2 g122) (z121 : Int) (_ : 0 ≤ z121) (_ : z121 ≤ 50) (q123 : Int) (_ : 0 ≤ q123) (_ : q123 ≤ 300) (_ : g122 a0 2 = .int (iI q123)) (q124 : Int) (_ : 0 ≤ q124) (_ : q124 ≤ 50) (_ : g122 a0 3 = .int (iI q124)) (q125 : Int) (_ : (-2147483648) ≤ q125) (_ : q125 ≤ 2147483647) (_ : g122 a0 5 = .int (iI q125)) (q126 : Int) (_ : 0 ≤ q126) (_ : q126 ≤ 300) (_ : g122 a0 6 = .int (iI q126)) (q127 : Int) (_ : 0 ≤ q127) (_ : q127 ≤ 100) (_ : g122 a1 2 = .int (iI q127)) (_ : ∃ Li : List xS3, xIC tk tl 1 11 na no L q125 q123 q124 q126 Li ∧ (q125 = 0 → xStq (xv g122 ws) s0 b q127 Li ∧ q127 ≤ 2 * q124 - 1)) (_ : q125 = 0 → no + 1 + z121 ≤ q124) (_ : q123 ≤ cn) (_ : xFr 14000 S g g122 ws) (_ : xFr 11 S g g122 a1) (_ : 60 - z121 < (nP150 : Int)), X K E 8 [(3, .int (iI z121)), (0, .ref a0), (1, .ref a1), (2, .int (iI x2))] [] S g122 0 0 := by
    intro nP150
    induction nP150 with
    | zero => intro g122 hg122 z121 lz121 uz121 q123 lq123 uq123 eq123 q124 lq124 uq124 eq124 q125 lq125 uq125 eq125 q126 lq126 uq126 eq126 q127 lq127 uq127 eq127 v151 v152 v153 v154 v155 mP150; exact False.elim (by omega)
    | succ nP150 ihP150 =>
      intro g122 hg122 z121 lz121 uz121 q123 lq123 uq123 eq123 q124 lq124 uq124 eq124 q125 lq125 uq125 eq125 q126 lq126 uq126 eq126 q127 lq127 uq127 eq127 v151 v152 v153 v154 v155 mP150
      refine X_iloadn hK (i := 3) 0 kd29_0.2.2.2.2.2.2.1 rfl rfl ?_
      obtain ⟨Lij156, ij156, sj156⟩ := id v151
      have ivj156 : q125 = 0 → _ := fun h9 => (sj156 h9).1
      have nbj156 : q125 = 0 → q127 ≤ 2 * q124 - 1 := fun h9 => (sj156 h9).2
      refine X_bipush hK kd29_0.2.2.2.2.2.2.2.1 (by decide) ?_
      refine X_icmp_ge hK 60 (by omega) (by omega) kd29_0.2.2.2.2.2.2.2.2.1 (by decide) (fun c157 => ?_) (fun c157 => ?_)
      · exact hret _ _ _ _ _ _ kd29_2.2.2.2.2.2.2.2.2.2.1 ⟨rfl, rfl, ⟨q125, q123, q124, q126, q127, eq125, by omega, by omega, eq123, by omega, by omega, eq124, by omega, by omega, eq126, by omega, by omega, eq127, by omega, by omega, Lij156, (xIC.e ij156 (fun h9 => False.elim (by have h8 := v152 h9; omega))), (fun h9 => (sj156 h9).1), v154, v155⟩⟩ (Nat.le_refl _) (Nat.le_refl _)
      · refine X_aloadn hK (i := 0) 1 kd29_0.2.2.2.2.2.2.2.2.2.1 rfl rfl ?_
        refine X_getK hK fl_X7_29_8 hs_a0 eq125 kd29_0.2.2.2.2.2.2.2.2.2.2.1 ?_
        refine X_if_ne hK 60 (by omega) kd29_0.2.2.2.2.2.2.2.2.2.2.2 (by decide) (fun c158 => ?_) (fun c158 => ?_)
        · exact hret _ _ _ _ _ _ kd29_2.2.2.2.2.2.2.2.2.2.1 ⟨rfl, rfl, ⟨q125, q123, q124, q126, q127, eq125, by omega, by omega, eq123, by omega, by omega, eq124, by omega, by omega, eq126, by omega, by omega, eq127, by omega, by omega, Lij156, (xIC.e ij156 (fun h9 => False.elim (by have h8 := v152 h9; omega))), (fun h9 => (sj156 h9).1), v154, v155⟩⟩ (Nat.le_refl _) (Nat.le_refl _)
        · refine X_aloadn hK (i := 0) 1 kd29_1.1 rfl rfl ?_
          refine X_callV hK [] [] lk_X7_47 (c3_now _ _ _ _ _ S g122 a0 q123 wt wp tk tl cn hs_a0 (by omega) eq123 ((hg122 a0 8 0 0 hs_a0 (by decide)).trans ((hg2 a0 8 0 0 hs_a0 (by decide)).trans ewt)) hs_wt ((hg122 a0 8 0 1 hs_a0 (by decide)).trans ((hg2 a0 8 0 1 hs_a0 (by decide)).trans ewp)) hs_wp (by rw [(Eq.trans (xv_m hg122 hs_wt (by decide) (by decide)) (xv_m hg2 hs_wt (by decide) (by decide))), (Eq.trans (xv_m hg122 hs_wp (by decide) (by decide)) (xv_m hg2 hs_wp (by decide) (by decide)))]; exact hp0) (by omega) (by omega)) hs_a0 ⟨by decide, rfl⟩ kd29_1.2.1 rfl rfl (by simp [Value.category]) (by decide) (by decide) (by decide) (by decide) (fun r159 S161 g160 pr159 qr159 hg160 => ?_)
          obtain ⟨rfl, rfl, z162, rfl, lz162, uz162, k163⟩ := pr159
          refine X_st [.int (iI z162)] rfl ?_
          refine X_bipush hK kd29_1.2.2.1 (by decide) ?_
          refine X_icmp_ne hK 60 (by omega) (by omega) kd29_1.2.2.2.1 (by decide) (fun c164 => ?_) (fun c164 => ?_)
          · exact hret _ _ _ _ _ _ kd29_2.2.2.2.2.2.2.2.2.2.1 ⟨rfl, rfl, ⟨q125, q123, q124, q126, q127, eq125, by omega, by omega, eq123, by omega, by omega, eq124, by omega, by omega, eq126, by omega, by omega, eq127, by omega, by omega, Lij156, (xIC.e ij156 (fun h9 => Or.inl ⟨rfl, by rw [← k163]; omega⟩)), (fun h9 => (sj156 h9).1), v154, v155⟩⟩ (Nat.le_refl _) (Nat.le_refl _)
          · refine X_aloadn hK (i := 0) 1 kd29_1.2.2.2.2.1 rfl rfl ?_
            refine X_dup hK kd29_1.2.2.2.2.2.1 rfl ?_
            have hl165 := xTB.lt (A := xv g122 wt) (B := xv g122 wp) (tk := tk) (tl := tl) (c := cn) (a := q123) (by rw [(Eq.trans (xv_m hg122 hs_wt (by decide) (by decide)) (xv_m hg2 hs_wt (by decide) (by decide))), (Eq.trans (xv_m hg122 hs_wp (by decide) (by decide)) (xv_m hg2 hs_wp (by decide) (by decide)))]; exact hp0) (by omega) (by rw [← k163]; omega)
            refine X_getK hK fl_X7_18_8 hs_a0 eq123 kd29_1.2.2.2.2.2.2.1 ?_
            refine X_iconst hK kd29_1.2.2.2.2.2.2.2.1 ?_
            refine X_iadd hK kd29_1.2.2.2.2.2.2.2.2.1 ?_
            refine X_puti hK fl_X7_18_8 hs_a0 (by decide) sl_8_2 (by omega) (by omega) kd29_1.2.2.2.2.2.2.2.2.2.1 (fun g166 hg166 => ?_)
            refine X_aloadn hK (i := 0) 1 kd29_1.2.2.2.2.2.2.2.2.2.2.1 rfl rfl ?_
            refine X_aloadn hK (i := 1) 2 kd29_1.2.2.2.2.2.2.2.2.2.2.2 rfl rfl ?_
            refine X_iloadn hK (i := 2) 3 kd29_2.1 rfl rfl ?_
            refine X_callV hK [.ref a1, .int (iI x2)] [] lk_X7_132 (m_readOne_11 _ _ _ _ _ S g166 a0 a1 x2 (q123 + 1) q124 q125 q126 wt wp q127 ws tk tl cn Lij156 b s0 hs_a0 hs_a1 (by omega) (by omega) (xs_s hg166) (by omega) ((xs_k hg166 (by decide)).trans eq124) (by omega) ((xs_k hg166 (by decide)).trans eq125) (by omega) ((xs_k hg166 (by decide)).trans eq126) ((xs_k hg166 (by decide)).trans ((hg122 a0 8 0 0 hs_a0 (by decide)).trans ((hg2 a0 8 0 0 hs_a0 (by decide)).trans ewt))) hs_wt ((xs_k hg166 (by decide)).trans ((hg122 a0 8 0 1 hs_a0 (by decide)).trans ((hg2 a0 8 0 1 hs_a0 (by decide)).trans ewp))) hs_wp (by omega) ((xs_a hg166 (xne hs_a1 hs_a0 (by decide))).trans eq127) ((xs_k hg166 (by decide)).trans ((hg122 a1 11 0 7 hs_a1 (by decide)).trans ((hg2 a1 11 0 7 hs_a1 (by decide)).trans ews))) hs_ws (by rw [(Eq.trans (Eq.trans (xv_a hg166 (xne hs_wt hs_a0 (by decide))) (xv_m hg122 hs_wt (by decide) (by decide))) (xv_m hg2 hs_wt (by decide) (by decide))), (Eq.trans (Eq.trans (xv_a hg166 (xne hs_wp hs_a0 (by decide))) (xv_m hg122 hs_wp (by decide) (by decide))) (xv_m hg2 hs_wp (by decide) (by decide)))]; exact hp0) (by omega) (by omega) (by rw [(xv_a hg166 (xne hs_ws hs_a0 (by decide)))]; exact (ivj156 (by omega))) (by omega) (by omega)) hs_a0 ⟨by decide, rfl⟩ kd29_2.2.1 rfl rfl (by simp [Value.category]) (by decide) (by decide) (by decide) (by decide) (fun r167 S169 g168 pr167 qr167 hg168 => ?_)
            obtain ⟨rfl, rfl, k170⟩ := pr167
            refine X_st [] rfl ?_
            obtain ⟨Ft171, at171, ot171, qt171, nt171, eFt171, lFt171, uFt171, eat171, lat171, uat171, eot171, lot171, uot171, eqt171, lqt171, uqt171, ent171, lnt171, unt171, Lt171, kt171, stt171, fst171, ftt171⟩ := k170
            have cat171 : at171 ≤ 300 := (by omega)
            refine X_aloadn hK (i := 1) 2 kd29_2.2.2.1 rfl rfl ?_
            refine X_bipush hK kd29_2.2.2.2.1 (by decide) ?_
            refine X_iconst hK kd29_2.2.2.2.2.1 ?_
            refine X_iconst hK kd29_2.2.2.2.2.2.1 ?_
            refine X_callV hK [.int (iI 13), .int (iI 0), .int (iI 0)] [] lk_X7_129 (m_addStep _ _ _ _ _ S g168 a1 13 0 0 nt171 ws hs_a1 (by omega) (by omega) (by omega) (by omega) ent171 ((hg168 a1 11 0 7 hs_a1 (by decide)).trans ((xs_k hg166 (by decide)).trans ((hg122 a1 11 0 7 hs_a1 (by decide)).trans ((hg2 a1 11 0 7 hs_a1 (by decide)).trans ews)))) hs_ws) hs_a1 ⟨by decide, rfl⟩ kd29_2.2.2.2.2.2.2.1 rfl rfl (by simp [Value.category]) (by decide) (by decide) (by decide) (by decide) (fun r172 S174 g173 pr172 qr172 hg173 => ?_)
            obtain ⟨rfl, rfl, k175, k176, k177, k178⟩ := pr172
            refine X_st [] rfl ?_
            refine X_iinc hK (i := 3) (z := z121) (n := 1) 0 [(3, .int (iI (z121 + 1))), (0, .ref a0), (1, .ref a1), (2, .int (iI x2))] kd29_2.2.2.2.2.2.2.2.1 rfl (by decide) rfl ?_
            refine X_goto hK 8 kd29_2.2.2.2.2.2.2.2.2.1 (by decide) ?_
            exact ihP150  g173 (xM.tr (xM.tr (xM_up (xM.tr xM.rf xLe.rf hg122 (by decide)) hg166 hs_a0 (by decide) (by decide)) xLe.rf hg168 (by decide)) xLe.rf hg173 (by decide)) (z121 + 1) (by omega) (by omega) at171 (by omega) (by omega) ((hg173 a0 8 0 2 hs_a0 (by decide)).trans eat171) ot171 (by omega) (by omega) ((hg173 a0 8 0 3 hs_a0 (by decide)).trans eot171) Ft171 (by omega) (by omega) ((hg173 a0 8 0 5 hs_a0 (by decide)).trans eFt171) qt171 (by omega) (by omega) ((hg173 a0 8 0 6 hs_a0 (by decide)).trans eqt171) (if nt171 < 100 then nt171 + 1 else nt171) (by omega) (by omega) k175 ⟨Lt171 ++ [(13, 0, 0)], xIC.s (Or.inl ⟨rfl, rfl, rfl, (by rw [← k163]; omega)⟩) ij156 (by omega) kt171 (fun _ => rfl), fun h9 => by have h8 := xRC.b (by omega) kt171 h9; have h7 := (stt171 h9).1; have h6 := (sj156 (by omega)).1.1; have h5 := (sj156 (by omega)).2; exact ⟨(by have h9 := (xStq.add (x := (13, 0, 0)) (stt171 (by omega)) (by omega) (by have h4a := (k176.1 (by omega)).1; unfold xec9; (try dsimp only); omega) (k176.1 (by omega)).2); rw [if_pos (by omega)]; exact h9), by rw [if_pos (by omega)]; omega⟩⟩ (fun h9 => by have h8 := xRC.b (by omega) kt171 h9; omega) (by omega) (xFr.tr (xFr.tr (xFr.t v154 hg166 hs_a0 (by decide)) fst171) k177) (xFr.tr (xFr.tr (xFr.t v155 hg166 hs_a0 (by decide)) ftt171) k178) (by omega)
  exact P150 ((60 - 0 : Int).toNat + 1) g2 xM.rf 0 (by omega) (by omega) at5 (by omega) (by omega) eat5 ot5 (by omega) (by omega) eot5 Ft5 (by omega) (by omega) eFt5 qt5 (by omega) (by omega) eqt5 nt5 (by omega) (by omega) ent5 ⟨Lt5, xIC.z (Or.inl ⟨rfl, rfl⟩) kt5, fun h9 => ⟨stt5 h9, by have h8 := xRC.b (by omega) kt5 h9; have h7 := (stt5 h9).1; have h6 := hp3.1; omega⟩⟩ (fun h9 => by have h8 := xRC.b (by omega) kt5 h9; omega) (by omega) (xFr.tr xFr.rf fst5) (xFr.tr xFr.rf ftt5) (by omega)

set_option maxHeartbeats 4000000 in
set_option maxRecDepth 100000 in
theorem m_readCond_11 (l : Launch) (D : va_G) (kA : Nat → ClassId) (b0 : Nat) (t0 : Nat → Nat) (S : xT) (g : xG) (a0 : Nat) (a1 : Nat) (x2 : Int) (na : Int) (no : Int) (nf : Int) (nq : Int) (wt : Nat) (wp : Nat) (ns : Int) (ws : Nat) (tk : Int → Int) (tl : Int → Int) (cn : Int) (L : List xS3) (b : Int) (s0 : Int → Int) (hs_a0 : S a0 = some (8, 0)) (hs_a1 : S a1 = some (11, 0)) (hx2 : 11 ≤ x2 ∧ x2 ≤ 11) (hna : 0 ≤ na ∧ na ≤ 300) (ena : g a0 2 = .int (iI na)) (hno : 0 ≤ no ∧ no ≤ 50) (eno : g a0 3 = .int (iI no)) (hnf : 0 ≤ nf ∧ nf ≤ 0) (enf : g a0 5 = .int (iI nf)) (hnq : 0 ≤ nq ∧ nq ≤ 300) (enq : g a0 6 = .int (iI nq)) (ewt : g a0 0 = .ref wt) (hs_wt : S wt = some (12900, 301)) (ewp : g a0 1 = .ref wp) (hs_wp : S wp = some (13000, 301)) (hns : 0 ≤ ns ∧ ns ≤ 100) (ens : g a1 2 = .int (iI ns)) (ews : g a1 7 = .ref ws) (hs_ws : S ws = some (14000, 100)) (hp0 : xTB (xv g wt) (xv g wp) tk tl cn) (hp1 : na ≤ cn) (hp2 : cn ≤ 300) (hp3 : xStq (xv g ws) s0 b ns L) (hp4 : 0 ≤ b) (hp5 : ns ≤ 2 * no) : xMt l yX7_readCond cX7_readCond 4 none 3 0 0 68 D kA b0 t0 [(8, 5), (8, 6), (8, 2), (14000, 0), (11, 2)] [.ref a0, .ref a1, .int (iI x2)] S g (fun (r : Option Value) (S1 : xT) (g1 : xG) => S = S1 ∧ r = none ∧ (∃ F a o q n : Int, g1 a0 5 = .int (iI F) ∧ -2147483648 ≤ F ∧ F ≤ 2147483647 ∧ g1 a0 2 = .int (iI a) ∧ 0 ≤ a ∧ a ≤ cn ∧ g1 a0 3 = .int (iI o) ∧ 0 ≤ o ∧ o ≤ 50 ∧ g1 a0 6 = .int (iI q) ∧ 0 ≤ q ∧ q ≤ 300 ∧ g1 a1 2 = .int (iI n) ∧ 0 ≤ n ∧ n ≤ 100 ∧ ∃ L1 : List xS3, xRC tk tl 2 11 na no L F a o q L1 ∧ (F = 0 → xStq (xv g1 ws) s0 b n L1) ∧ xFr 14000 S g g1 ws ∧ xFr 11 S g g1 a1)) := by
  refine xEnterV (by decide) (by simp [lg_sl, Value.category]) [(0, .ref a0), (1, .ref a1), (2, .int (iI x2))] rfl ?_
  intro K E hK hret _ _ _
  refine X_aloadn hK (i := 0) 0 kd29_2.2.2.2.2.2.2.2.2.2.2.1 rfl rfl ?_
  refine X_aloadn hK (i := 1) 1 kd29_2.2.2.2.2.2.2.2.2.2.2.2 rfl rfl ?_
  refine X_iloadn hK (i := 2) 2 kd29_3.1 rfl rfl ?_
  refine X_callV hK [.ref a1, .int (iI x2)] [] lk_X7_126 (m_readAll_11 _ _ _ _ _ S g a0 a1 x2 na no nf nq wt wp ns ws tk tl cn L b s0 hs_a0 hs_a1 (by omega) (by omega) ena (by omega) eno (by omega) enf (by omega) enq ewt hs_wt ewp hs_wp (by omega) ens ews hs_ws hp0 (by omega) (by omega) hp3 (by omega) (by omega)) hs_a0 ⟨by decide, rfl⟩ kd29_3.2.1 rfl rfl (by simp [Value.category]) (by decide) (by decide) (by decide) (by decide) (fun r1 S3 g2 pr1 qr1 hg2 => ?_)
  obtain ⟨rfl, rfl, k4⟩ := pr1
  refine X_st [] rfl ?_
  obtain ⟨Ft5, at5, ot5, qt5, nt5, eFt5, lFt5, uFt5, eat5, lat5, uat5, eot5, lot5, uot5, eqt5, lqt5, uqt5, ent5, lnt5, unt5, Lt5, kt5, stt5, fst5, ftt5⟩ := k4
  have cat5 : at5 ≤ 300 := (by omega)
  refine X_iconst hK kd29_3.2.2.1 ?_
  refine X_istoren hK (i := 3) [(3, .int (iI 0)), (0, .ref a0), (1, .ref a1), (2, .int (iI x2))] kd29_3.2.2.2.1 rfl (by decide) rfl ?_
  have P150 : ∀ (nP150 : Nat) (g122 : xG) (_ : xM [(14000, 0), (11, 2), (8, 5), (8, 6), (8, 2)] S g2 g122) (z121 : Int) (_ : 0 ≤ z121) (_ : z121 ≤ 50) (q123 : Int) (_ : 0 ≤ q123) (_ : q123 ≤ 300) (_ : g122 a0 2 = .int (iI q123)) (q124 : Int) (_ : 0 ≤ q124) (_ : q124 ≤ 50) (_ : g122 a0 3 = .int (iI q124)) (q125 : Int) (_ : (-2147483648) ≤ q125) (_ : q125 ≤ 2147483647) (_ : g122 a0 5 = .int (iI q125)) (q126 : Int) (_ : 0 ≤ q126) (_ : q126 ≤ 300) (_ : g122 a0 6 = .int (iI q126)) (q127 : Int) (_ : 0 ≤ q127) (_ : q127 ≤ 100) (_ : g122 a1 2 = .int (iI q127)) (_ : ∃ Li : List xS3, xIC tk tl 2 11 na no L q125 q123 q124 q126 Li ∧ (q125 = 0 → xStq (xv g122 ws) s0 b q127 Li ∧ q127 ≤ 2 * q124 - 1)) (_ : q125 = 0 → no + 1 + z121 ≤ q124) (_ : q123 ≤ cn) (_ : xFr 14000 S g g122 ws) (_ : xFr 11 S g g122 a1) (_ : 60 - z121 < (nP150 : Int)), X K E 8 [(3, .int (iI z121)), (0, .ref a0), (1, .ref a1), (2, .int (iI x2))] [] S g122 0 0 := by
    intro nP150
    induction nP150 with
    | zero => intro g122 hg122 z121 lz121 uz121 q123 lq123 uq123 eq123 q124 lq124 uq124 eq124 q125 lq125 uq125 eq125 q126 lq126 uq126 eq126 q127 lq127 uq127 eq127 v151 v152 v153 v154 v155 mP150; exact False.elim (by omega)
    | succ nP150 ihP150 =>
      intro g122 hg122 z121 lz121 uz121 q123 lq123 uq123 eq123 q124 lq124 uq124 eq124 q125 lq125 uq125 eq125 q126 lq126 uq126 eq126 q127 lq127 uq127 eq127 v151 v152 v153 v154 v155 mP150
      refine X_iloadn hK (i := 3) 0 kd29_3.2.2.2.2.1 rfl rfl ?_
      obtain ⟨Lij156, ij156, sj156⟩ := id v151
      have ivj156 : q125 = 0 → _ := fun h9 => (sj156 h9).1
      have nbj156 : q125 = 0 → q127 ≤ 2 * q124 - 1 := fun h9 => (sj156 h9).2
      refine X_bipush hK kd29_3.2.2.2.2.2.1 (by decide) ?_
      refine X_icmp_ge hK 60 (by omega) (by omega) kd29_3.2.2.2.2.2.2.1 (by decide) (fun c157 => ?_) (fun c157 => ?_)
      · exact hret _ _ _ _ _ _ kd29_5.2.2.2.2.2.2.2.1 ⟨rfl, rfl, ⟨q125, q123, q124, q126, q127, eq125, by omega, by omega, eq123, by omega, by omega, eq124, by omega, by omega, eq126, by omega, by omega, eq127, by omega, by omega, Lij156, (xIC.e ij156 (fun h9 => False.elim (by have h8 := v152 h9; omega))), (fun h9 => (sj156 h9).1), v154, v155⟩⟩ (Nat.le_refl _) (Nat.le_refl _)
      · refine X_aloadn hK (i := 0) 1 kd29_3.2.2.2.2.2.2.2.1 rfl rfl ?_
        refine X_getK hK fl_X7_29_8 hs_a0 eq125 kd29_3.2.2.2.2.2.2.2.2.1 ?_
        refine X_if_ne hK 60 (by omega) kd29_3.2.2.2.2.2.2.2.2.2.1 (by decide) (fun c158 => ?_) (fun c158 => ?_)
        · exact hret _ _ _ _ _ _ kd29_5.2.2.2.2.2.2.2.1 ⟨rfl, rfl, ⟨q125, q123, q124, q126, q127, eq125, by omega, by omega, eq123, by omega, by omega, eq124, by omega, by omega, eq126, by omega, by omega, eq127, by omega, by omega, Lij156, (xIC.e ij156 (fun h9 => False.elim (by have h8 := v152 h9; omega))), (fun h9 => (sj156 h9).1), v154, v155⟩⟩ (Nat.le_refl _) (Nat.le_refl _)
        · refine X_aloadn hK (i := 0) 1 kd29_3.2.2.2.2.2.2.2.2.2.2.1 rfl rfl ?_
          refine X_callV hK [] [] lk_X7_47 (c3_now _ _ _ _ _ S g122 a0 q123 wt wp tk tl cn hs_a0 (by omega) eq123 ((hg122 a0 8 0 0 hs_a0 (by decide)).trans ((hg2 a0 8 0 0 hs_a0 (by decide)).trans ewt)) hs_wt ((hg122 a0 8 0 1 hs_a0 (by decide)).trans ((hg2 a0 8 0 1 hs_a0 (by decide)).trans ewp)) hs_wp (by rw [(Eq.trans (xv_m hg122 hs_wt (by decide) (by decide)) (xv_m hg2 hs_wt (by decide) (by decide))), (Eq.trans (xv_m hg122 hs_wp (by decide) (by decide)) (xv_m hg2 hs_wp (by decide) (by decide)))]; exact hp0) (by omega) (by omega)) hs_a0 ⟨by decide, rfl⟩ kd29_3.2.2.2.2.2.2.2.2.2.2.2 rfl rfl (by simp [Value.category]) (by decide) (by decide) (by decide) (by decide) (fun r159 S161 g160 pr159 qr159 hg160 => ?_)
          obtain ⟨rfl, rfl, z162, rfl, lz162, uz162, k163⟩ := pr159
          refine X_st [.int (iI z162)] rfl ?_
          refine X_bipush hK kd29_4.1 (by decide) ?_
          refine X_icmp_ne hK 60 (by omega) (by omega) kd29_4.2.1 (by decide) (fun c164 => ?_) (fun c164 => ?_)
          · exact hret _ _ _ _ _ _ kd29_5.2.2.2.2.2.2.2.1 ⟨rfl, rfl, ⟨q125, q123, q124, q126, q127, eq125, by omega, by omega, eq123, by omega, by omega, eq124, by omega, by omega, eq126, by omega, by omega, eq127, by omega, by omega, Lij156, (xIC.e ij156 (fun h9 => Or.inr ⟨rfl, by rw [← k163]; omega⟩)), (fun h9 => (sj156 h9).1), v154, v155⟩⟩ (Nat.le_refl _) (Nat.le_refl _)
          · refine X_aloadn hK (i := 0) 1 kd29_4.2.2.1 rfl rfl ?_
            refine X_dup hK kd29_4.2.2.2.1 rfl ?_
            have hl165 := xTB.lt (A := xv g122 wt) (B := xv g122 wp) (tk := tk) (tl := tl) (c := cn) (a := q123) (by rw [(Eq.trans (xv_m hg122 hs_wt (by decide) (by decide)) (xv_m hg2 hs_wt (by decide) (by decide))), (Eq.trans (xv_m hg122 hs_wp (by decide) (by decide)) (xv_m hg2 hs_wp (by decide) (by decide)))]; exact hp0) (by omega) (by rw [← k163]; omega)
            refine X_getK hK fl_X7_18_8 hs_a0 eq123 kd29_4.2.2.2.2.1 ?_
            refine X_iconst hK kd29_4.2.2.2.2.2.1 ?_
            refine X_iadd hK kd29_4.2.2.2.2.2.2.1 ?_
            refine X_puti hK fl_X7_18_8 hs_a0 (by decide) sl_8_2 (by omega) (by omega) kd29_4.2.2.2.2.2.2.2.1 (fun g166 hg166 => ?_)
            refine X_aloadn hK (i := 0) 1 kd29_4.2.2.2.2.2.2.2.2.1 rfl rfl ?_
            refine X_aloadn hK (i := 1) 2 kd29_4.2.2.2.2.2.2.2.2.2.1 rfl rfl ?_
            refine X_iloadn hK (i := 2) 3 kd29_4.2.2.2.2.2.2.2.2.2.2.1 rfl rfl ?_
            refine X_callV hK [.ref a1, .int (iI x2)] [] lk_X7_126 (m_readAll_11 _ _ _ _ _ S g166 a0 a1 x2 (q123 + 1) q124 q125 q126 wt wp q127 ws tk tl cn Lij156 b s0 hs_a0 hs_a1 (by omega) (by omega) (xs_s hg166) (by omega) ((xs_k hg166 (by decide)).trans eq124) (by omega) ((xs_k hg166 (by decide)).trans eq125) (by omega) ((xs_k hg166 (by decide)).trans eq126) ((xs_k hg166 (by decide)).trans ((hg122 a0 8 0 0 hs_a0 (by decide)).trans ((hg2 a0 8 0 0 hs_a0 (by decide)).trans ewt))) hs_wt ((xs_k hg166 (by decide)).trans ((hg122 a0 8 0 1 hs_a0 (by decide)).trans ((hg2 a0 8 0 1 hs_a0 (by decide)).trans ewp))) hs_wp (by omega) ((xs_a hg166 (xne hs_a1 hs_a0 (by decide))).trans eq127) ((xs_k hg166 (by decide)).trans ((hg122 a1 11 0 7 hs_a1 (by decide)).trans ((hg2 a1 11 0 7 hs_a1 (by decide)).trans ews))) hs_ws (by rw [(Eq.trans (Eq.trans (xv_a hg166 (xne hs_wt hs_a0 (by decide))) (xv_m hg122 hs_wt (by decide) (by decide))) (xv_m hg2 hs_wt (by decide) (by decide))), (Eq.trans (Eq.trans (xv_a hg166 (xne hs_wp hs_a0 (by decide))) (xv_m hg122 hs_wp (by decide) (by decide))) (xv_m hg2 hs_wp (by decide) (by decide)))]; exact hp0) (by omega) (by omega) (by rw [(xv_a hg166 (xne hs_ws hs_a0 (by decide)))]; exact (ivj156 (by omega))) (by omega) (by omega)) hs_a0 ⟨by decide, rfl⟩ kd29_4.2.2.2.2.2.2.2.2.2.2.2 rfl rfl (by simp [Value.category]) (by decide) (by decide) (by decide) (by decide) (fun r167 S169 g168 pr167 qr167 hg168 => ?_)
            obtain ⟨rfl, rfl, k170⟩ := pr167
            refine X_st [] rfl ?_
            obtain ⟨Ft171, at171, ot171, qt171, nt171, eFt171, lFt171, uFt171, eat171, lat171, uat171, eot171, lot171, uot171, eqt171, lqt171, uqt171, ent171, lnt171, unt171, Lt171, kt171, stt171, fst171, ftt171⟩ := k170
            have cat171 : at171 ≤ 300 := (by omega)
            refine X_aloadn hK (i := 1) 2 kd29_5.1 rfl rfl ?_
            refine X_bipush hK kd29_5.2.1 (by decide) ?_
            refine X_iconst hK kd29_5.2.2.1 ?_
            refine X_iconst hK kd29_5.2.2.2.1 ?_
            refine X_callV hK [.int (iI 14), .int (iI 0), .int (iI 0)] [] lk_X7_129 (m_addStep _ _ _ _ _ S g168 a1 14 0 0 nt171 ws hs_a1 (by omega) (by omega) (by omega) (by omega) ent171 ((hg168 a1 11 0 7 hs_a1 (by decide)).trans ((xs_k hg166 (by decide)).trans ((hg122 a1 11 0 7 hs_a1 (by decide)).trans ((hg2 a1 11 0 7 hs_a1 (by decide)).trans ews)))) hs_ws) hs_a1 ⟨by decide, rfl⟩ kd29_5.2.2.2.2.1 rfl rfl (by simp [Value.category]) (by decide) (by decide) (by decide) (by decide) (fun r172 S174 g173 pr172 qr172 hg173 => ?_)
            obtain ⟨rfl, rfl, k175, k176, k177, k178⟩ := pr172
            refine X_st [] rfl ?_
            refine X_iinc hK (i := 3) (z := z121) (n := 1) 0 [(3, .int (iI (z121 + 1))), (0, .ref a0), (1, .ref a1), (2, .int (iI x2))] kd29_5.2.2.2.2.2.1 rfl (by decide) rfl ?_
            refine X_goto hK 8 kd29_5.2.2.2.2.2.2.1 (by decide) ?_
            exact ihP150  g173 (xM.tr (xM.tr (xM_up (xM.tr xM.rf xLe.rf hg122 (by decide)) hg166 hs_a0 (by decide) (by decide)) xLe.rf hg168 (by decide)) xLe.rf hg173 (by decide)) (z121 + 1) (by omega) (by omega) at171 (by omega) (by omega) ((hg173 a0 8 0 2 hs_a0 (by decide)).trans eat171) ot171 (by omega) (by omega) ((hg173 a0 8 0 3 hs_a0 (by decide)).trans eot171) Ft171 (by omega) (by omega) ((hg173 a0 8 0 5 hs_a0 (by decide)).trans eFt171) qt171 (by omega) (by omega) ((hg173 a0 8 0 6 hs_a0 (by decide)).trans eqt171) (if nt171 < 100 then nt171 + 1 else nt171) (by omega) (by omega) k175 ⟨Lt171 ++ [(14, 0, 0)], xIC.s (Or.inr ⟨rfl, rfl, rfl, (by rw [← k163]; omega)⟩) ij156 (by omega) kt171 (fun _ => rfl), fun h9 => by have h8 := xRC.b (by omega) kt171 h9; have h7 := (stt171 h9).1; have h6 := (sj156 (by omega)).1.1; have h5 := (sj156 (by omega)).2; exact ⟨(by have h9 := (xStq.add (x := (14, 0, 0)) (stt171 (by omega)) (by omega) (by have h4a := (k176.1 (by omega)).1; unfold xec9; (try dsimp only); omega) (k176.1 (by omega)).2); rw [if_pos (by omega)]; exact h9), by rw [if_pos (by omega)]; omega⟩⟩ (fun h9 => by have h8 := xRC.b (by omega) kt171 h9; omega) (by omega) (xFr.tr (xFr.tr (xFr.t v154 hg166 hs_a0 (by decide)) fst171) k177) (xFr.tr (xFr.tr (xFr.t v155 hg166 hs_a0 (by decide)) ftt171) k178) (by omega)
  exact P150 ((60 - 0 : Int).toNat + 1) g2 xM.rf 0 (by omega) (by omega) at5 (by omega) (by omega) eat5 ot5 (by omega) (by omega) eot5 Ft5 (by omega) (by omega) eFt5 qt5 (by omega) (by omega) eqt5 nt5 (by omega) (by omega) ent5 ⟨Lt5, xIC.z (Or.inr ⟨rfl, rfl⟩) kt5, fun h9 => ⟨stt5 h9, by have h8 := xRC.b (by omega) kt5 h9; have h7 := (stt5 h9).1; have h6 := hp3.1; omega⟩⟩ (fun h9 => by have h8 := xRC.b (by omega) kt5 h9; omega) (by omega) (xFr.tr xFr.rf fst5) (xFr.tr xFr.rf ftt5) (by omega)

set_option maxHeartbeats 4000000 in
set_option maxRecDepth 100000 in
theorem m_readOne_10 (l : Launch) (D : va_G) (kA : Nat → ClassId) (b0 : Nat) (t0 : Nat → Nat) (S : xT) (g : xG) (a0 : Nat) (a1 : Nat) (x2 : Int) (na : Int) (no : Int) (nf : Int) (nq : Int) (wt : Nat) (wp : Nat) (ns : Int) (ws : Nat) (tk : Int → Int) (tl : Int → Int) (cn : Int) (L : List xS3) (b : Int) (s0 : Int → Int) (hs_a0 : S a0 = some (8, 0)) (hs_a1 : S a1 = some (11, 0)) (hx2 : 10 ≤ x2 ∧ x2 ≤ 10) (hna : 0 ≤ na ∧ na ≤ 300) (ena : g a0 2 = .int (iI na)) (hno : 0 ≤ no ∧ no ≤ 50) (eno : g a0 3 = .int (iI no)) (hnf : 0 ≤ nf ∧ nf ≤ 0) (enf : g a0 5 = .int (iI nf)) (hnq : 0 ≤ nq ∧ nq ≤ 300) (enq : g a0 6 = .int (iI nq)) (ewt : g a0 0 = .ref wt) (hs_wt : S wt = some (12900, 301)) (ewp : g a0 1 = .ref wp) (hs_wp : S wp = some (13000, 301)) (hns : 0 ≤ ns ∧ ns ≤ 100) (ens : g a1 2 = .int (iI ns)) (ews : g a1 7 = .ref ws) (hs_ws : S ws = some (14000, 100)) (hp0 : xTB (xv g wt) (xv g wp) tk tl cn) (hp1 : na ≤ cn) (hp2 : cn ≤ 300) (hp3 : xStq (xv g ws) s0 b ns L) (hp4 : 0 ≤ b) (hp5 : ns ≤ 2 * no) : xMt l yX7_readOne cX7_readOne 5 none 4 0 0 91 D kA b0 t0 [(8, 5), (8, 6), (8, 3), (8, 2), (14000, 0), (11, 2)] [.ref a0, .ref a1, .int (iI x2)] S g (fun (r : Option Value) (S1 : xT) (g1 : xG) => S = S1 ∧ r = none ∧ (∃ F a o q n : Int, g1 a0 5 = .int (iI F) ∧ -2147483648 ≤ F ∧ F ≤ 2147483647 ∧ g1 a0 2 = .int (iI a) ∧ 0 ≤ a ∧ a ≤ cn ∧ g1 a0 3 = .int (iI o) ∧ 0 ≤ o ∧ o ≤ 50 ∧ g1 a0 6 = .int (iI q) ∧ 0 ≤ q ∧ q ≤ 300 ∧ g1 a1 2 = .int (iI n) ∧ 0 ≤ n ∧ n ≤ 100 ∧ ∃ L1 : List xS3, xRC tk tl 0 10 na no L F a o q L1 ∧ (F = 0 → xStq (xv g1 ws) s0 b n L1) ∧ xFr 14000 S g g1 ws ∧ xFr 11 S g g1 a1)) := by
  refine xEnterV (by decide) (by simp [lg_sl, Value.category]) [(0, .ref a0), (1, .ref a1), (2, .int (iI x2))] rfl ?_
  intro K E hK hret _ _ _
  refine X_aloadn hK (i := 0) 0 kd29_20.2.2.2.2.2.2.1 rfl rfl ?_
  refine X_callV hK [] [] lk_X7_47 (c3_now _ _ _ _ _ S g a0 na wt wp tk tl cn hs_a0 (by omega) ena ewt hs_wt ewp hs_wp hp0 (by omega) (by omega)) hs_a0 ⟨by decide, rfl⟩ kd29_20.2.2.2.2.2.2.2.1 rfl rfl (by simp [Value.category]) (by decide) (by decide) (by decide) (by decide) (fun r1 S3 g2 pr1 qr1 hg2 => ?_)
  obtain ⟨rfl, rfl, z4, rfl, lz4, uz4, k5⟩ := pr1
  refine X_st [.int (iI z4)] rfl ?_
  refine X_istoren hK (i := 3) [(3, .int (iI z4)), (0, .ref a0), (1, .ref a1), (2, .int (iI x2))] kd29_20.2.2.2.2.2.2.2.2.1 rfl (by decide) rfl ?_
  refine X_iloadn hK (i := 3) 0 kd29_20.2.2.2.2.2.2.2.2.2.1 rfl rfl ?_
  refine X_bipush hK kd29_20.2.2.2.2.2.2.2.2.2.2.1 (by decide) ?_
  refine X_icmp_lt hK 21 (by omega) (by omega) kd29_20.2.2.2.2.2.2.2.2.2.2.2 (by decide) (fun c6 => ?_) (fun c6 => ?_)
  · refine X_iconst hK kd29_21.2.2.2.2.2.1 ?_
    refine X_istore hK (i := 4) [(4, .int (iI 0)), (3, .int (iI z4)), (0, .ref a0), (1, .ref a1), (2, .int (iI x2))] kd29_21.2.2.2.2.2.2.1 (by decide) rfl ?_
    refine X_iload hK (i := 4) 0 kd29_21.2.2.2.2.2.2.2.1 rfl ?_
    refine X_if_ne hK 49 (by omega) kd29_21.2.2.2.2.2.2.2.2.1 (by decide) (fun c7 => False.elim (by omega)) (fun c7 => ?_)
    refine X_iloadn hK (i := 3) 1 kd29_21.2.2.2.2.2.2.2.2.2.1 rfl rfl ?_
    refine X_bipush hK kd29_21.2.2.2.2.2.2.2.2.2.2.1 (by decide) ?_
    refine X_icmp_eq hK 49 (by omega) (by omega) kd29_21.2.2.2.2.2.2.2.2.2.2.2 (by decide) (fun c8 => ?_) (fun c8 => ?_)
    · refine X_aloadn hK (i := 0) 2 kd29_22.2.2.2.2.2.2.2.1 rfl rfl ?_
      refine X_getK hK fl_X7_22_8 hs_a0 eno kd29_22.2.2.2.2.2.2.2.2.1 ?_
      refine X_bipush hK kd29_22.2.2.2.2.2.2.2.2.2.1 (by decide) ?_
      refine X_icmp_ge hK 64 (by omega) (by omega) kd29_22.2.2.2.2.2.2.2.2.2.2.1 (by decide) (fun c9 => ?_) (fun c9 => ?_)
      · refine X_aloadn hK (i := 0) 2 kd29_23.2.2.1 rfl rfl ?_
        refine X_iconst hK kd29_23.2.2.2.1 ?_
        refine X_callV hK [.int (iI 4)] [] lk_X7_60 (c3_tell _ _ _ _ _ S g a0 4 na no nf nq wt wp tk tl cn hs_a0 (by omega) (by omega) ena (by omega) eno (by omega) enf (by omega) enq ewt hs_wt ewp hs_wp hp0 (by omega) (by omega)) hs_a0 ⟨by decide, rfl⟩ kd29_23.2.2.2.2.1 rfl rfl (by simp [Value.category]) (by decide) (by decide) (by decide) (by decide) (fun r10 S12 g11 pr10 qr10 hg11 => ?_)
        obtain ⟨rfl, rfl, k13⟩ := pr10
        refine X_st [] rfl ?_
        obtain ⟨Ft14, at14, ot14, qt14, eFt14, lFt14, uFt14, eat14, lat14, uat14, eot14, lot14, uot14, eqt14, lqt14, uqt14, kt14⟩ := k13
        have cat14 : at14 ≤ 300 := by have h9 := (show xTB (xv g11 wt) (xv g11 wp) tk tl cn from (by rw [(xv_m hg11 hs_wt (by decide) (by decide)), (xv_m hg11 hs_wp (by decide) (by decide))]; exact hp0)).2.2.2; omega
        refine X_goto hK 148 kd29_23.2.2.2.2.2.1 (by decide) ?_
        exact hret _ _ _ _ _ _ kd29_27.2.2.2 ⟨rfl, rfl, ⟨Ft14, at14, ot14, qt14, ns, eFt14, by omega, by omega, eat14, by omega, by omega, eot14, by omega, by omega, eqt14, by omega, by omega, ((hg11 a1 11 0 2 hs_a1 (by decide)).trans ens), by omega, by omega, [], (by obtain ⟨h8, h7, h6⟩ := kt14; have h5 := h8.resolve_left (fun q9 => by omega); rw [h5.2.1]; exact xRC.f4 (by rw [← k5]; omega) (by omega) h5.2.2), (fun h9 => by have h8 := kt14; omega), (xFr.m xFr.rf hg11 (by decide)), (xFr.m xFr.rf hg11 (by decide))⟩⟩ (Nat.le_refl _) (Nat.le_refl _)
      · refine X_iloadn hK (i := 2) 4 kd29_22.2.2.2.2.2.2.2.2.2.2.2 rfl rfl ?_
        refine X_bipush hK kd29_23.1 (by decide) ?_
        refine X_icmp_le hK 72 (by omega) (by omega) kd29_23.2.1 (by decide) (fun c15 => ?_) (fun c15 => False.elim (by omega))
        refine X_aloadn hK (i := 0) 2 kd29_23.2.2.2.2.2.2.1 rfl rfl ?_
        refine X_dup hK kd29_23.2.2.2.2.2.2.2.1 rfl ?_
        refine X_getK hK fl_X7_22_8 hs_a0 eno kd29_23.2.2.2.2.2.2.2.2.1 ?_
        refine X_iconst hK kd29_23.2.2.2.2.2.2.2.2.2.1 ?_
        refine X_iadd hK kd29_23.2.2.2.2.2.2.2.2.2.2.1 ?_
        refine X_puti hK fl_X7_22_8 hs_a0 (by decide) sl_8_3 (by omega) (by omega) kd29_23.2.2.2.2.2.2.2.2.2.2.2 (fun g16 hg16 => ?_)
        refine X_aloadn hK (i := 0) 2 kd29_24.1 rfl rfl ?_
        refine X_dup hK kd29_24.2.1 rfl ?_
        have hl17 := xTB.lt (A := xv g16 wt) (B := xv g16 wp) (tk := tk) (tl := tl) (c := cn) (a := na) (by rw [(xv_a hg16 (xne hs_wt hs_a0 (by decide))), (xv_a hg16 (xne hs_wp hs_a0 (by decide)))]; exact hp0) (by omega) (by rw [← k5]; omega)
        refine X_getK hK fl_X7_18_8 hs_a0 ((xs_k hg16 (by decide)).trans ena) kd29_24.2.2.1 ?_
        refine X_iconst hK kd29_24.2.2.2.1 ?_
        refine X_iadd hK kd29_24.2.2.2.2.1 ?_
        refine X_puti hK fl_X7_18_8 hs_a0 (by decide) sl_8_2 (by omega) (by omega) kd29_24.2.2.2.2.2.1 (fun g18 hg18 => ?_)
        refine X_iload hK (i := 4) 0 kd29_24.2.2.2.2.2.2.1 rfl ?_
        refine X_if_eq hK 109 (by omega) kd29_24.2.2.2.2.2.2.2.1 (by decide) (fun c19 => ?_) (fun c19 => False.elim (by omega))
        refine X_iloadn hK (i := 3) 1 kd29_25.2.2.2.1 rfl rfl ?_
        refine X_bipush hK kd29_25.2.2.2.2.1 (by decide) ?_
        refine X_icmp_ne hK 132 (by omega) (by omega) kd29_25.2.2.2.2.2.1 (by decide) (fun c20 => ?_) (fun c20 => False.elim (by omega))
        refine X_aloadn hK (i := 0) 2 kd29_26.2.2.2.2.1 rfl rfl ?_
        refine X_aloadn hK (i := 1) 3 kd29_26.2.2.2.2.2.1 rfl rfl ?_
        refine X_iloadn hK (i := 2) 4 kd29_26.2.2.2.2.2.2.1 rfl rfl ?_
        refine X_iconst hK kd29_26.2.2.2.2.2.2.2.1 ?_
        refine X_iadd hK kd29_26.2.2.2.2.2.2.2.2.1 ?_
        refine X_callV hK [.ref a1, .int (iI (x2 + 1))] [] lk_X7_132 (m_readOne_11 _ _ _ _ _ S g18 a0 a1 (x2 + 1) (na + 1) (no + 1) nf nq wt wp ns ws tk tl cn L b s0 hs_a0 hs_a1 (by omega) (by omega) (xs_s hg18) (by omega) ((xs_k hg18 (by decide)).trans (xs_s hg16)) (by omega) ((xs_k hg18 (by decide)).trans ((xs_k hg16 (by decide)).trans enf)) (by omega) ((xs_k hg18 (by decide)).trans ((xs_k hg16 (by decide)).trans enq)) ((xs_k hg18 (by decide)).trans ((xs_k hg16 (by decide)).trans ewt)) hs_wt ((xs_k hg18 (by decide)).trans ((xs_k hg16 (by decide)).trans ewp)) hs_wp (by omega) ((xs_a hg18 (xne hs_a1 hs_a0 (by decide))).trans ((xs_k hg16 (by decide)).trans ens)) ((xs_k hg18 (by decide)).trans ((xs_k hg16 (by decide)).trans ews)) hs_ws (by rw [(Eq.trans (xv_a hg18 (xne hs_wt hs_a0 (by decide))) (xv_a hg16 (xne hs_wt hs_a0 (by decide)))), (Eq.trans (xv_a hg18 (xne hs_wp hs_a0 (by decide))) (xv_a hg16 (xne hs_wp hs_a0 (by decide))))]; exact hp0) (by omega) (by omega) (by rw [(Eq.trans (xv_a hg18 (xne hs_ws hs_a0 (by decide))) (xv_a hg16 (xne hs_ws hs_a0 (by decide))))]; exact hp3) (by omega) (by omega)) hs_a0 ⟨by decide, rfl⟩ kd29_26.2.2.2.2.2.2.2.2.2.1 rfl rfl (by simp [Value.category]) (by decide) (by decide) (by decide) (by decide) (fun r21 S23 g22 pr21 qr21 hg22 => ?_)
        obtain ⟨rfl, rfl, k24⟩ := pr21
        refine X_st [] rfl ?_
        obtain ⟨Ft25, at25, ot25, qt25, nt25, eFt25, lFt25, uFt25, eat25, lat25, uat25, eot25, lot25, uot25, eqt25, lqt25, uqt25, ent25, lnt25, unt25, Lt25, kt25, stt25, fst25, ftt25⟩ := k24
        have cat25 : at25 ≤ 300 := (by omega)
        refine X_aloadn hK (i := 1) 3 kd29_26.2.2.2.2.2.2.2.2.2.2.1 rfl rfl ?_
        refine X_bipush hK kd29_26.2.2.2.2.2.2.2.2.2.2.2 (by decide) ?_
        refine X_iconst hK kd29_27.1 ?_
        refine X_iconst hK kd29_27.2.1 ?_
        refine X_callV hK [.int (iI 12), .int (iI 0), .int (iI 0)] [] lk_X7_129 (m_addStep _ _ _ _ _ S g22 a1 12 0 0 nt25 ws hs_a1 (by omega) (by omega) (by omega) (by omega) ent25 ((hg22 a1 11 0 7 hs_a1 (by decide)).trans ((xs_k hg18 (by decide)).trans ((xs_k hg16 (by decide)).trans ews))) hs_ws) hs_a1 ⟨by decide, rfl⟩ kd29_27.2.2.1 rfl rfl (by simp [Value.category]) (by decide) (by decide) (by decide) (by decide) (fun r26 S28 g27 pr26 qr26 hg27 => ?_)
        obtain ⟨rfl, rfl, k29, k30, k31, k32⟩ := pr26
        refine X_st [] rfl ?_
        exact hret _ _ _ _ _ _ kd29_27.2.2.2 ⟨rfl, rfl, ⟨Ft25, at25, ot25, qt25, (if nt25 < 100 then nt25 + 1 else nt25), ((hg27 a0 8 0 5 hs_a0 (by decide)).trans eFt25), by omega, by omega, ((hg27 a0 8 0 2 hs_a0 (by decide)).trans eat25), by omega, by omega, ((hg27 a0 8 0 3 hs_a0 (by decide)).trans eot25), by omega, by omega, ((hg27 a0 8 0 6 hs_a0 (by decide)).trans eqt25), by omega, by omega, k29, by omega, by omega, (Lt25 ++ [(12, 0, 0)]), (xRC.nt (by rw [← k5]; omega) (by omega) kt25 (fun _ => rfl)), (fun h9 => by have h6 := xRC.b (by omega) kt25 h9; have h5 := (stt25 h9).1; have h4 := hp3.1; exact (by have h9 := (xStq.add (x := (12, 0, 0)) (stt25 (by omega)) (by omega) (by have h4a := (k30.1 (by omega)).1; unfold xec9; (try dsimp only); omega) (k30.1 (by omega)).2); rw [if_pos (by omega)]; exact h9)), (xFr.tr (xFr.tr (xFr.t (xFr.t xFr.rf hg16 hs_a0 (by decide)) hg18 hs_a0 (by decide)) fst25) k31), (xFr.tr (xFr.tr (xFr.t (xFr.t xFr.rf hg16 hs_a0 (by decide)) hg18 hs_a0 (by decide)) ftt25) k32)⟩⟩ (Nat.le_refl _) (Nat.le_refl _)
    · refine X_iloadn hK (i := 3) 1 kd29_22.1 rfl rfl ?_
      refine X_bipush hK kd29_22.2.1 (by decide) ?_
      refine X_icmp_eq hK 49 (by omega) (by omega) kd29_22.2.2.1 (by decide) (fun c33 => False.elim (by omega)) (fun c33 => ?_)
      refine X_aloadn hK (i := 0) 2 kd29_22.2.2.2.1 rfl rfl ?_
      refine X_iconst hK kd29_22.2.2.2.2.1 ?_
      refine X_callV hK [.int (iI 1)] [] lk_X7_60 (c3_tell _ _ _ _ _ S g a0 1 na no nf nq wt wp tk tl cn hs_a0 (by omega) (by omega) ena (by omega) eno (by omega) enf (by omega) enq ewt hs_wt ewp hs_wp hp0 (by omega) (by omega)) hs_a0 ⟨by decide, rfl⟩ kd29_22.2.2.2.2.2.1 rfl rfl (by simp [Value.category]) (by decide) (by decide) (by decide) (by decide) (fun r34 S36 g35 pr34 qr34 hg35 => ?_)
      obtain ⟨rfl, rfl, k37⟩ := pr34
      refine X_st [] rfl ?_
      obtain ⟨Ft38, at38, ot38, qt38, eFt38, lFt38, uFt38, eat38, lat38, uat38, eot38, lot38, uot38, eqt38, lqt38, uqt38, kt38⟩ := k37
      have cat38 : at38 ≤ 300 := by have h9 := (show xTB (xv g35 wt) (xv g35 wp) tk tl cn from (by rw [(xv_m hg35 hs_wt (by decide) (by decide)), (xv_m hg35 hs_wp (by decide) (by decide))]; exact hp0)).2.2.2; omega
      refine X_goto hK 148 kd29_22.2.2.2.2.2.2.1 (by decide) ?_
      exact hret _ _ _ _ _ _ kd29_27.2.2.2 ⟨rfl, rfl, ⟨Ft38, at38, ot38, qt38, ns, eFt38, by omega, by omega, eat38, by omega, by omega, eot38, by omega, by omega, eqt38, by omega, by omega, ((hg35 a1 11 0 2 hs_a1 (by decide)).trans ens), by omega, by omega, [], (by obtain ⟨h8, h7, h6⟩ := kt38; have h5 := h8.resolve_left (fun q9 => by omega); rw [h5.2.1]; exact xRC.f1 (by rw [← k5]; omega) h5.2.2), (fun h9 => by have h8 := kt38; omega), (xFr.m xFr.rf hg35 (by decide)), (xFr.m xFr.rf hg35 (by decide))⟩⟩ (Nat.le_refl _) (Nat.le_refl _)
  · refine X_iloadn hK (i := 3) 0 kd29_21.1 rfl rfl ?_
    refine X_bipush hK kd29_21.2.1 (by decide) ?_
    refine X_icmp_ge hK 21 (by omega) (by omega) kd29_21.2.2.1 (by decide) (fun c39 => ?_) (fun c39 => ?_)
    · refine X_iconst hK kd29_21.2.2.2.2.2.1 ?_
      refine X_istore hK (i := 4) [(4, .int (iI 0)), (3, .int (iI z4)), (0, .ref a0), (1, .ref a1), (2, .int (iI x2))] kd29_21.2.2.2.2.2.2.1 (by decide) rfl ?_
      refine X_iload hK (i := 4) 0 kd29_21.2.2.2.2.2.2.2.1 rfl ?_
      refine X_if_ne hK 49 (by omega) kd29_21.2.2.2.2.2.2.2.2.1 (by decide) (fun c40 => False.elim (by omega)) (fun c40 => ?_)
      refine X_iloadn hK (i := 3) 1 kd29_21.2.2.2.2.2.2.2.2.2.1 rfl rfl ?_
      refine X_bipush hK kd29_21.2.2.2.2.2.2.2.2.2.2.1 (by decide) ?_
      refine X_icmp_eq hK 49 (by omega) (by omega) kd29_21.2.2.2.2.2.2.2.2.2.2.2 (by decide) (fun c41 => False.elim (by omega)) (fun c41 => ?_)
      refine X_iloadn hK (i := 3) 1 kd29_22.1 rfl rfl ?_
      refine X_bipush hK kd29_22.2.1 (by decide) ?_
      refine X_icmp_eq hK 49 (by omega) (by omega) kd29_22.2.2.1 (by decide) (fun c42 => ?_) (fun c42 => ?_)
      · refine X_aloadn hK (i := 0) 2 kd29_22.2.2.2.2.2.2.2.1 rfl rfl ?_
        refine X_getK hK fl_X7_22_8 hs_a0 eno kd29_22.2.2.2.2.2.2.2.2.1 ?_
        refine X_bipush hK kd29_22.2.2.2.2.2.2.2.2.2.1 (by decide) ?_
        refine X_icmp_ge hK 64 (by omega) (by omega) kd29_22.2.2.2.2.2.2.2.2.2.2.1 (by decide) (fun c43 => ?_) (fun c43 => ?_)
        · refine X_aloadn hK (i := 0) 2 kd29_23.2.2.1 rfl rfl ?_
          refine X_iconst hK kd29_23.2.2.2.1 ?_
          refine X_callV hK [.int (iI 4)] [] lk_X7_60 (c3_tell _ _ _ _ _ S g a0 4 na no nf nq wt wp tk tl cn hs_a0 (by omega) (by omega) ena (by omega) eno (by omega) enf (by omega) enq ewt hs_wt ewp hs_wp hp0 (by omega) (by omega)) hs_a0 ⟨by decide, rfl⟩ kd29_23.2.2.2.2.1 rfl rfl (by simp [Value.category]) (by decide) (by decide) (by decide) (by decide) (fun r44 S46 g45 pr44 qr44 hg45 => ?_)
          obtain ⟨rfl, rfl, k47⟩ := pr44
          refine X_st [] rfl ?_
          obtain ⟨Ft48, at48, ot48, qt48, eFt48, lFt48, uFt48, eat48, lat48, uat48, eot48, lot48, uot48, eqt48, lqt48, uqt48, kt48⟩ := k47
          have cat48 : at48 ≤ 300 := by have h9 := (show xTB (xv g45 wt) (xv g45 wp) tk tl cn from (by rw [(xv_m hg45 hs_wt (by decide) (by decide)), (xv_m hg45 hs_wp (by decide) (by decide))]; exact hp0)).2.2.2; omega
          refine X_goto hK 148 kd29_23.2.2.2.2.2.1 (by decide) ?_
          exact hret _ _ _ _ _ _ kd29_27.2.2.2 ⟨rfl, rfl, ⟨Ft48, at48, ot48, qt48, ns, eFt48, by omega, by omega, eat48, by omega, by omega, eot48, by omega, by omega, eqt48, by omega, by omega, ((hg45 a1 11 0 2 hs_a1 (by decide)).trans ens), by omega, by omega, [], (by obtain ⟨h8, h7, h6⟩ := kt48; have h5 := h8.resolve_left (fun q9 => by omega); rw [h5.2.1]; exact xRC.f4 (by rw [← k5]; omega) (by omega) h5.2.2), (fun h9 => by have h8 := kt48; omega), (xFr.m xFr.rf hg45 (by decide)), (xFr.m xFr.rf hg45 (by decide))⟩⟩ (Nat.le_refl _) (Nat.le_refl _)
        · refine X_iloadn hK (i := 2) 4 kd29_22.2.2.2.2.2.2.2.2.2.2.2 rfl rfl ?_
          refine X_bipush hK kd29_23.1 (by decide) ?_
          refine X_icmp_le hK 72 (by omega) (by omega) kd29_23.2.1 (by decide) (fun c49 => ?_) (fun c49 => False.elim (by omega))
          refine X_aloadn hK (i := 0) 2 kd29_23.2.2.2.2.2.2.1 rfl rfl ?_
          refine X_dup hK kd29_23.2.2.2.2.2.2.2.1 rfl ?_
          refine X_getK hK fl_X7_22_8 hs_a0 eno kd29_23.2.2.2.2.2.2.2.2.1 ?_
          refine X_iconst hK kd29_23.2.2.2.2.2.2.2.2.2.1 ?_
          refine X_iadd hK kd29_23.2.2.2.2.2.2.2.2.2.2.1 ?_
          refine X_puti hK fl_X7_22_8 hs_a0 (by decide) sl_8_3 (by omega) (by omega) kd29_23.2.2.2.2.2.2.2.2.2.2.2 (fun g50 hg50 => ?_)
          refine X_aloadn hK (i := 0) 2 kd29_24.1 rfl rfl ?_
          refine X_dup hK kd29_24.2.1 rfl ?_
          have hl51 := xTB.lt (A := xv g50 wt) (B := xv g50 wp) (tk := tk) (tl := tl) (c := cn) (a := na) (by rw [(xv_a hg50 (xne hs_wt hs_a0 (by decide))), (xv_a hg50 (xne hs_wp hs_a0 (by decide)))]; exact hp0) (by omega) (by rw [← k5]; omega)
          refine X_getK hK fl_X7_18_8 hs_a0 ((xs_k hg50 (by decide)).trans ena) kd29_24.2.2.1 ?_
          refine X_iconst hK kd29_24.2.2.2.1 ?_
          refine X_iadd hK kd29_24.2.2.2.2.1 ?_
          refine X_puti hK fl_X7_18_8 hs_a0 (by decide) sl_8_2 (by omega) (by omega) kd29_24.2.2.2.2.2.1 (fun g52 hg52 => ?_)
          refine X_iload hK (i := 4) 0 kd29_24.2.2.2.2.2.2.1 rfl ?_
          refine X_if_eq hK 109 (by omega) kd29_24.2.2.2.2.2.2.2.1 (by decide) (fun c53 => ?_) (fun c53 => False.elim (by omega))
          refine X_iloadn hK (i := 3) 1 kd29_25.2.2.2.1 rfl rfl ?_
          refine X_bipush hK kd29_25.2.2.2.2.1 (by decide) ?_
          refine X_icmp_ne hK 132 (by omega) (by omega) kd29_25.2.2.2.2.2.1 (by decide) (fun c54 => False.elim (by omega)) (fun c54 => ?_)
          refine X_aloadn hK (i := 0) 2 kd29_25.2.2.2.2.2.2.1 rfl rfl ?_
          refine X_aloadn hK (i := 1) 3 kd29_25.2.2.2.2.2.2.2.1 rfl rfl ?_
          refine X_iloadn hK (i := 2) 4 kd29_25.2.2.2.2.2.2.2.2.1 rfl rfl ?_
          refine X_iconst hK kd29_25.2.2.2.2.2.2.2.2.2.1 ?_
          refine X_iadd hK kd29_25.2.2.2.2.2.2.2.2.2.2.1 ?_
          refine X_callV hK [.ref a1, .int (iI (x2 + 1))] [] lk_X7_115 (m_readCond_11 _ _ _ _ _ S g52 a0 a1 (x2 + 1) (na + 1) (no + 1) nf nq wt wp ns ws tk tl cn L b s0 hs_a0 hs_a1 (by omega) (by omega) (xs_s hg52) (by omega) ((xs_k hg52 (by decide)).trans (xs_s hg50)) (by omega) ((xs_k hg52 (by decide)).trans ((xs_k hg50 (by decide)).trans enf)) (by omega) ((xs_k hg52 (by decide)).trans ((xs_k hg50 (by decide)).trans enq)) ((xs_k hg52 (by decide)).trans ((xs_k hg50 (by decide)).trans ewt)) hs_wt ((xs_k hg52 (by decide)).trans ((xs_k hg50 (by decide)).trans ewp)) hs_wp (by omega) ((xs_a hg52 (xne hs_a1 hs_a0 (by decide))).trans ((xs_k hg50 (by decide)).trans ens)) ((xs_k hg52 (by decide)).trans ((xs_k hg50 (by decide)).trans ews)) hs_ws (by rw [(Eq.trans (xv_a hg52 (xne hs_wt hs_a0 (by decide))) (xv_a hg50 (xne hs_wt hs_a0 (by decide)))), (Eq.trans (xv_a hg52 (xne hs_wp hs_a0 (by decide))) (xv_a hg50 (xne hs_wp hs_a0 (by decide))))]; exact hp0) (by omega) (by omega) (by rw [(Eq.trans (xv_a hg52 (xne hs_ws hs_a0 (by decide))) (xv_a hg50 (xne hs_ws hs_a0 (by decide))))]; exact hp3) (by omega) (by omega)) hs_a0 ⟨by decide, rfl⟩ kd29_25.2.2.2.2.2.2.2.2.2.2.2 rfl rfl (by simp [Value.category]) (by decide) (by decide) (by decide) (by decide) (fun r55 S57 g56 pr55 qr55 hg56 => ?_)
          obtain ⟨rfl, rfl, k58⟩ := pr55
          refine X_st [] rfl ?_
          obtain ⟨Ft59, at59, ot59, qt59, nt59, eFt59, lFt59, uFt59, eat59, lat59, uat59, eot59, lot59, uot59, eqt59, lqt59, uqt59, ent59, lnt59, unt59, Lt59, kt59, stt59, fst59, ftt59⟩ := k58
          have cat59 : at59 ≤ 300 := (by omega)
          refine X_aloadn hK (i := 0) 2 kd29_26.1 rfl rfl ?_
          refine X_bipush hK kd29_26.2.1 (by decide) ?_
          refine X_callV hK [.int (iI 26)] [] lk_X7_119 (c3_expect _ _ _ _ _ S g56 a0 26 at59 ot59 Ft59 qt59 wt wp tk tl cn hs_a0 (by omega) (by omega) eat59 (by omega) eot59 (by omega) eFt59 (by omega) eqt59 ((hg56 a0 8 0 0 hs_a0 (by decide)).trans ((xs_k hg52 (by decide)).trans ((xs_k hg50 (by decide)).trans ewt))) hs_wt ((hg56 a0 8 0 1 hs_a0 (by decide)).trans ((xs_k hg52 (by decide)).trans ((xs_k hg50 (by decide)).trans ewp))) hs_wp (by rw [(Eq.trans (Eq.trans (xv_m hg56 hs_wt (by decide) (by decide)) (xv_a hg52 (xne hs_wt hs_a0 (by decide)))) (xv_a hg50 (xne hs_wt hs_a0 (by decide)))), (Eq.trans (Eq.trans (xv_m hg56 hs_wp (by decide) (by decide)) (xv_a hg52 (xne hs_wp hs_a0 (by decide)))) (xv_a hg50 (xne hs_wp hs_a0 (by decide))))]; exact hp0) (by omega) (by omega)) hs_a0 ⟨by decide, rfl⟩ kd29_26.2.2.1 rfl rfl (by simp [Value.category]) (by decide) (by decide) (by decide) (by decide) (fun r60 S62 g61 pr60 qr60 hg61 => ?_)
          obtain ⟨rfl, rfl, k63⟩ := pr60
          refine X_st [] rfl ?_
          obtain ⟨Ft64, at64, ot64, qt64, eFt64, lFt64, uFt64, eat64, lat64, uat64, eot64, lot64, uot64, eqt64, lqt64, uqt64, kt64⟩ := k63
          have cat64 : at64 ≤ 300 := by have h9 := (show xTB (xv g61 wt) (xv g61 wp) tk tl cn from (by rw [(Eq.trans (Eq.trans (Eq.trans (xv_m hg61 hs_wt (by decide) (by decide)) (xv_m hg56 hs_wt (by decide) (by decide))) (xv_a hg52 (xne hs_wt hs_a0 (by decide)))) (xv_a hg50 (xne hs_wt hs_a0 (by decide)))), (Eq.trans (Eq.trans (Eq.trans (xv_m hg61 hs_wp (by decide) (by decide)) (xv_m hg56 hs_wp (by decide) (by decide))) (xv_a hg52 (xne hs_wp hs_a0 (by decide)))) (xv_a hg50 (xne hs_wp hs_a0 (by decide))))]; exact hp0)).2.2.2; omega
          refine X_goto hK 148 kd29_26.2.2.2.1 (by decide) ?_
          exact hret _ _ _ _ _ _ kd29_27.2.2.2 ⟨rfl, rfl, ⟨Ft64, at64, ot64, qt64, nt59, eFt64, by omega, by omega, eat64, by omega, by omega, eot64, by omega, by omega, eqt64, by omega, by omega, ((hg61 a1 11 0 2 hs_a1 (by decide)).trans ent59), by omega, by omega, Lt59, (by obtain ⟨h8, h7⟩ := kt64; by_cases f9 : Ft59 = 0; (rcases h8 with ⟨c1, c2, c3, c4⟩ | ⟨c1, c2, c3⟩; (rw [show Ft64 = 0 by omega, c3, h7]; exact xRC.po (by rw [← k5]; omega) (by omega) (show xRC tk tl 2 (10 + 1) (na + 1) (no + 1) L Ft59 at59 ot59 qt59 Lt59 from kt59) f9 c1); (have c4 := c3.resolve_left (fun q9 => q9.1 f9); rw [c4.2.1]; exact xRC.px (by rw [← k5]; omega) (by omega) (show xRC tk tl 2 (10 + 1) (na + 1) (no + 1) L Ft59 at59 ot59 qt59 Lt59 from kt59) f9 c1 c4.2.2)); (have h6 : Ft64 = Ft59 ∧ qt64 = qt59 := (by omega); rw [h6.1, h6.2]; exact xRC.pf (by rw [← k5]; omega) (by omega) (show xRC tk tl 2 (10 + 1) (na + 1) (no + 1) L Ft59 at59 ot59 qt59 Lt59 from kt59) f9)), (fun h9 => by have h8 := kt64; have h7 : Ft59 = 0 := (by omega); rw [(xv_m hg61 hs_ws (by decide) (by decide))]; exact stt59 h7), (xFr.m (xFr.tr (xFr.t (xFr.t xFr.rf hg50 hs_a0 (by decide)) hg52 hs_a0 (by decide)) fst59) hg61 (by decide)), (xFr.m (xFr.tr (xFr.t (xFr.t xFr.rf hg50 hs_a0 (by decide)) hg52 hs_a0 (by decide)) ftt59) hg61 (by decide))⟩⟩ (Nat.le_refl _) (Nat.le_refl _)
      · refine X_aloadn hK (i := 0) 2 kd29_22.2.2.2.1 rfl rfl ?_
        refine X_iconst hK kd29_22.2.2.2.2.1 ?_
        refine X_callV hK [.int (iI 1)] [] lk_X7_60 (c3_tell _ _ _ _ _ S g a0 1 na no nf nq wt wp tk tl cn hs_a0 (by omega) (by omega) ena (by omega) eno (by omega) enf (by omega) enq ewt hs_wt ewp hs_wp hp0 (by omega) (by omega)) hs_a0 ⟨by decide, rfl⟩ kd29_22.2.2.2.2.2.1 rfl rfl (by simp [Value.category]) (by decide) (by decide) (by decide) (by decide) (fun r65 S67 g66 pr65 qr65 hg66 => ?_)
        obtain ⟨rfl, rfl, k68⟩ := pr65
        refine X_st [] rfl ?_
        obtain ⟨Ft69, at69, ot69, qt69, eFt69, lFt69, uFt69, eat69, lat69, uat69, eot69, lot69, uot69, eqt69, lqt69, uqt69, kt69⟩ := k68
        have cat69 : at69 ≤ 300 := by have h9 := (show xTB (xv g66 wt) (xv g66 wp) tk tl cn from (by rw [(xv_m hg66 hs_wt (by decide) (by decide)), (xv_m hg66 hs_wp (by decide) (by decide))]; exact hp0)).2.2.2; omega
        refine X_goto hK 148 kd29_22.2.2.2.2.2.2.1 (by decide) ?_
        exact hret _ _ _ _ _ _ kd29_27.2.2.2 ⟨rfl, rfl, ⟨Ft69, at69, ot69, qt69, ns, eFt69, by omega, by omega, eat69, by omega, by omega, eot69, by omega, by omega, eqt69, by omega, by omega, ((hg66 a1 11 0 2 hs_a1 (by decide)).trans ens), by omega, by omega, [], (by obtain ⟨h8, h7, h6⟩ := kt69; have h5 := h8.resolve_left (fun q9 => by omega); rw [h5.2.1]; exact xRC.f1 (by rw [← k5]; omega) h5.2.2), (fun h9 => by have h8 := kt69; omega), (xFr.m xFr.rf hg66 (by decide)), (xFr.m xFr.rf hg66 (by decide))⟩⟩ (Nat.le_refl _) (Nat.le_refl _)
    · refine X_iconst hK kd29_21.2.2.2.1 ?_
      refine X_goto hK 22 kd29_21.2.2.2.2.1 (by decide) ?_
      refine X_istore hK (i := 4) [(4, .int (iI 1)), (3, .int (iI z4)), (0, .ref a0), (1, .ref a1), (2, .int (iI x2))] kd29_21.2.2.2.2.2.2.1 (by decide) rfl ?_
      refine X_iload hK (i := 4) 0 kd29_21.2.2.2.2.2.2.2.1 rfl ?_
      refine X_if_ne hK 49 (by omega) kd29_21.2.2.2.2.2.2.2.2.1 (by decide) (fun c70 => ?_) (fun c70 => False.elim (by omega))
      refine X_aloadn hK (i := 0) 2 kd29_22.2.2.2.2.2.2.2.1 rfl rfl ?_
      refine X_getK hK fl_X7_22_8 hs_a0 eno kd29_22.2.2.2.2.2.2.2.2.1 ?_
      refine X_bipush hK kd29_22.2.2.2.2.2.2.2.2.2.1 (by decide) ?_
      refine X_icmp_ge hK 64 (by omega) (by omega) kd29_22.2.2.2.2.2.2.2.2.2.2.1 (by decide) (fun c71 => ?_) (fun c71 => ?_)
      · refine X_aloadn hK (i := 0) 2 kd29_23.2.2.1 rfl rfl ?_
        refine X_iconst hK kd29_23.2.2.2.1 ?_
        refine X_callV hK [.int (iI 4)] [] lk_X7_60 (c3_tell _ _ _ _ _ S g a0 4 na no nf nq wt wp tk tl cn hs_a0 (by omega) (by omega) ena (by omega) eno (by omega) enf (by omega) enq ewt hs_wt ewp hs_wp hp0 (by omega) (by omega)) hs_a0 ⟨by decide, rfl⟩ kd29_23.2.2.2.2.1 rfl rfl (by simp [Value.category]) (by decide) (by decide) (by decide) (by decide) (fun r72 S74 g73 pr72 qr72 hg73 => ?_)
        obtain ⟨rfl, rfl, k75⟩ := pr72
        refine X_st [] rfl ?_
        obtain ⟨Ft76, at76, ot76, qt76, eFt76, lFt76, uFt76, eat76, lat76, uat76, eot76, lot76, uot76, eqt76, lqt76, uqt76, kt76⟩ := k75
        have cat76 : at76 ≤ 300 := by have h9 := (show xTB (xv g73 wt) (xv g73 wp) tk tl cn from (by rw [(xv_m hg73 hs_wt (by decide) (by decide)), (xv_m hg73 hs_wp (by decide) (by decide))]; exact hp0)).2.2.2; omega
        refine X_goto hK 148 kd29_23.2.2.2.2.2.1 (by decide) ?_
        exact hret _ _ _ _ _ _ kd29_27.2.2.2 ⟨rfl, rfl, ⟨Ft76, at76, ot76, qt76, ns, eFt76, by omega, by omega, eat76, by omega, by omega, eot76, by omega, by omega, eqt76, by omega, by omega, ((hg73 a1 11 0 2 hs_a1 (by decide)).trans ens), by omega, by omega, [], (by obtain ⟨h8, h7, h6⟩ := kt76; have h5 := h8.resolve_left (fun q9 => by omega); rw [h5.2.1]; exact xRC.f4 (by rw [← k5]; omega) (by omega) h5.2.2), (fun h9 => by have h8 := kt76; omega), (xFr.m xFr.rf hg73 (by decide)), (xFr.m xFr.rf hg73 (by decide))⟩⟩ (Nat.le_refl _) (Nat.le_refl _)
      · refine X_iloadn hK (i := 2) 4 kd29_22.2.2.2.2.2.2.2.2.2.2.2 rfl rfl ?_
        refine X_bipush hK kd29_23.1 (by decide) ?_
        refine X_icmp_le hK 72 (by omega) (by omega) kd29_23.2.1 (by decide) (fun c77 => ?_) (fun c77 => False.elim (by omega))
        refine X_aloadn hK (i := 0) 2 kd29_23.2.2.2.2.2.2.1 rfl rfl ?_
        refine X_dup hK kd29_23.2.2.2.2.2.2.2.1 rfl ?_
        refine X_getK hK fl_X7_22_8 hs_a0 eno kd29_23.2.2.2.2.2.2.2.2.1 ?_
        refine X_iconst hK kd29_23.2.2.2.2.2.2.2.2.2.1 ?_
        refine X_iadd hK kd29_23.2.2.2.2.2.2.2.2.2.2.1 ?_
        refine X_puti hK fl_X7_22_8 hs_a0 (by decide) sl_8_3 (by omega) (by omega) kd29_23.2.2.2.2.2.2.2.2.2.2.2 (fun g78 hg78 => ?_)
        refine X_aloadn hK (i := 0) 2 kd29_24.1 rfl rfl ?_
        refine X_dup hK kd29_24.2.1 rfl ?_
        have hl79 := xTB.lt (A := xv g78 wt) (B := xv g78 wp) (tk := tk) (tl := tl) (c := cn) (a := na) (by rw [(xv_a hg78 (xne hs_wt hs_a0 (by decide))), (xv_a hg78 (xne hs_wp hs_a0 (by decide)))]; exact hp0) (by omega) (by rw [← k5]; omega)
        refine X_getK hK fl_X7_18_8 hs_a0 ((xs_k hg78 (by decide)).trans ena) kd29_24.2.2.1 ?_
        refine X_iconst hK kd29_24.2.2.2.1 ?_
        refine X_iadd hK kd29_24.2.2.2.2.1 ?_
        refine X_puti hK fl_X7_18_8 hs_a0 (by decide) sl_8_2 (by omega) (by omega) kd29_24.2.2.2.2.2.1 (fun g80 hg80 => ?_)
        refine X_iload hK (i := 4) 0 kd29_24.2.2.2.2.2.2.1 rfl ?_
        refine X_if_eq hK 109 (by omega) kd29_24.2.2.2.2.2.2.2.1 (by decide) (fun c81 => False.elim (by omega)) (fun c81 => ?_)
        refine X_aloadn hK (i := 0) 2 kd29_24.2.2.2.2.2.2.2.2.1 rfl rfl ?_
        refine X_aloadn hK (i := 1) 3 kd29_24.2.2.2.2.2.2.2.2.2.1 rfl rfl ?_
        refine X_iloadn hK (i := 3) 1 kd29_24.2.2.2.2.2.2.2.2.2.2.1 rfl rfl ?_
        refine X_bipush hK kd29_24.2.2.2.2.2.2.2.2.2.2.2 (by decide) ?_
        refine X_isub hK kd29_25.1 ?_
        refine X_callV hK [.ref a1, .int (iI (z4 - 10))] [] lk_X7_135 (m_readFact _ _ _ _ _ S g80 a0 a1 (z4 - 10) (na + 1) (no + 1) nf nq wt wp ns ws tk tl cn L b s0 10 hs_a0 hs_a1 (by omega) (by omega) (xs_s hg80) (by omega) ((xs_k hg80 (by decide)).trans (xs_s hg78)) (by omega) ((xs_k hg80 (by decide)).trans ((xs_k hg78 (by decide)).trans enf)) (by omega) ((xs_k hg80 (by decide)).trans ((xs_k hg78 (by decide)).trans enq)) ((xs_k hg80 (by decide)).trans ((xs_k hg78 (by decide)).trans ewt)) hs_wt ((xs_k hg80 (by decide)).trans ((xs_k hg78 (by decide)).trans ewp)) hs_wp (by omega) ((xs_a hg80 (xne hs_a1 hs_a0 (by decide))).trans ((xs_k hg78 (by decide)).trans ens)) ((xs_k hg80 (by decide)).trans ((xs_k hg78 (by decide)).trans ews)) hs_ws (by rw [(Eq.trans (xv_a hg80 (xne hs_wt hs_a0 (by decide))) (xv_a hg78 (xne hs_wt hs_a0 (by decide)))), (Eq.trans (xv_a hg80 (xne hs_wp hs_a0 (by decide))) (xv_a hg78 (xne hs_wp hs_a0 (by decide))))]; exact hp0) (by omega) (by omega) (by rw [(Eq.trans (xv_a hg80 (xne hs_ws hs_a0 (by decide))) (xv_a hg78 (xne hs_ws hs_a0 (by decide))))]; exact hp3) (by omega) (by omega) (by rw [show (na + 1) - 1 = na by omega, ← k5]; omega) (by omega)) hs_a0 ⟨by decide, rfl⟩ kd29_25.2.1 rfl rfl (by simp [Value.category]) (by decide) (by decide) (by decide) (by decide) (fun r82 S84 g83 pr82 qr82 hg83 => ?_)
        obtain ⟨rfl, rfl, k85⟩ := pr82
        refine X_st [] rfl ?_
        obtain ⟨Ft86, at86, ot86, qt86, nt86, eFt86, lFt86, uFt86, eat86, lat86, uat86, eot86, lot86, uot86, eqt86, lqt86, uqt86, ent86, lnt86, unt86, Lt86, kt86, stt86, fst86, ftt86⟩ := k85
        have cat86 : at86 ≤ 300 := (by omega)
        refine X_goto hK 148 kd29_25.2.2.1 (by decide) ?_
        exact hret _ _ _ _ _ _ kd29_27.2.2.2 ⟨rfl, rfl, ⟨Ft86, at86, ot86, qt86, nt86, eFt86, by omega, by omega, eat86, by omega, by omega, eot86, by omega, by omega, eqt86, by omega, by omega, ent86, by omega, by omega, Lt86, (by have h9 := kt86; rw [show na + 1 - 1 = na by omega, show no + 1 - 1 = no by omega] at h9; exact h9), stt86, (xFr.tr (xFr.t (xFr.t xFr.rf hg78 hs_a0 (by decide)) hg80 hs_a0 (by decide)) fst86), (xFr.tr (xFr.t (xFr.t xFr.rf hg78 hs_a0 (by decide)) hg80 hs_a0 (by decide)) ftt86)⟩⟩ (Nat.le_refl _) (Nat.le_refl _)

set_option maxHeartbeats 4000000 in
set_option maxRecDepth 100000 in
theorem m_readAll_10 (l : Launch) (D : va_G) (kA : Nat → ClassId) (b0 : Nat) (t0 : Nat → Nat) (S : xT) (g : xG) (a0 : Nat) (a1 : Nat) (x2 : Int) (na : Int) (no : Int) (nf : Int) (nq : Int) (wt : Nat) (wp : Nat) (ns : Int) (ws : Nat) (tk : Int → Int) (tl : Int → Int) (cn : Int) (L : List xS3) (b : Int) (s0 : Int → Int) (hs_a0 : S a0 = some (8, 0)) (hs_a1 : S a1 = some (11, 0)) (hx2 : 10 ≤ x2 ∧ x2 ≤ 10) (hna : 0 ≤ na ∧ na ≤ 300) (ena : g a0 2 = .int (iI na)) (hno : 0 ≤ no ∧ no ≤ 50) (eno : g a0 3 = .int (iI no)) (hnf : 0 ≤ nf ∧ nf ≤ 0) (enf : g a0 5 = .int (iI nf)) (hnq : 0 ≤ nq ∧ nq ≤ 300) (enq : g a0 6 = .int (iI nq)) (ewt : g a0 0 = .ref wt) (hs_wt : S wt = some (12900, 301)) (ewp : g a0 1 = .ref wp) (hs_wp : S wp = some (13000, 301)) (hns : 0 ≤ ns ∧ ns ≤ 100) (ens : g a1 2 = .int (iI ns)) (ews : g a1 7 = .ref ws) (hs_ws : S ws = some (14000, 100)) (hp0 : xTB (xv g wt) (xv g wp) tk tl cn) (hp1 : na ≤ cn) (hp2 : cn ≤ 300) (hp3 : xStq (xv g ws) s0 b ns L) (hp4 : 0 ≤ b) (hp5 : ns ≤ 2 * no) : xMt l yX7_readAll cX7_readAll 4 none 5 0 0 115 D kA b0 t0 [(8, 5), (8, 6), (8, 3), (8, 2), (14000, 0), (11, 2)] [.ref a0, .ref a1, .int (iI x2)] S g (fun (r : Option Value) (S1 : xT) (g1 : xG) => S = S1 ∧ r = none ∧ (∃ F a o q n : Int, g1 a0 5 = .int (iI F) ∧ -2147483648 ≤ F ∧ F ≤ 2147483647 ∧ g1 a0 2 = .int (iI a) ∧ 0 ≤ a ∧ a ≤ cn ∧ g1 a0 3 = .int (iI o) ∧ 0 ≤ o ∧ o ≤ 50 ∧ g1 a0 6 = .int (iI q) ∧ 0 ≤ q ∧ q ≤ 300 ∧ g1 a1 2 = .int (iI n) ∧ 0 ≤ n ∧ n ≤ 100 ∧ ∃ L1 : List xS3, xRC tk tl 1 10 na no L F a o q L1 ∧ (F = 0 → xStq (xv g1 ws) s0 b n L1) ∧ xFr 14000 S g g1 ws ∧ xFr 11 S g g1 a1)) := by
  refine xEnterV (by decide) (by simp [lg_sl, Value.category]) [(0, .ref a0), (1, .ref a1), (2, .int (iI x2))] rfl ?_
  intro K E hK hret _ _ _
  refine X_aloadn hK (i := 0) 0 kd29_0.1 rfl rfl ?_
  refine X_aloadn hK (i := 1) 1 kd29_0.2.1 rfl rfl ?_
  refine X_iloadn hK (i := 2) 2 kd29_0.2.2.1 rfl rfl ?_
  refine X_callV hK [.ref a1, .int (iI x2)] [] lk_X7_132 (m_readOne_10 _ _ _ _ _ S g a0 a1 x2 na no nf nq wt wp ns ws tk tl cn L b s0 hs_a0 hs_a1 (by omega) (by omega) ena (by omega) eno (by omega) enf (by omega) enq ewt hs_wt ewp hs_wp (by omega) ens ews hs_ws hp0 (by omega) (by omega) hp3 (by omega) (by omega)) hs_a0 ⟨by decide, rfl⟩ kd29_0.2.2.2.1 rfl rfl (by simp [Value.category]) (by decide) (by decide) (by decide) (by decide) (fun r1 S3 g2 pr1 qr1 hg2 => ?_)
  obtain ⟨rfl, rfl, k4⟩ := pr1
  refine X_st [] rfl ?_
  obtain ⟨Ft5, at5, ot5, qt5, nt5, eFt5, lFt5, uFt5, eat5, lat5, uat5, eot5, lot5, uot5, eqt5, lqt5, uqt5, ent5, lnt5, unt5, Lt5, kt5, stt5, fst5, ftt5⟩ := k4
  have cat5 : at5 ≤ 300 := (by omega)
  refine X_iconst hK kd29_0.2.2.2.2.1 ?_
  refine X_istoren hK (i := 3) [(3, .int (iI 0)), (0, .ref a0), (1, .ref a1), (2, .int (iI x2))] kd29_0.2.2.2.2.2.1 rfl (by decide) rfl ?_
  have P150 : ∀ (nP150 : Nat) (g122 : xG) (_ : xM [(14000, 0), (11, 2), (8, 5), (8, 6), (8, 3), (8, 2)] S g2 g122) (z121 : Int) (_ : 0 ≤ z121) (_ : z121 ≤ 50) (q123 : Int) (_ : 0 ≤ q123) (_ : q123 ≤ 300) (_ : g122 a0 2 = .int (iI q123)) (q124 : Int) (_ : 0 ≤ q124) (_ : q124 ≤ 50) (_ : g122 a0 3 = .int (iI q124)) (q125 : Int) (_ : (-2147483648) ≤ q125) (_ : q125 ≤ 2147483647) (_ : g122 a0 5 = .int (iI q125)) (q126 : Int) (_ : 0 ≤ q126) (_ : q126 ≤ 300) (_ : g122 a0 6 = .int (iI q126)) (q127 : Int) (_ : 0 ≤ q127) (_ : q127 ≤ 100) (_ : g122 a1 2 = .int (iI q127)) (_ : ∃ Li : List xS3, xIC tk tl 1 10 na no L q125 q123 q124 q126 Li ∧ (q125 = 0 → xStq (xv g122 ws) s0 b q127 Li ∧ q127 ≤ 2 * q124 - 1)) (_ : q125 = 0 → no + 1 + z121 ≤ q124) (_ : q123 ≤ cn) (_ : xFr 14000 S g g122 ws) (_ : xFr 11 S g g122 a1) (_ : 60 - z121 < (nP150 : Int)), X K E 8 [(3, .int (iI z121)), (0, .ref a0), (1, .ref a1), (2, .int (iI x2))] [] S g122 0 0 := by
    intro nP150
    induction nP150 with
    | zero => intro g122 hg122 z121 lz121 uz121 q123 lq123 uq123 eq123 q124 lq124 uq124 eq124 q125 lq125 uq125 eq125 q126 lq126 uq126 eq126 q127 lq127 uq127 eq127 v151 v152 v153 v154 v155 mP150; exact False.elim (by omega)
    | succ nP150 ihP150 =>
      intro g122 hg122 z121 lz121 uz121 q123 lq123 uq123 eq123 q124 lq124 uq124 eq124 q125 lq125 uq125 eq125 q126 lq126 uq126 eq126 q127 lq127 uq127 eq127 v151 v152 v153 v154 v155 mP150
      refine X_iloadn hK (i := 3) 0 kd29_0.2.2.2.2.2.2.1 rfl rfl ?_
      obtain ⟨Lij156, ij156, sj156⟩ := id v151
      have ivj156 : q125 = 0 → _ := fun h9 => (sj156 h9).1
      have nbj156 : q125 = 0 → q127 ≤ 2 * q124 - 1 := fun h9 => (sj156 h9).2
      refine X_bipush hK kd29_0.2.2.2.2.2.2.2.1 (by decide) ?_
      refine X_icmp_ge hK 60 (by omega) (by omega) kd29_0.2.2.2.2.2.2.2.2.1 (by decide) (fun c157 => ?_) (fun c157 => ?_)
      · exact hret _ _ _ _ _ _ kd29_2.2.2.2.2.2.2.2.2.2.1 ⟨rfl, rfl, ⟨q125, q123, q124, q126, q127, eq125, by omega, by omega, eq123, by omega, by omega, eq124, by omega, by omega, eq126, by omega, by omega, eq127, by omega, by omega, Lij156, (xIC.e ij156 (fun h9 => False.elim (by have h8 := v152 h9; omega))), (fun h9 => (sj156 h9).1), v154, v155⟩⟩ (Nat.le_refl _) (Nat.le_refl _)
      · refine X_aloadn hK (i := 0) 1 kd29_0.2.2.2.2.2.2.2.2.2.1 rfl rfl ?_
        refine X_getK hK fl_X7_29_8 hs_a0 eq125 kd29_0.2.2.2.2.2.2.2.2.2.2.1 ?_
        refine X_if_ne hK 60 (by omega) kd29_0.2.2.2.2.2.2.2.2.2.2.2 (by decide) (fun c158 => ?_) (fun c158 => ?_)
        · exact hret _ _ _ _ _ _ kd29_2.2.2.2.2.2.2.2.2.2.1 ⟨rfl, rfl, ⟨q125, q123, q124, q126, q127, eq125, by omega, by omega, eq123, by omega, by omega, eq124, by omega, by omega, eq126, by omega, by omega, eq127, by omega, by omega, Lij156, (xIC.e ij156 (fun h9 => False.elim (by have h8 := v152 h9; omega))), (fun h9 => (sj156 h9).1), v154, v155⟩⟩ (Nat.le_refl _) (Nat.le_refl _)
        · refine X_aloadn hK (i := 0) 1 kd29_1.1 rfl rfl ?_
          refine X_callV hK [] [] lk_X7_47 (c3_now _ _ _ _ _ S g122 a0 q123 wt wp tk tl cn hs_a0 (by omega) eq123 ((hg122 a0 8 0 0 hs_a0 (by decide)).trans ((hg2 a0 8 0 0 hs_a0 (by decide)).trans ewt)) hs_wt ((hg122 a0 8 0 1 hs_a0 (by decide)).trans ((hg2 a0 8 0 1 hs_a0 (by decide)).trans ewp)) hs_wp (by rw [(Eq.trans (xv_m hg122 hs_wt (by decide) (by decide)) (xv_m hg2 hs_wt (by decide) (by decide))), (Eq.trans (xv_m hg122 hs_wp (by decide) (by decide)) (xv_m hg2 hs_wp (by decide) (by decide)))]; exact hp0) (by omega) (by omega)) hs_a0 ⟨by decide, rfl⟩ kd29_1.2.1 rfl rfl (by simp [Value.category]) (by decide) (by decide) (by decide) (by decide) (fun r159 S161 g160 pr159 qr159 hg160 => ?_)
          obtain ⟨rfl, rfl, z162, rfl, lz162, uz162, k163⟩ := pr159
          refine X_st [.int (iI z162)] rfl ?_
          refine X_bipush hK kd29_1.2.2.1 (by decide) ?_
          refine X_icmp_ne hK 60 (by omega) (by omega) kd29_1.2.2.2.1 (by decide) (fun c164 => ?_) (fun c164 => ?_)
          · exact hret _ _ _ _ _ _ kd29_2.2.2.2.2.2.2.2.2.2.1 ⟨rfl, rfl, ⟨q125, q123, q124, q126, q127, eq125, by omega, by omega, eq123, by omega, by omega, eq124, by omega, by omega, eq126, by omega, by omega, eq127, by omega, by omega, Lij156, (xIC.e ij156 (fun h9 => Or.inl ⟨rfl, by rw [← k163]; omega⟩)), (fun h9 => (sj156 h9).1), v154, v155⟩⟩ (Nat.le_refl _) (Nat.le_refl _)
          · refine X_aloadn hK (i := 0) 1 kd29_1.2.2.2.2.1 rfl rfl ?_
            refine X_dup hK kd29_1.2.2.2.2.2.1 rfl ?_
            have hl165 := xTB.lt (A := xv g122 wt) (B := xv g122 wp) (tk := tk) (tl := tl) (c := cn) (a := q123) (by rw [(Eq.trans (xv_m hg122 hs_wt (by decide) (by decide)) (xv_m hg2 hs_wt (by decide) (by decide))), (Eq.trans (xv_m hg122 hs_wp (by decide) (by decide)) (xv_m hg2 hs_wp (by decide) (by decide)))]; exact hp0) (by omega) (by rw [← k163]; omega)
            refine X_getK hK fl_X7_18_8 hs_a0 eq123 kd29_1.2.2.2.2.2.2.1 ?_
            refine X_iconst hK kd29_1.2.2.2.2.2.2.2.1 ?_
            refine X_iadd hK kd29_1.2.2.2.2.2.2.2.2.1 ?_
            refine X_puti hK fl_X7_18_8 hs_a0 (by decide) sl_8_2 (by omega) (by omega) kd29_1.2.2.2.2.2.2.2.2.2.1 (fun g166 hg166 => ?_)
            refine X_aloadn hK (i := 0) 1 kd29_1.2.2.2.2.2.2.2.2.2.2.1 rfl rfl ?_
            refine X_aloadn hK (i := 1) 2 kd29_1.2.2.2.2.2.2.2.2.2.2.2 rfl rfl ?_
            refine X_iloadn hK (i := 2) 3 kd29_2.1 rfl rfl ?_
            refine X_callV hK [.ref a1, .int (iI x2)] [] lk_X7_132 (m_readOne_10 _ _ _ _ _ S g166 a0 a1 x2 (q123 + 1) q124 q125 q126 wt wp q127 ws tk tl cn Lij156 b s0 hs_a0 hs_a1 (by omega) (by omega) (xs_s hg166) (by omega) ((xs_k hg166 (by decide)).trans eq124) (by omega) ((xs_k hg166 (by decide)).trans eq125) (by omega) ((xs_k hg166 (by decide)).trans eq126) ((xs_k hg166 (by decide)).trans ((hg122 a0 8 0 0 hs_a0 (by decide)).trans ((hg2 a0 8 0 0 hs_a0 (by decide)).trans ewt))) hs_wt ((xs_k hg166 (by decide)).trans ((hg122 a0 8 0 1 hs_a0 (by decide)).trans ((hg2 a0 8 0 1 hs_a0 (by decide)).trans ewp))) hs_wp (by omega) ((xs_a hg166 (xne hs_a1 hs_a0 (by decide))).trans eq127) ((xs_k hg166 (by decide)).trans ((hg122 a1 11 0 7 hs_a1 (by decide)).trans ((hg2 a1 11 0 7 hs_a1 (by decide)).trans ews))) hs_ws (by rw [(Eq.trans (Eq.trans (xv_a hg166 (xne hs_wt hs_a0 (by decide))) (xv_m hg122 hs_wt (by decide) (by decide))) (xv_m hg2 hs_wt (by decide) (by decide))), (Eq.trans (Eq.trans (xv_a hg166 (xne hs_wp hs_a0 (by decide))) (xv_m hg122 hs_wp (by decide) (by decide))) (xv_m hg2 hs_wp (by decide) (by decide)))]; exact hp0) (by omega) (by omega) (by rw [(xv_a hg166 (xne hs_ws hs_a0 (by decide)))]; exact (ivj156 (by omega))) (by omega) (by omega)) hs_a0 ⟨by decide, rfl⟩ kd29_2.2.1 rfl rfl (by simp [Value.category]) (by decide) (by decide) (by decide) (by decide) (fun r167 S169 g168 pr167 qr167 hg168 => ?_)
            obtain ⟨rfl, rfl, k170⟩ := pr167
            refine X_st [] rfl ?_
            obtain ⟨Ft171, at171, ot171, qt171, nt171, eFt171, lFt171, uFt171, eat171, lat171, uat171, eot171, lot171, uot171, eqt171, lqt171, uqt171, ent171, lnt171, unt171, Lt171, kt171, stt171, fst171, ftt171⟩ := k170
            have cat171 : at171 ≤ 300 := (by omega)
            refine X_aloadn hK (i := 1) 2 kd29_2.2.2.1 rfl rfl ?_
            refine X_bipush hK kd29_2.2.2.2.1 (by decide) ?_
            refine X_iconst hK kd29_2.2.2.2.2.1 ?_
            refine X_iconst hK kd29_2.2.2.2.2.2.1 ?_
            refine X_callV hK [.int (iI 13), .int (iI 0), .int (iI 0)] [] lk_X7_129 (m_addStep _ _ _ _ _ S g168 a1 13 0 0 nt171 ws hs_a1 (by omega) (by omega) (by omega) (by omega) ent171 ((hg168 a1 11 0 7 hs_a1 (by decide)).trans ((xs_k hg166 (by decide)).trans ((hg122 a1 11 0 7 hs_a1 (by decide)).trans ((hg2 a1 11 0 7 hs_a1 (by decide)).trans ews)))) hs_ws) hs_a1 ⟨by decide, rfl⟩ kd29_2.2.2.2.2.2.2.1 rfl rfl (by simp [Value.category]) (by decide) (by decide) (by decide) (by decide) (fun r172 S174 g173 pr172 qr172 hg173 => ?_)
            obtain ⟨rfl, rfl, k175, k176, k177, k178⟩ := pr172
            refine X_st [] rfl ?_
            refine X_iinc hK (i := 3) (z := z121) (n := 1) 0 [(3, .int (iI (z121 + 1))), (0, .ref a0), (1, .ref a1), (2, .int (iI x2))] kd29_2.2.2.2.2.2.2.2.1 rfl (by decide) rfl ?_
            refine X_goto hK 8 kd29_2.2.2.2.2.2.2.2.2.1 (by decide) ?_
            exact ihP150  g173 (xM.tr (xM.tr (xM_up (xM.tr xM.rf xLe.rf hg122 (by decide)) hg166 hs_a0 (by decide) (by decide)) xLe.rf hg168 (by decide)) xLe.rf hg173 (by decide)) (z121 + 1) (by omega) (by omega) at171 (by omega) (by omega) ((hg173 a0 8 0 2 hs_a0 (by decide)).trans eat171) ot171 (by omega) (by omega) ((hg173 a0 8 0 3 hs_a0 (by decide)).trans eot171) Ft171 (by omega) (by omega) ((hg173 a0 8 0 5 hs_a0 (by decide)).trans eFt171) qt171 (by omega) (by omega) ((hg173 a0 8 0 6 hs_a0 (by decide)).trans eqt171) (if nt171 < 100 then nt171 + 1 else nt171) (by omega) (by omega) k175 ⟨Lt171 ++ [(13, 0, 0)], xIC.s (Or.inl ⟨rfl, rfl, rfl, (by rw [← k163]; omega)⟩) ij156 (by omega) kt171 (fun _ => rfl), fun h9 => by have h8 := xRC.b (by omega) kt171 h9; have h7 := (stt171 h9).1; have h6 := (sj156 (by omega)).1.1; have h5 := (sj156 (by omega)).2; exact ⟨(by have h9 := (xStq.add (x := (13, 0, 0)) (stt171 (by omega)) (by omega) (by have h4a := (k176.1 (by omega)).1; unfold xec9; (try dsimp only); omega) (k176.1 (by omega)).2); rw [if_pos (by omega)]; exact h9), by rw [if_pos (by omega)]; omega⟩⟩ (fun h9 => by have h8 := xRC.b (by omega) kt171 h9; omega) (by omega) (xFr.tr (xFr.tr (xFr.t v154 hg166 hs_a0 (by decide)) fst171) k177) (xFr.tr (xFr.tr (xFr.t v155 hg166 hs_a0 (by decide)) ftt171) k178) (by omega)
  exact P150 ((60 - 0 : Int).toNat + 1) g2 xM.rf 0 (by omega) (by omega) at5 (by omega) (by omega) eat5 ot5 (by omega) (by omega) eot5 Ft5 (by omega) (by omega) eFt5 qt5 (by omega) (by omega) eqt5 nt5 (by omega) (by omega) ent5 ⟨Lt5, xIC.z (Or.inl ⟨rfl, rfl⟩) kt5, fun h9 => ⟨stt5 h9, by have h8 := xRC.b (by omega) kt5 h9; have h7 := (stt5 h9).1; have h6 := hp3.1; omega⟩⟩ (fun h9 => by have h8 := xRC.b (by omega) kt5 h9; omega) (by omega) (xFr.tr xFr.rf fst5) (xFr.tr xFr.rf ftt5) (by omega)

set_option maxHeartbeats 4000000 in
set_option maxRecDepth 100000 in
theorem m_readCond_10 (l : Launch) (D : va_G) (kA : Nat → ClassId) (b0 : Nat) (t0 : Nat → Nat) (S : xT) (g : xG) (a0 : Nat) (a1 : Nat) (x2 : Int) (na : Int) (no : Int) (nf : Int) (nq : Int) (wt : Nat) (wp : Nat) (ns : Int) (ws : Nat) (tk : Int → Int) (tl : Int → Int) (cn : Int) (L : List xS3) (b : Int) (s0 : Int → Int) (hs_a0 : S a0 = some (8, 0)) (hs_a1 : S a1 = some (11, 0)) (hx2 : 10 ≤ x2 ∧ x2 ≤ 10) (hna : 0 ≤ na ∧ na ≤ 300) (ena : g a0 2 = .int (iI na)) (hno : 0 ≤ no ∧ no ≤ 50) (eno : g a0 3 = .int (iI no)) (hnf : 0 ≤ nf ∧ nf ≤ 0) (enf : g a0 5 = .int (iI nf)) (hnq : 0 ≤ nq ∧ nq ≤ 300) (enq : g a0 6 = .int (iI nq)) (ewt : g a0 0 = .ref wt) (hs_wt : S wt = some (12900, 301)) (ewp : g a0 1 = .ref wp) (hs_wp : S wp = some (13000, 301)) (hns : 0 ≤ ns ∧ ns ≤ 100) (ens : g a1 2 = .int (iI ns)) (ews : g a1 7 = .ref ws) (hs_ws : S ws = some (14000, 100)) (hp0 : xTB (xv g wt) (xv g wp) tk tl cn) (hp1 : na ≤ cn) (hp2 : cn ≤ 300) (hp3 : xStq (xv g ws) s0 b ns L) (hp4 : 0 ≤ b) (hp5 : ns ≤ 2 * no) : xMt l yX7_readCond cX7_readCond 4 none 6 0 0 138 D kA b0 t0 [(8, 5), (8, 6), (8, 3), (8, 2), (14000, 0), (11, 2)] [.ref a0, .ref a1, .int (iI x2)] S g (fun (r : Option Value) (S1 : xT) (g1 : xG) => S = S1 ∧ r = none ∧ (∃ F a o q n : Int, g1 a0 5 = .int (iI F) ∧ -2147483648 ≤ F ∧ F ≤ 2147483647 ∧ g1 a0 2 = .int (iI a) ∧ 0 ≤ a ∧ a ≤ cn ∧ g1 a0 3 = .int (iI o) ∧ 0 ≤ o ∧ o ≤ 50 ∧ g1 a0 6 = .int (iI q) ∧ 0 ≤ q ∧ q ≤ 300 ∧ g1 a1 2 = .int (iI n) ∧ 0 ≤ n ∧ n ≤ 100 ∧ ∃ L1 : List xS3, xRC tk tl 2 10 na no L F a o q L1 ∧ (F = 0 → xStq (xv g1 ws) s0 b n L1) ∧ xFr 14000 S g g1 ws ∧ xFr 11 S g g1 a1)) := by
  refine xEnterV (by decide) (by simp [lg_sl, Value.category]) [(0, .ref a0), (1, .ref a1), (2, .int (iI x2))] rfl ?_
  intro K E hK hret _ _ _
  refine X_aloadn hK (i := 0) 0 kd29_2.2.2.2.2.2.2.2.2.2.2.1 rfl rfl ?_
  refine X_aloadn hK (i := 1) 1 kd29_2.2.2.2.2.2.2.2.2.2.2.2 rfl rfl ?_
  refine X_iloadn hK (i := 2) 2 kd29_3.1 rfl rfl ?_
  refine X_callV hK [.ref a1, .int (iI x2)] [] lk_X7_126 (m_readAll_10 _ _ _ _ _ S g a0 a1 x2 na no nf nq wt wp ns ws tk tl cn L b s0 hs_a0 hs_a1 (by omega) (by omega) ena (by omega) eno (by omega) enf (by omega) enq ewt hs_wt ewp hs_wp (by omega) ens ews hs_ws hp0 (by omega) (by omega) hp3 (by omega) (by omega)) hs_a0 ⟨by decide, rfl⟩ kd29_3.2.1 rfl rfl (by simp [Value.category]) (by decide) (by decide) (by decide) (by decide) (fun r1 S3 g2 pr1 qr1 hg2 => ?_)
  obtain ⟨rfl, rfl, k4⟩ := pr1
  refine X_st [] rfl ?_
  obtain ⟨Ft5, at5, ot5, qt5, nt5, eFt5, lFt5, uFt5, eat5, lat5, uat5, eot5, lot5, uot5, eqt5, lqt5, uqt5, ent5, lnt5, unt5, Lt5, kt5, stt5, fst5, ftt5⟩ := k4
  have cat5 : at5 ≤ 300 := (by omega)
  refine X_iconst hK kd29_3.2.2.1 ?_
  refine X_istoren hK (i := 3) [(3, .int (iI 0)), (0, .ref a0), (1, .ref a1), (2, .int (iI x2))] kd29_3.2.2.2.1 rfl (by decide) rfl ?_
  have P150 : ∀ (nP150 : Nat) (g122 : xG) (_ : xM [(14000, 0), (11, 2), (8, 5), (8, 6), (8, 3), (8, 2)] S g2 g122) (z121 : Int) (_ : 0 ≤ z121) (_ : z121 ≤ 50) (q123 : Int) (_ : 0 ≤ q123) (_ : q123 ≤ 300) (_ : g122 a0 2 = .int (iI q123)) (q124 : Int) (_ : 0 ≤ q124) (_ : q124 ≤ 50) (_ : g122 a0 3 = .int (iI q124)) (q125 : Int) (_ : (-2147483648) ≤ q125) (_ : q125 ≤ 2147483647) (_ : g122 a0 5 = .int (iI q125)) (q126 : Int) (_ : 0 ≤ q126) (_ : q126 ≤ 300) (_ : g122 a0 6 = .int (iI q126)) (q127 : Int) (_ : 0 ≤ q127) (_ : q127 ≤ 100) (_ : g122 a1 2 = .int (iI q127)) (_ : ∃ Li : List xS3, xIC tk tl 2 10 na no L q125 q123 q124 q126 Li ∧ (q125 = 0 → xStq (xv g122 ws) s0 b q127 Li ∧ q127 ≤ 2 * q124 - 1)) (_ : q125 = 0 → no + 1 + z121 ≤ q124) (_ : q123 ≤ cn) (_ : xFr 14000 S g g122 ws) (_ : xFr 11 S g g122 a1) (_ : 60 - z121 < (nP150 : Int)), X K E 8 [(3, .int (iI z121)), (0, .ref a0), (1, .ref a1), (2, .int (iI x2))] [] S g122 0 0 := by
    intro nP150
    induction nP150 with
    | zero => intro g122 hg122 z121 lz121 uz121 q123 lq123 uq123 eq123 q124 lq124 uq124 eq124 q125 lq125 uq125 eq125 q126 lq126 uq126 eq126 q127 lq127 uq127 eq127 v151 v152 v153 v154 v155 mP150; exact False.elim (by omega)
    | succ nP150 ihP150 =>
      intro g122 hg122 z121 lz121 uz121 q123 lq123 uq123 eq123 q124 lq124 uq124 eq124 q125 lq125 uq125 eq125 q126 lq126 uq126 eq126 q127 lq127 uq127 eq127 v151 v152 v153 v154 v155 mP150
      refine X_iloadn hK (i := 3) 0 kd29_3.2.2.2.2.1 rfl rfl ?_
      obtain ⟨Lij156, ij156, sj156⟩ := id v151
      have ivj156 : q125 = 0 → _ := fun h9 => (sj156 h9).1
      have nbj156 : q125 = 0 → q127 ≤ 2 * q124 - 1 := fun h9 => (sj156 h9).2
      refine X_bipush hK kd29_3.2.2.2.2.2.1 (by decide) ?_
      refine X_icmp_ge hK 60 (by omega) (by omega) kd29_3.2.2.2.2.2.2.1 (by decide) (fun c157 => ?_) (fun c157 => ?_)
      · exact hret _ _ _ _ _ _ kd29_5.2.2.2.2.2.2.2.1 ⟨rfl, rfl, ⟨q125, q123, q124, q126, q127, eq125, by omega, by omega, eq123, by omega, by omega, eq124, by omega, by omega, eq126, by omega, by omega, eq127, by omega, by omega, Lij156, (xIC.e ij156 (fun h9 => False.elim (by have h8 := v152 h9; omega))), (fun h9 => (sj156 h9).1), v154, v155⟩⟩ (Nat.le_refl _) (Nat.le_refl _)
      · refine X_aloadn hK (i := 0) 1 kd29_3.2.2.2.2.2.2.2.1 rfl rfl ?_
        refine X_getK hK fl_X7_29_8 hs_a0 eq125 kd29_3.2.2.2.2.2.2.2.2.1 ?_
        refine X_if_ne hK 60 (by omega) kd29_3.2.2.2.2.2.2.2.2.2.1 (by decide) (fun c158 => ?_) (fun c158 => ?_)
        · exact hret _ _ _ _ _ _ kd29_5.2.2.2.2.2.2.2.1 ⟨rfl, rfl, ⟨q125, q123, q124, q126, q127, eq125, by omega, by omega, eq123, by omega, by omega, eq124, by omega, by omega, eq126, by omega, by omega, eq127, by omega, by omega, Lij156, (xIC.e ij156 (fun h9 => False.elim (by have h8 := v152 h9; omega))), (fun h9 => (sj156 h9).1), v154, v155⟩⟩ (Nat.le_refl _) (Nat.le_refl _)
        · refine X_aloadn hK (i := 0) 1 kd29_3.2.2.2.2.2.2.2.2.2.2.1 rfl rfl ?_
          refine X_callV hK [] [] lk_X7_47 (c3_now _ _ _ _ _ S g122 a0 q123 wt wp tk tl cn hs_a0 (by omega) eq123 ((hg122 a0 8 0 0 hs_a0 (by decide)).trans ((hg2 a0 8 0 0 hs_a0 (by decide)).trans ewt)) hs_wt ((hg122 a0 8 0 1 hs_a0 (by decide)).trans ((hg2 a0 8 0 1 hs_a0 (by decide)).trans ewp)) hs_wp (by rw [(Eq.trans (xv_m hg122 hs_wt (by decide) (by decide)) (xv_m hg2 hs_wt (by decide) (by decide))), (Eq.trans (xv_m hg122 hs_wp (by decide) (by decide)) (xv_m hg2 hs_wp (by decide) (by decide)))]; exact hp0) (by omega) (by omega)) hs_a0 ⟨by decide, rfl⟩ kd29_3.2.2.2.2.2.2.2.2.2.2.2 rfl rfl (by simp [Value.category]) (by decide) (by decide) (by decide) (by decide) (fun r159 S161 g160 pr159 qr159 hg160 => ?_)
          obtain ⟨rfl, rfl, z162, rfl, lz162, uz162, k163⟩ := pr159
          refine X_st [.int (iI z162)] rfl ?_
          refine X_bipush hK kd29_4.1 (by decide) ?_
          refine X_icmp_ne hK 60 (by omega) (by omega) kd29_4.2.1 (by decide) (fun c164 => ?_) (fun c164 => ?_)
          · exact hret _ _ _ _ _ _ kd29_5.2.2.2.2.2.2.2.1 ⟨rfl, rfl, ⟨q125, q123, q124, q126, q127, eq125, by omega, by omega, eq123, by omega, by omega, eq124, by omega, by omega, eq126, by omega, by omega, eq127, by omega, by omega, Lij156, (xIC.e ij156 (fun h9 => Or.inr ⟨rfl, by rw [← k163]; omega⟩)), (fun h9 => (sj156 h9).1), v154, v155⟩⟩ (Nat.le_refl _) (Nat.le_refl _)
          · refine X_aloadn hK (i := 0) 1 kd29_4.2.2.1 rfl rfl ?_
            refine X_dup hK kd29_4.2.2.2.1 rfl ?_
            have hl165 := xTB.lt (A := xv g122 wt) (B := xv g122 wp) (tk := tk) (tl := tl) (c := cn) (a := q123) (by rw [(Eq.trans (xv_m hg122 hs_wt (by decide) (by decide)) (xv_m hg2 hs_wt (by decide) (by decide))), (Eq.trans (xv_m hg122 hs_wp (by decide) (by decide)) (xv_m hg2 hs_wp (by decide) (by decide)))]; exact hp0) (by omega) (by rw [← k163]; omega)
            refine X_getK hK fl_X7_18_8 hs_a0 eq123 kd29_4.2.2.2.2.1 ?_
            refine X_iconst hK kd29_4.2.2.2.2.2.1 ?_
            refine X_iadd hK kd29_4.2.2.2.2.2.2.1 ?_
            refine X_puti hK fl_X7_18_8 hs_a0 (by decide) sl_8_2 (by omega) (by omega) kd29_4.2.2.2.2.2.2.2.1 (fun g166 hg166 => ?_)
            refine X_aloadn hK (i := 0) 1 kd29_4.2.2.2.2.2.2.2.2.1 rfl rfl ?_
            refine X_aloadn hK (i := 1) 2 kd29_4.2.2.2.2.2.2.2.2.2.1 rfl rfl ?_
            refine X_iloadn hK (i := 2) 3 kd29_4.2.2.2.2.2.2.2.2.2.2.1 rfl rfl ?_
            refine X_callV hK [.ref a1, .int (iI x2)] [] lk_X7_126 (m_readAll_10 _ _ _ _ _ S g166 a0 a1 x2 (q123 + 1) q124 q125 q126 wt wp q127 ws tk tl cn Lij156 b s0 hs_a0 hs_a1 (by omega) (by omega) (xs_s hg166) (by omega) ((xs_k hg166 (by decide)).trans eq124) (by omega) ((xs_k hg166 (by decide)).trans eq125) (by omega) ((xs_k hg166 (by decide)).trans eq126) ((xs_k hg166 (by decide)).trans ((hg122 a0 8 0 0 hs_a0 (by decide)).trans ((hg2 a0 8 0 0 hs_a0 (by decide)).trans ewt))) hs_wt ((xs_k hg166 (by decide)).trans ((hg122 a0 8 0 1 hs_a0 (by decide)).trans ((hg2 a0 8 0 1 hs_a0 (by decide)).trans ewp))) hs_wp (by omega) ((xs_a hg166 (xne hs_a1 hs_a0 (by decide))).trans eq127) ((xs_k hg166 (by decide)).trans ((hg122 a1 11 0 7 hs_a1 (by decide)).trans ((hg2 a1 11 0 7 hs_a1 (by decide)).trans ews))) hs_ws (by rw [(Eq.trans (Eq.trans (xv_a hg166 (xne hs_wt hs_a0 (by decide))) (xv_m hg122 hs_wt (by decide) (by decide))) (xv_m hg2 hs_wt (by decide) (by decide))), (Eq.trans (Eq.trans (xv_a hg166 (xne hs_wp hs_a0 (by decide))) (xv_m hg122 hs_wp (by decide) (by decide))) (xv_m hg2 hs_wp (by decide) (by decide)))]; exact hp0) (by omega) (by omega) (by rw [(xv_a hg166 (xne hs_ws hs_a0 (by decide)))]; exact (ivj156 (by omega))) (by omega) (by omega)) hs_a0 ⟨by decide, rfl⟩ kd29_4.2.2.2.2.2.2.2.2.2.2.2 rfl rfl (by simp [Value.category]) (by decide) (by decide) (by decide) (by decide) (fun r167 S169 g168 pr167 qr167 hg168 => ?_)
            obtain ⟨rfl, rfl, k170⟩ := pr167
            refine X_st [] rfl ?_
            obtain ⟨Ft171, at171, ot171, qt171, nt171, eFt171, lFt171, uFt171, eat171, lat171, uat171, eot171, lot171, uot171, eqt171, lqt171, uqt171, ent171, lnt171, unt171, Lt171, kt171, stt171, fst171, ftt171⟩ := k170
            have cat171 : at171 ≤ 300 := (by omega)
            refine X_aloadn hK (i := 1) 2 kd29_5.1 rfl rfl ?_
            refine X_bipush hK kd29_5.2.1 (by decide) ?_
            refine X_iconst hK kd29_5.2.2.1 ?_
            refine X_iconst hK kd29_5.2.2.2.1 ?_
            refine X_callV hK [.int (iI 14), .int (iI 0), .int (iI 0)] [] lk_X7_129 (m_addStep _ _ _ _ _ S g168 a1 14 0 0 nt171 ws hs_a1 (by omega) (by omega) (by omega) (by omega) ent171 ((hg168 a1 11 0 7 hs_a1 (by decide)).trans ((xs_k hg166 (by decide)).trans ((hg122 a1 11 0 7 hs_a1 (by decide)).trans ((hg2 a1 11 0 7 hs_a1 (by decide)).trans ews)))) hs_ws) hs_a1 ⟨by decide, rfl⟩ kd29_5.2.2.2.2.1 rfl rfl (by simp [Value.category]) (by decide) (by decide) (by decide) (by decide) (fun r172 S174 g173 pr172 qr172 hg173 => ?_)
            obtain ⟨rfl, rfl, k175, k176, k177, k178⟩ := pr172
            refine X_st [] rfl ?_
            refine X_iinc hK (i := 3) (z := z121) (n := 1) 0 [(3, .int (iI (z121 + 1))), (0, .ref a0), (1, .ref a1), (2, .int (iI x2))] kd29_5.2.2.2.2.2.1 rfl (by decide) rfl ?_
            refine X_goto hK 8 kd29_5.2.2.2.2.2.2.1 (by decide) ?_
            exact ihP150  g173 (xM.tr (xM.tr (xM_up (xM.tr xM.rf xLe.rf hg122 (by decide)) hg166 hs_a0 (by decide) (by decide)) xLe.rf hg168 (by decide)) xLe.rf hg173 (by decide)) (z121 + 1) (by omega) (by omega) at171 (by omega) (by omega) ((hg173 a0 8 0 2 hs_a0 (by decide)).trans eat171) ot171 (by omega) (by omega) ((hg173 a0 8 0 3 hs_a0 (by decide)).trans eot171) Ft171 (by omega) (by omega) ((hg173 a0 8 0 5 hs_a0 (by decide)).trans eFt171) qt171 (by omega) (by omega) ((hg173 a0 8 0 6 hs_a0 (by decide)).trans eqt171) (if nt171 < 100 then nt171 + 1 else nt171) (by omega) (by omega) k175 ⟨Lt171 ++ [(14, 0, 0)], xIC.s (Or.inr ⟨rfl, rfl, rfl, (by rw [← k163]; omega)⟩) ij156 (by omega) kt171 (fun _ => rfl), fun h9 => by have h8 := xRC.b (by omega) kt171 h9; have h7 := (stt171 h9).1; have h6 := (sj156 (by omega)).1.1; have h5 := (sj156 (by omega)).2; exact ⟨(by have h9 := (xStq.add (x := (14, 0, 0)) (stt171 (by omega)) (by omega) (by have h4a := (k176.1 (by omega)).1; unfold xec9; (try dsimp only); omega) (k176.1 (by omega)).2); rw [if_pos (by omega)]; exact h9), by rw [if_pos (by omega)]; omega⟩⟩ (fun h9 => by have h8 := xRC.b (by omega) kt171 h9; omega) (by omega) (xFr.tr (xFr.tr (xFr.t v154 hg166 hs_a0 (by decide)) fst171) k177) (xFr.tr (xFr.tr (xFr.t v155 hg166 hs_a0 (by decide)) ftt171) k178) (by omega)
  exact P150 ((60 - 0 : Int).toNat + 1) g2 xM.rf 0 (by omega) (by omega) at5 (by omega) (by omega) eat5 ot5 (by omega) (by omega) eot5 Ft5 (by omega) (by omega) eFt5 qt5 (by omega) (by omega) eqt5 nt5 (by omega) (by omega) ent5 ⟨Lt5, xIC.z (Or.inr ⟨rfl, rfl⟩) kt5, fun h9 => ⟨stt5 h9, by have h8 := xRC.b (by omega) kt5 h9; have h7 := (stt5 h9).1; have h6 := hp3.1; omega⟩⟩ (fun h9 => by have h8 := xRC.b (by omega) kt5 h9; omega) (by omega) (xFr.tr xFr.rf fst5) (xFr.tr xFr.rf ftt5) (by omega)

set_option maxHeartbeats 4000000 in
set_option maxRecDepth 100000 in
theorem m_readOne_9 (l : Launch) (D : va_G) (kA : Nat → ClassId) (b0 : Nat) (t0 : Nat → Nat) (S : xT) (g : xG) (a0 : Nat) (a1 : Nat) (x2 : Int) (na : Int) (no : Int) (nf : Int) (nq : Int) (wt : Nat) (wp : Nat) (ns : Int) (ws : Nat) (tk : Int → Int) (tl : Int → Int) (cn : Int) (L : List xS3) (b : Int) (s0 : Int → Int) (hs_a0 : S a0 = some (8, 0)) (hs_a1 : S a1 = some (11, 0)) (hx2 : 9 ≤ x2 ∧ x2 ≤ 9) (hna : 0 ≤ na ∧ na ≤ 300) (ena : g a0 2 = .int (iI na)) (hno : 0 ≤ no ∧ no ≤ 50) (eno : g a0 3 = .int (iI no)) (hnf : 0 ≤ nf ∧ nf ≤ 0) (enf : g a0 5 = .int (iI nf)) (hnq : 0 ≤ nq ∧ nq ≤ 300) (enq : g a0 6 = .int (iI nq)) (ewt : g a0 0 = .ref wt) (hs_wt : S wt = some (12900, 301)) (ewp : g a0 1 = .ref wp) (hs_wp : S wp = some (13000, 301)) (hns : 0 ≤ ns ∧ ns ≤ 100) (ens : g a1 2 = .int (iI ns)) (ews : g a1 7 = .ref ws) (hs_ws : S ws = some (14000, 100)) (hp0 : xTB (xv g wt) (xv g wp) tk tl cn) (hp1 : na ≤ cn) (hp2 : cn ≤ 300) (hp3 : xStq (xv g ws) s0 b ns L) (hp4 : 0 ≤ b) (hp5 : ns ≤ 2 * no) : xMt l yX7_readOne cX7_readOne 5 none 7 0 0 161 D kA b0 t0 [(8, 5), (8, 6), (8, 3), (8, 2), (14000, 0), (11, 2)] [.ref a0, .ref a1, .int (iI x2)] S g (fun (r : Option Value) (S1 : xT) (g1 : xG) => S = S1 ∧ r = none ∧ (∃ F a o q n : Int, g1 a0 5 = .int (iI F) ∧ -2147483648 ≤ F ∧ F ≤ 2147483647 ∧ g1 a0 2 = .int (iI a) ∧ 0 ≤ a ∧ a ≤ cn ∧ g1 a0 3 = .int (iI o) ∧ 0 ≤ o ∧ o ≤ 50 ∧ g1 a0 6 = .int (iI q) ∧ 0 ≤ q ∧ q ≤ 300 ∧ g1 a1 2 = .int (iI n) ∧ 0 ≤ n ∧ n ≤ 100 ∧ ∃ L1 : List xS3, xRC tk tl 0 9 na no L F a o q L1 ∧ (F = 0 → xStq (xv g1 ws) s0 b n L1) ∧ xFr 14000 S g g1 ws ∧ xFr 11 S g g1 a1)) := by
  refine xEnterV (by decide) (by simp [lg_sl, Value.category]) [(0, .ref a0), (1, .ref a1), (2, .int (iI x2))] rfl ?_
  intro K E hK hret _ _ _
  refine X_aloadn hK (i := 0) 0 kd29_20.2.2.2.2.2.2.1 rfl rfl ?_
  refine X_callV hK [] [] lk_X7_47 (c3_now _ _ _ _ _ S g a0 na wt wp tk tl cn hs_a0 (by omega) ena ewt hs_wt ewp hs_wp hp0 (by omega) (by omega)) hs_a0 ⟨by decide, rfl⟩ kd29_20.2.2.2.2.2.2.2.1 rfl rfl (by simp [Value.category]) (by decide) (by decide) (by decide) (by decide) (fun r1 S3 g2 pr1 qr1 hg2 => ?_)
  obtain ⟨rfl, rfl, z4, rfl, lz4, uz4, k5⟩ := pr1
  refine X_st [.int (iI z4)] rfl ?_
  refine X_istoren hK (i := 3) [(3, .int (iI z4)), (0, .ref a0), (1, .ref a1), (2, .int (iI x2))] kd29_20.2.2.2.2.2.2.2.2.1 rfl (by decide) rfl ?_
  refine X_iloadn hK (i := 3) 0 kd29_20.2.2.2.2.2.2.2.2.2.1 rfl rfl ?_
  refine X_bipush hK kd29_20.2.2.2.2.2.2.2.2.2.2.1 (by decide) ?_
  refine X_icmp_lt hK 21 (by omega) (by omega) kd29_20.2.2.2.2.2.2.2.2.2.2.2 (by decide) (fun c6 => ?_) (fun c6 => ?_)
  · refine X_iconst hK kd29_21.2.2.2.2.2.1 ?_
    refine X_istore hK (i := 4) [(4, .int (iI 0)), (3, .int (iI z4)), (0, .ref a0), (1, .ref a1), (2, .int (iI x2))] kd29_21.2.2.2.2.2.2.1 (by decide) rfl ?_
    refine X_iload hK (i := 4) 0 kd29_21.2.2.2.2.2.2.2.1 rfl ?_
    refine X_if_ne hK 49 (by omega) kd29_21.2.2.2.2.2.2.2.2.1 (by decide) (fun c7 => False.elim (by omega)) (fun c7 => ?_)
    refine X_iloadn hK (i := 3) 1 kd29_21.2.2.2.2.2.2.2.2.2.1 rfl rfl ?_
    refine X_bipush hK kd29_21.2.2.2.2.2.2.2.2.2.2.1 (by decide) ?_
    refine X_icmp_eq hK 49 (by omega) (by omega) kd29_21.2.2.2.2.2.2.2.2.2.2.2 (by decide) (fun c8 => ?_) (fun c8 => ?_)
    · refine X_aloadn hK (i := 0) 2 kd29_22.2.2.2.2.2.2.2.1 rfl rfl ?_
      refine X_getK hK fl_X7_22_8 hs_a0 eno kd29_22.2.2.2.2.2.2.2.2.1 ?_
      refine X_bipush hK kd29_22.2.2.2.2.2.2.2.2.2.1 (by decide) ?_
      refine X_icmp_ge hK 64 (by omega) (by omega) kd29_22.2.2.2.2.2.2.2.2.2.2.1 (by decide) (fun c9 => ?_) (fun c9 => ?_)
      · refine X_aloadn hK (i := 0) 2 kd29_23.2.2.1 rfl rfl ?_
        refine X_iconst hK kd29_23.2.2.2.1 ?_
        refine X_callV hK [.int (iI 4)] [] lk_X7_60 (c3_tell _ _ _ _ _ S g a0 4 na no nf nq wt wp tk tl cn hs_a0 (by omega) (by omega) ena (by omega) eno (by omega) enf (by omega) enq ewt hs_wt ewp hs_wp hp0 (by omega) (by omega)) hs_a0 ⟨by decide, rfl⟩ kd29_23.2.2.2.2.1 rfl rfl (by simp [Value.category]) (by decide) (by decide) (by decide) (by decide) (fun r10 S12 g11 pr10 qr10 hg11 => ?_)
        obtain ⟨rfl, rfl, k13⟩ := pr10
        refine X_st [] rfl ?_
        obtain ⟨Ft14, at14, ot14, qt14, eFt14, lFt14, uFt14, eat14, lat14, uat14, eot14, lot14, uot14, eqt14, lqt14, uqt14, kt14⟩ := k13
        have cat14 : at14 ≤ 300 := by have h9 := (show xTB (xv g11 wt) (xv g11 wp) tk tl cn from (by rw [(xv_m hg11 hs_wt (by decide) (by decide)), (xv_m hg11 hs_wp (by decide) (by decide))]; exact hp0)).2.2.2; omega
        refine X_goto hK 148 kd29_23.2.2.2.2.2.1 (by decide) ?_
        exact hret _ _ _ _ _ _ kd29_27.2.2.2 ⟨rfl, rfl, ⟨Ft14, at14, ot14, qt14, ns, eFt14, by omega, by omega, eat14, by omega, by omega, eot14, by omega, by omega, eqt14, by omega, by omega, ((hg11 a1 11 0 2 hs_a1 (by decide)).trans ens), by omega, by omega, [], (by obtain ⟨h8, h7, h6⟩ := kt14; have h5 := h8.resolve_left (fun q9 => by omega); rw [h5.2.1]; exact xRC.f4 (by rw [← k5]; omega) (by omega) h5.2.2), (fun h9 => by have h8 := kt14; omega), (xFr.m xFr.rf hg11 (by decide)), (xFr.m xFr.rf hg11 (by decide))⟩⟩ (Nat.le_refl _) (Nat.le_refl _)
      · refine X_iloadn hK (i := 2) 4 kd29_22.2.2.2.2.2.2.2.2.2.2.2 rfl rfl ?_
        refine X_bipush hK kd29_23.1 (by decide) ?_
        refine X_icmp_le hK 72 (by omega) (by omega) kd29_23.2.1 (by decide) (fun c15 => ?_) (fun c15 => False.elim (by omega))
        refine X_aloadn hK (i := 0) 2 kd29_23.2.2.2.2.2.2.1 rfl rfl ?_
        refine X_dup hK kd29_23.2.2.2.2.2.2.2.1 rfl ?_
        refine X_getK hK fl_X7_22_8 hs_a0 eno kd29_23.2.2.2.2.2.2.2.2.1 ?_
        refine X_iconst hK kd29_23.2.2.2.2.2.2.2.2.2.1 ?_
        refine X_iadd hK kd29_23.2.2.2.2.2.2.2.2.2.2.1 ?_
        refine X_puti hK fl_X7_22_8 hs_a0 (by decide) sl_8_3 (by omega) (by omega) kd29_23.2.2.2.2.2.2.2.2.2.2.2 (fun g16 hg16 => ?_)
        refine X_aloadn hK (i := 0) 2 kd29_24.1 rfl rfl ?_
        refine X_dup hK kd29_24.2.1 rfl ?_
        have hl17 := xTB.lt (A := xv g16 wt) (B := xv g16 wp) (tk := tk) (tl := tl) (c := cn) (a := na) (by rw [(xv_a hg16 (xne hs_wt hs_a0 (by decide))), (xv_a hg16 (xne hs_wp hs_a0 (by decide)))]; exact hp0) (by omega) (by rw [← k5]; omega)
        refine X_getK hK fl_X7_18_8 hs_a0 ((xs_k hg16 (by decide)).trans ena) kd29_24.2.2.1 ?_
        refine X_iconst hK kd29_24.2.2.2.1 ?_
        refine X_iadd hK kd29_24.2.2.2.2.1 ?_
        refine X_puti hK fl_X7_18_8 hs_a0 (by decide) sl_8_2 (by omega) (by omega) kd29_24.2.2.2.2.2.1 (fun g18 hg18 => ?_)
        refine X_iload hK (i := 4) 0 kd29_24.2.2.2.2.2.2.1 rfl ?_
        refine X_if_eq hK 109 (by omega) kd29_24.2.2.2.2.2.2.2.1 (by decide) (fun c19 => ?_) (fun c19 => False.elim (by omega))
        refine X_iloadn hK (i := 3) 1 kd29_25.2.2.2.1 rfl rfl ?_
        refine X_bipush hK kd29_25.2.2.2.2.1 (by decide) ?_
        refine X_icmp_ne hK 132 (by omega) (by omega) kd29_25.2.2.2.2.2.1 (by decide) (fun c20 => ?_) (fun c20 => False.elim (by omega))
        refine X_aloadn hK (i := 0) 2 kd29_26.2.2.2.2.1 rfl rfl ?_
        refine X_aloadn hK (i := 1) 3 kd29_26.2.2.2.2.2.1 rfl rfl ?_
        refine X_iloadn hK (i := 2) 4 kd29_26.2.2.2.2.2.2.1 rfl rfl ?_
        refine X_iconst hK kd29_26.2.2.2.2.2.2.2.1 ?_
        refine X_iadd hK kd29_26.2.2.2.2.2.2.2.2.1 ?_
        refine X_callV hK [.ref a1, .int (iI (x2 + 1))] [] lk_X7_132 (m_readOne_10 _ _ _ _ _ S g18 a0 a1 (x2 + 1) (na + 1) (no + 1) nf nq wt wp ns ws tk tl cn L b s0 hs_a0 hs_a1 (by omega) (by omega) (xs_s hg18) (by omega) ((xs_k hg18 (by decide)).trans (xs_s hg16)) (by omega) ((xs_k hg18 (by decide)).trans ((xs_k hg16 (by decide)).trans enf)) (by omega) ((xs_k hg18 (by decide)).trans ((xs_k hg16 (by decide)).trans enq)) ((xs_k hg18 (by decide)).trans ((xs_k hg16 (by decide)).trans ewt)) hs_wt ((xs_k hg18 (by decide)).trans ((xs_k hg16 (by decide)).trans ewp)) hs_wp (by omega) ((xs_a hg18 (xne hs_a1 hs_a0 (by decide))).trans ((xs_k hg16 (by decide)).trans ens)) ((xs_k hg18 (by decide)).trans ((xs_k hg16 (by decide)).trans ews)) hs_ws (by rw [(Eq.trans (xv_a hg18 (xne hs_wt hs_a0 (by decide))) (xv_a hg16 (xne hs_wt hs_a0 (by decide)))), (Eq.trans (xv_a hg18 (xne hs_wp hs_a0 (by decide))) (xv_a hg16 (xne hs_wp hs_a0 (by decide))))]; exact hp0) (by omega) (by omega) (by rw [(Eq.trans (xv_a hg18 (xne hs_ws hs_a0 (by decide))) (xv_a hg16 (xne hs_ws hs_a0 (by decide))))]; exact hp3) (by omega) (by omega)) hs_a0 ⟨by decide, rfl⟩ kd29_26.2.2.2.2.2.2.2.2.2.1 rfl rfl (by simp [Value.category]) (by decide) (by decide) (by decide) (by decide) (fun r21 S23 g22 pr21 qr21 hg22 => ?_)
        obtain ⟨rfl, rfl, k24⟩ := pr21
        refine X_st [] rfl ?_
        obtain ⟨Ft25, at25, ot25, qt25, nt25, eFt25, lFt25, uFt25, eat25, lat25, uat25, eot25, lot25, uot25, eqt25, lqt25, uqt25, ent25, lnt25, unt25, Lt25, kt25, stt25, fst25, ftt25⟩ := k24
        have cat25 : at25 ≤ 300 := (by omega)
        refine X_aloadn hK (i := 1) 3 kd29_26.2.2.2.2.2.2.2.2.2.2.1 rfl rfl ?_
        refine X_bipush hK kd29_26.2.2.2.2.2.2.2.2.2.2.2 (by decide) ?_
        refine X_iconst hK kd29_27.1 ?_
        refine X_iconst hK kd29_27.2.1 ?_
        refine X_callV hK [.int (iI 12), .int (iI 0), .int (iI 0)] [] lk_X7_129 (m_addStep _ _ _ _ _ S g22 a1 12 0 0 nt25 ws hs_a1 (by omega) (by omega) (by omega) (by omega) ent25 ((hg22 a1 11 0 7 hs_a1 (by decide)).trans ((xs_k hg18 (by decide)).trans ((xs_k hg16 (by decide)).trans ews))) hs_ws) hs_a1 ⟨by decide, rfl⟩ kd29_27.2.2.1 rfl rfl (by simp [Value.category]) (by decide) (by decide) (by decide) (by decide) (fun r26 S28 g27 pr26 qr26 hg27 => ?_)
        obtain ⟨rfl, rfl, k29, k30, k31, k32⟩ := pr26
        refine X_st [] rfl ?_
        exact hret _ _ _ _ _ _ kd29_27.2.2.2 ⟨rfl, rfl, ⟨Ft25, at25, ot25, qt25, (if nt25 < 100 then nt25 + 1 else nt25), ((hg27 a0 8 0 5 hs_a0 (by decide)).trans eFt25), by omega, by omega, ((hg27 a0 8 0 2 hs_a0 (by decide)).trans eat25), by omega, by omega, ((hg27 a0 8 0 3 hs_a0 (by decide)).trans eot25), by omega, by omega, ((hg27 a0 8 0 6 hs_a0 (by decide)).trans eqt25), by omega, by omega, k29, by omega, by omega, (Lt25 ++ [(12, 0, 0)]), (xRC.nt (by rw [← k5]; omega) (by omega) kt25 (fun _ => rfl)), (fun h9 => by have h6 := xRC.b (by omega) kt25 h9; have h5 := (stt25 h9).1; have h4 := hp3.1; exact (by have h9 := (xStq.add (x := (12, 0, 0)) (stt25 (by omega)) (by omega) (by have h4a := (k30.1 (by omega)).1; unfold xec9; (try dsimp only); omega) (k30.1 (by omega)).2); rw [if_pos (by omega)]; exact h9)), (xFr.tr (xFr.tr (xFr.t (xFr.t xFr.rf hg16 hs_a0 (by decide)) hg18 hs_a0 (by decide)) fst25) k31), (xFr.tr (xFr.tr (xFr.t (xFr.t xFr.rf hg16 hs_a0 (by decide)) hg18 hs_a0 (by decide)) ftt25) k32)⟩⟩ (Nat.le_refl _) (Nat.le_refl _)
    · refine X_iloadn hK (i := 3) 1 kd29_22.1 rfl rfl ?_
      refine X_bipush hK kd29_22.2.1 (by decide) ?_
      refine X_icmp_eq hK 49 (by omega) (by omega) kd29_22.2.2.1 (by decide) (fun c33 => False.elim (by omega)) (fun c33 => ?_)
      refine X_aloadn hK (i := 0) 2 kd29_22.2.2.2.1 rfl rfl ?_
      refine X_iconst hK kd29_22.2.2.2.2.1 ?_
      refine X_callV hK [.int (iI 1)] [] lk_X7_60 (c3_tell _ _ _ _ _ S g a0 1 na no nf nq wt wp tk tl cn hs_a0 (by omega) (by omega) ena (by omega) eno (by omega) enf (by omega) enq ewt hs_wt ewp hs_wp hp0 (by omega) (by omega)) hs_a0 ⟨by decide, rfl⟩ kd29_22.2.2.2.2.2.1 rfl rfl (by simp [Value.category]) (by decide) (by decide) (by decide) (by decide) (fun r34 S36 g35 pr34 qr34 hg35 => ?_)
      obtain ⟨rfl, rfl, k37⟩ := pr34
      refine X_st [] rfl ?_
      obtain ⟨Ft38, at38, ot38, qt38, eFt38, lFt38, uFt38, eat38, lat38, uat38, eot38, lot38, uot38, eqt38, lqt38, uqt38, kt38⟩ := k37
      have cat38 : at38 ≤ 300 := by have h9 := (show xTB (xv g35 wt) (xv g35 wp) tk tl cn from (by rw [(xv_m hg35 hs_wt (by decide) (by decide)), (xv_m hg35 hs_wp (by decide) (by decide))]; exact hp0)).2.2.2; omega
      refine X_goto hK 148 kd29_22.2.2.2.2.2.2.1 (by decide) ?_
      exact hret _ _ _ _ _ _ kd29_27.2.2.2 ⟨rfl, rfl, ⟨Ft38, at38, ot38, qt38, ns, eFt38, by omega, by omega, eat38, by omega, by omega, eot38, by omega, by omega, eqt38, by omega, by omega, ((hg35 a1 11 0 2 hs_a1 (by decide)).trans ens), by omega, by omega, [], (by obtain ⟨h8, h7, h6⟩ := kt38; have h5 := h8.resolve_left (fun q9 => by omega); rw [h5.2.1]; exact xRC.f1 (by rw [← k5]; omega) h5.2.2), (fun h9 => by have h8 := kt38; omega), (xFr.m xFr.rf hg35 (by decide)), (xFr.m xFr.rf hg35 (by decide))⟩⟩ (Nat.le_refl _) (Nat.le_refl _)
  · refine X_iloadn hK (i := 3) 0 kd29_21.1 rfl rfl ?_
    refine X_bipush hK kd29_21.2.1 (by decide) ?_
    refine X_icmp_ge hK 21 (by omega) (by omega) kd29_21.2.2.1 (by decide) (fun c39 => ?_) (fun c39 => ?_)
    · refine X_iconst hK kd29_21.2.2.2.2.2.1 ?_
      refine X_istore hK (i := 4) [(4, .int (iI 0)), (3, .int (iI z4)), (0, .ref a0), (1, .ref a1), (2, .int (iI x2))] kd29_21.2.2.2.2.2.2.1 (by decide) rfl ?_
      refine X_iload hK (i := 4) 0 kd29_21.2.2.2.2.2.2.2.1 rfl ?_
      refine X_if_ne hK 49 (by omega) kd29_21.2.2.2.2.2.2.2.2.1 (by decide) (fun c40 => False.elim (by omega)) (fun c40 => ?_)
      refine X_iloadn hK (i := 3) 1 kd29_21.2.2.2.2.2.2.2.2.2.1 rfl rfl ?_
      refine X_bipush hK kd29_21.2.2.2.2.2.2.2.2.2.2.1 (by decide) ?_
      refine X_icmp_eq hK 49 (by omega) (by omega) kd29_21.2.2.2.2.2.2.2.2.2.2.2 (by decide) (fun c41 => False.elim (by omega)) (fun c41 => ?_)
      refine X_iloadn hK (i := 3) 1 kd29_22.1 rfl rfl ?_
      refine X_bipush hK kd29_22.2.1 (by decide) ?_
      refine X_icmp_eq hK 49 (by omega) (by omega) kd29_22.2.2.1 (by decide) (fun c42 => ?_) (fun c42 => ?_)
      · refine X_aloadn hK (i := 0) 2 kd29_22.2.2.2.2.2.2.2.1 rfl rfl ?_
        refine X_getK hK fl_X7_22_8 hs_a0 eno kd29_22.2.2.2.2.2.2.2.2.1 ?_
        refine X_bipush hK kd29_22.2.2.2.2.2.2.2.2.2.1 (by decide) ?_
        refine X_icmp_ge hK 64 (by omega) (by omega) kd29_22.2.2.2.2.2.2.2.2.2.2.1 (by decide) (fun c43 => ?_) (fun c43 => ?_)
        · refine X_aloadn hK (i := 0) 2 kd29_23.2.2.1 rfl rfl ?_
          refine X_iconst hK kd29_23.2.2.2.1 ?_
          refine X_callV hK [.int (iI 4)] [] lk_X7_60 (c3_tell _ _ _ _ _ S g a0 4 na no nf nq wt wp tk tl cn hs_a0 (by omega) (by omega) ena (by omega) eno (by omega) enf (by omega) enq ewt hs_wt ewp hs_wp hp0 (by omega) (by omega)) hs_a0 ⟨by decide, rfl⟩ kd29_23.2.2.2.2.1 rfl rfl (by simp [Value.category]) (by decide) (by decide) (by decide) (by decide) (fun r44 S46 g45 pr44 qr44 hg45 => ?_)
          obtain ⟨rfl, rfl, k47⟩ := pr44
          refine X_st [] rfl ?_
          obtain ⟨Ft48, at48, ot48, qt48, eFt48, lFt48, uFt48, eat48, lat48, uat48, eot48, lot48, uot48, eqt48, lqt48, uqt48, kt48⟩ := k47
          have cat48 : at48 ≤ 300 := by have h9 := (show xTB (xv g45 wt) (xv g45 wp) tk tl cn from (by rw [(xv_m hg45 hs_wt (by decide) (by decide)), (xv_m hg45 hs_wp (by decide) (by decide))]; exact hp0)).2.2.2; omega
          refine X_goto hK 148 kd29_23.2.2.2.2.2.1 (by decide) ?_
          exact hret _ _ _ _ _ _ kd29_27.2.2.2 ⟨rfl, rfl, ⟨Ft48, at48, ot48, qt48, ns, eFt48, by omega, by omega, eat48, by omega, by omega, eot48, by omega, by omega, eqt48, by omega, by omega, ((hg45 a1 11 0 2 hs_a1 (by decide)).trans ens), by omega, by omega, [], (by obtain ⟨h8, h7, h6⟩ := kt48; have h5 := h8.resolve_left (fun q9 => by omega); rw [h5.2.1]; exact xRC.f4 (by rw [← k5]; omega) (by omega) h5.2.2), (fun h9 => by have h8 := kt48; omega), (xFr.m xFr.rf hg45 (by decide)), (xFr.m xFr.rf hg45 (by decide))⟩⟩ (Nat.le_refl _) (Nat.le_refl _)
        · refine X_iloadn hK (i := 2) 4 kd29_22.2.2.2.2.2.2.2.2.2.2.2 rfl rfl ?_
          refine X_bipush hK kd29_23.1 (by decide) ?_
          refine X_icmp_le hK 72 (by omega) (by omega) kd29_23.2.1 (by decide) (fun c49 => ?_) (fun c49 => False.elim (by omega))
          refine X_aloadn hK (i := 0) 2 kd29_23.2.2.2.2.2.2.1 rfl rfl ?_
          refine X_dup hK kd29_23.2.2.2.2.2.2.2.1 rfl ?_
          refine X_getK hK fl_X7_22_8 hs_a0 eno kd29_23.2.2.2.2.2.2.2.2.1 ?_
          refine X_iconst hK kd29_23.2.2.2.2.2.2.2.2.2.1 ?_
          refine X_iadd hK kd29_23.2.2.2.2.2.2.2.2.2.2.1 ?_
          refine X_puti hK fl_X7_22_8 hs_a0 (by decide) sl_8_3 (by omega) (by omega) kd29_23.2.2.2.2.2.2.2.2.2.2.2 (fun g50 hg50 => ?_)
          refine X_aloadn hK (i := 0) 2 kd29_24.1 rfl rfl ?_
          refine X_dup hK kd29_24.2.1 rfl ?_
          have hl51 := xTB.lt (A := xv g50 wt) (B := xv g50 wp) (tk := tk) (tl := tl) (c := cn) (a := na) (by rw [(xv_a hg50 (xne hs_wt hs_a0 (by decide))), (xv_a hg50 (xne hs_wp hs_a0 (by decide)))]; exact hp0) (by omega) (by rw [← k5]; omega)
          refine X_getK hK fl_X7_18_8 hs_a0 ((xs_k hg50 (by decide)).trans ena) kd29_24.2.2.1 ?_
          refine X_iconst hK kd29_24.2.2.2.1 ?_
          refine X_iadd hK kd29_24.2.2.2.2.1 ?_
          refine X_puti hK fl_X7_18_8 hs_a0 (by decide) sl_8_2 (by omega) (by omega) kd29_24.2.2.2.2.2.1 (fun g52 hg52 => ?_)
          refine X_iload hK (i := 4) 0 kd29_24.2.2.2.2.2.2.1 rfl ?_
          refine X_if_eq hK 109 (by omega) kd29_24.2.2.2.2.2.2.2.1 (by decide) (fun c53 => ?_) (fun c53 => False.elim (by omega))
          refine X_iloadn hK (i := 3) 1 kd29_25.2.2.2.1 rfl rfl ?_
          refine X_bipush hK kd29_25.2.2.2.2.1 (by decide) ?_
          refine X_icmp_ne hK 132 (by omega) (by omega) kd29_25.2.2.2.2.2.1 (by decide) (fun c54 => False.elim (by omega)) (fun c54 => ?_)
          refine X_aloadn hK (i := 0) 2 kd29_25.2.2.2.2.2.2.1 rfl rfl ?_
          refine X_aloadn hK (i := 1) 3 kd29_25.2.2.2.2.2.2.2.1 rfl rfl ?_
          refine X_iloadn hK (i := 2) 4 kd29_25.2.2.2.2.2.2.2.2.1 rfl rfl ?_
          refine X_iconst hK kd29_25.2.2.2.2.2.2.2.2.2.1 ?_
          refine X_iadd hK kd29_25.2.2.2.2.2.2.2.2.2.2.1 ?_
          refine X_callV hK [.ref a1, .int (iI (x2 + 1))] [] lk_X7_115 (m_readCond_10 _ _ _ _ _ S g52 a0 a1 (x2 + 1) (na + 1) (no + 1) nf nq wt wp ns ws tk tl cn L b s0 hs_a0 hs_a1 (by omega) (by omega) (xs_s hg52) (by omega) ((xs_k hg52 (by decide)).trans (xs_s hg50)) (by omega) ((xs_k hg52 (by decide)).trans ((xs_k hg50 (by decide)).trans enf)) (by omega) ((xs_k hg52 (by decide)).trans ((xs_k hg50 (by decide)).trans enq)) ((xs_k hg52 (by decide)).trans ((xs_k hg50 (by decide)).trans ewt)) hs_wt ((xs_k hg52 (by decide)).trans ((xs_k hg50 (by decide)).trans ewp)) hs_wp (by omega) ((xs_a hg52 (xne hs_a1 hs_a0 (by decide))).trans ((xs_k hg50 (by decide)).trans ens)) ((xs_k hg52 (by decide)).trans ((xs_k hg50 (by decide)).trans ews)) hs_ws (by rw [(Eq.trans (xv_a hg52 (xne hs_wt hs_a0 (by decide))) (xv_a hg50 (xne hs_wt hs_a0 (by decide)))), (Eq.trans (xv_a hg52 (xne hs_wp hs_a0 (by decide))) (xv_a hg50 (xne hs_wp hs_a0 (by decide))))]; exact hp0) (by omega) (by omega) (by rw [(Eq.trans (xv_a hg52 (xne hs_ws hs_a0 (by decide))) (xv_a hg50 (xne hs_ws hs_a0 (by decide))))]; exact hp3) (by omega) (by omega)) hs_a0 ⟨by decide, rfl⟩ kd29_25.2.2.2.2.2.2.2.2.2.2.2 rfl rfl (by simp [Value.category]) (by decide) (by decide) (by decide) (by decide) (fun r55 S57 g56 pr55 qr55 hg56 => ?_)
          obtain ⟨rfl, rfl, k58⟩ := pr55
          refine X_st [] rfl ?_
          obtain ⟨Ft59, at59, ot59, qt59, nt59, eFt59, lFt59, uFt59, eat59, lat59, uat59, eot59, lot59, uot59, eqt59, lqt59, uqt59, ent59, lnt59, unt59, Lt59, kt59, stt59, fst59, ftt59⟩ := k58
          have cat59 : at59 ≤ 300 := (by omega)
          refine X_aloadn hK (i := 0) 2 kd29_26.1 rfl rfl ?_
          refine X_bipush hK kd29_26.2.1 (by decide) ?_
          refine X_callV hK [.int (iI 26)] [] lk_X7_119 (c3_expect _ _ _ _ _ S g56 a0 26 at59 ot59 Ft59 qt59 wt wp tk tl cn hs_a0 (by omega) (by omega) eat59 (by omega) eot59 (by omega) eFt59 (by omega) eqt59 ((hg56 a0 8 0 0 hs_a0 (by decide)).trans ((xs_k hg52 (by decide)).trans ((xs_k hg50 (by decide)).trans ewt))) hs_wt ((hg56 a0 8 0 1 hs_a0 (by decide)).trans ((xs_k hg52 (by decide)).trans ((xs_k hg50 (by decide)).trans ewp))) hs_wp (by rw [(Eq.trans (Eq.trans (xv_m hg56 hs_wt (by decide) (by decide)) (xv_a hg52 (xne hs_wt hs_a0 (by decide)))) (xv_a hg50 (xne hs_wt hs_a0 (by decide)))), (Eq.trans (Eq.trans (xv_m hg56 hs_wp (by decide) (by decide)) (xv_a hg52 (xne hs_wp hs_a0 (by decide)))) (xv_a hg50 (xne hs_wp hs_a0 (by decide))))]; exact hp0) (by omega) (by omega)) hs_a0 ⟨by decide, rfl⟩ kd29_26.2.2.1 rfl rfl (by simp [Value.category]) (by decide) (by decide) (by decide) (by decide) (fun r60 S62 g61 pr60 qr60 hg61 => ?_)
          obtain ⟨rfl, rfl, k63⟩ := pr60
          refine X_st [] rfl ?_
          obtain ⟨Ft64, at64, ot64, qt64, eFt64, lFt64, uFt64, eat64, lat64, uat64, eot64, lot64, uot64, eqt64, lqt64, uqt64, kt64⟩ := k63
          have cat64 : at64 ≤ 300 := by have h9 := (show xTB (xv g61 wt) (xv g61 wp) tk tl cn from (by rw [(Eq.trans (Eq.trans (Eq.trans (xv_m hg61 hs_wt (by decide) (by decide)) (xv_m hg56 hs_wt (by decide) (by decide))) (xv_a hg52 (xne hs_wt hs_a0 (by decide)))) (xv_a hg50 (xne hs_wt hs_a0 (by decide)))), (Eq.trans (Eq.trans (Eq.trans (xv_m hg61 hs_wp (by decide) (by decide)) (xv_m hg56 hs_wp (by decide) (by decide))) (xv_a hg52 (xne hs_wp hs_a0 (by decide)))) (xv_a hg50 (xne hs_wp hs_a0 (by decide))))]; exact hp0)).2.2.2; omega
          refine X_goto hK 148 kd29_26.2.2.2.1 (by decide) ?_
          exact hret _ _ _ _ _ _ kd29_27.2.2.2 ⟨rfl, rfl, ⟨Ft64, at64, ot64, qt64, nt59, eFt64, by omega, by omega, eat64, by omega, by omega, eot64, by omega, by omega, eqt64, by omega, by omega, ((hg61 a1 11 0 2 hs_a1 (by decide)).trans ent59), by omega, by omega, Lt59, (by obtain ⟨h8, h7⟩ := kt64; by_cases f9 : Ft59 = 0; (rcases h8 with ⟨c1, c2, c3, c4⟩ | ⟨c1, c2, c3⟩; (rw [show Ft64 = 0 by omega, c3, h7]; exact xRC.po (by rw [← k5]; omega) (by omega) (show xRC tk tl 2 (9 + 1) (na + 1) (no + 1) L Ft59 at59 ot59 qt59 Lt59 from kt59) f9 c1); (have c4 := c3.resolve_left (fun q9 => q9.1 f9); rw [c4.2.1]; exact xRC.px (by rw [← k5]; omega) (by omega) (show xRC tk tl 2 (9 + 1) (na + 1) (no + 1) L Ft59 at59 ot59 qt59 Lt59 from kt59) f9 c1 c4.2.2)); (have h6 : Ft64 = Ft59 ∧ qt64 = qt59 := (by omega); rw [h6.1, h6.2]; exact xRC.pf (by rw [← k5]; omega) (by omega) (show xRC tk tl 2 (9 + 1) (na + 1) (no + 1) L Ft59 at59 ot59 qt59 Lt59 from kt59) f9)), (fun h9 => by have h8 := kt64; have h7 : Ft59 = 0 := (by omega); rw [(xv_m hg61 hs_ws (by decide) (by decide))]; exact stt59 h7), (xFr.m (xFr.tr (xFr.t (xFr.t xFr.rf hg50 hs_a0 (by decide)) hg52 hs_a0 (by decide)) fst59) hg61 (by decide)), (xFr.m (xFr.tr (xFr.t (xFr.t xFr.rf hg50 hs_a0 (by decide)) hg52 hs_a0 (by decide)) ftt59) hg61 (by decide))⟩⟩ (Nat.le_refl _) (Nat.le_refl _)
      · refine X_aloadn hK (i := 0) 2 kd29_22.2.2.2.1 rfl rfl ?_
        refine X_iconst hK kd29_22.2.2.2.2.1 ?_
        refine X_callV hK [.int (iI 1)] [] lk_X7_60 (c3_tell _ _ _ _ _ S g a0 1 na no nf nq wt wp tk tl cn hs_a0 (by omega) (by omega) ena (by omega) eno (by omega) enf (by omega) enq ewt hs_wt ewp hs_wp hp0 (by omega) (by omega)) hs_a0 ⟨by decide, rfl⟩ kd29_22.2.2.2.2.2.1 rfl rfl (by simp [Value.category]) (by decide) (by decide) (by decide) (by decide) (fun r65 S67 g66 pr65 qr65 hg66 => ?_)
        obtain ⟨rfl, rfl, k68⟩ := pr65
        refine X_st [] rfl ?_
        obtain ⟨Ft69, at69, ot69, qt69, eFt69, lFt69, uFt69, eat69, lat69, uat69, eot69, lot69, uot69, eqt69, lqt69, uqt69, kt69⟩ := k68
        have cat69 : at69 ≤ 300 := by have h9 := (show xTB (xv g66 wt) (xv g66 wp) tk tl cn from (by rw [(xv_m hg66 hs_wt (by decide) (by decide)), (xv_m hg66 hs_wp (by decide) (by decide))]; exact hp0)).2.2.2; omega
        refine X_goto hK 148 kd29_22.2.2.2.2.2.2.1 (by decide) ?_
        exact hret _ _ _ _ _ _ kd29_27.2.2.2 ⟨rfl, rfl, ⟨Ft69, at69, ot69, qt69, ns, eFt69, by omega, by omega, eat69, by omega, by omega, eot69, by omega, by omega, eqt69, by omega, by omega, ((hg66 a1 11 0 2 hs_a1 (by decide)).trans ens), by omega, by omega, [], (by obtain ⟨h8, h7, h6⟩ := kt69; have h5 := h8.resolve_left (fun q9 => by omega); rw [h5.2.1]; exact xRC.f1 (by rw [← k5]; omega) h5.2.2), (fun h9 => by have h8 := kt69; omega), (xFr.m xFr.rf hg66 (by decide)), (xFr.m xFr.rf hg66 (by decide))⟩⟩ (Nat.le_refl _) (Nat.le_refl _)
    · refine X_iconst hK kd29_21.2.2.2.1 ?_
      refine X_goto hK 22 kd29_21.2.2.2.2.1 (by decide) ?_
      refine X_istore hK (i := 4) [(4, .int (iI 1)), (3, .int (iI z4)), (0, .ref a0), (1, .ref a1), (2, .int (iI x2))] kd29_21.2.2.2.2.2.2.1 (by decide) rfl ?_
      refine X_iload hK (i := 4) 0 kd29_21.2.2.2.2.2.2.2.1 rfl ?_
      refine X_if_ne hK 49 (by omega) kd29_21.2.2.2.2.2.2.2.2.1 (by decide) (fun c70 => ?_) (fun c70 => False.elim (by omega))
      refine X_aloadn hK (i := 0) 2 kd29_22.2.2.2.2.2.2.2.1 rfl rfl ?_
      refine X_getK hK fl_X7_22_8 hs_a0 eno kd29_22.2.2.2.2.2.2.2.2.1 ?_
      refine X_bipush hK kd29_22.2.2.2.2.2.2.2.2.2.1 (by decide) ?_
      refine X_icmp_ge hK 64 (by omega) (by omega) kd29_22.2.2.2.2.2.2.2.2.2.2.1 (by decide) (fun c71 => ?_) (fun c71 => ?_)
      · refine X_aloadn hK (i := 0) 2 kd29_23.2.2.1 rfl rfl ?_
        refine X_iconst hK kd29_23.2.2.2.1 ?_
        refine X_callV hK [.int (iI 4)] [] lk_X7_60 (c3_tell _ _ _ _ _ S g a0 4 na no nf nq wt wp tk tl cn hs_a0 (by omega) (by omega) ena (by omega) eno (by omega) enf (by omega) enq ewt hs_wt ewp hs_wp hp0 (by omega) (by omega)) hs_a0 ⟨by decide, rfl⟩ kd29_23.2.2.2.2.1 rfl rfl (by simp [Value.category]) (by decide) (by decide) (by decide) (by decide) (fun r72 S74 g73 pr72 qr72 hg73 => ?_)
        obtain ⟨rfl, rfl, k75⟩ := pr72
        refine X_st [] rfl ?_
        obtain ⟨Ft76, at76, ot76, qt76, eFt76, lFt76, uFt76, eat76, lat76, uat76, eot76, lot76, uot76, eqt76, lqt76, uqt76, kt76⟩ := k75
        have cat76 : at76 ≤ 300 := by have h9 := (show xTB (xv g73 wt) (xv g73 wp) tk tl cn from (by rw [(xv_m hg73 hs_wt (by decide) (by decide)), (xv_m hg73 hs_wp (by decide) (by decide))]; exact hp0)).2.2.2; omega
        refine X_goto hK 148 kd29_23.2.2.2.2.2.1 (by decide) ?_
        exact hret _ _ _ _ _ _ kd29_27.2.2.2 ⟨rfl, rfl, ⟨Ft76, at76, ot76, qt76, ns, eFt76, by omega, by omega, eat76, by omega, by omega, eot76, by omega, by omega, eqt76, by omega, by omega, ((hg73 a1 11 0 2 hs_a1 (by decide)).trans ens), by omega, by omega, [], (by obtain ⟨h8, h7, h6⟩ := kt76; have h5 := h8.resolve_left (fun q9 => by omega); rw [h5.2.1]; exact xRC.f4 (by rw [← k5]; omega) (by omega) h5.2.2), (fun h9 => by have h8 := kt76; omega), (xFr.m xFr.rf hg73 (by decide)), (xFr.m xFr.rf hg73 (by decide))⟩⟩ (Nat.le_refl _) (Nat.le_refl _)
      · refine X_iloadn hK (i := 2) 4 kd29_22.2.2.2.2.2.2.2.2.2.2.2 rfl rfl ?_
        refine X_bipush hK kd29_23.1 (by decide) ?_
        refine X_icmp_le hK 72 (by omega) (by omega) kd29_23.2.1 (by decide) (fun c77 => ?_) (fun c77 => False.elim (by omega))
        refine X_aloadn hK (i := 0) 2 kd29_23.2.2.2.2.2.2.1 rfl rfl ?_
        refine X_dup hK kd29_23.2.2.2.2.2.2.2.1 rfl ?_
        refine X_getK hK fl_X7_22_8 hs_a0 eno kd29_23.2.2.2.2.2.2.2.2.1 ?_
        refine X_iconst hK kd29_23.2.2.2.2.2.2.2.2.2.1 ?_
        refine X_iadd hK kd29_23.2.2.2.2.2.2.2.2.2.2.1 ?_
        refine X_puti hK fl_X7_22_8 hs_a0 (by decide) sl_8_3 (by omega) (by omega) kd29_23.2.2.2.2.2.2.2.2.2.2.2 (fun g78 hg78 => ?_)
        refine X_aloadn hK (i := 0) 2 kd29_24.1 rfl rfl ?_
        refine X_dup hK kd29_24.2.1 rfl ?_
        have hl79 := xTB.lt (A := xv g78 wt) (B := xv g78 wp) (tk := tk) (tl := tl) (c := cn) (a := na) (by rw [(xv_a hg78 (xne hs_wt hs_a0 (by decide))), (xv_a hg78 (xne hs_wp hs_a0 (by decide)))]; exact hp0) (by omega) (by rw [← k5]; omega)
        refine X_getK hK fl_X7_18_8 hs_a0 ((xs_k hg78 (by decide)).trans ena) kd29_24.2.2.1 ?_
        refine X_iconst hK kd29_24.2.2.2.1 ?_
        refine X_iadd hK kd29_24.2.2.2.2.1 ?_
        refine X_puti hK fl_X7_18_8 hs_a0 (by decide) sl_8_2 (by omega) (by omega) kd29_24.2.2.2.2.2.1 (fun g80 hg80 => ?_)
        refine X_iload hK (i := 4) 0 kd29_24.2.2.2.2.2.2.1 rfl ?_
        refine X_if_eq hK 109 (by omega) kd29_24.2.2.2.2.2.2.2.1 (by decide) (fun c81 => False.elim (by omega)) (fun c81 => ?_)
        refine X_aloadn hK (i := 0) 2 kd29_24.2.2.2.2.2.2.2.2.1 rfl rfl ?_
        refine X_aloadn hK (i := 1) 3 kd29_24.2.2.2.2.2.2.2.2.2.1 rfl rfl ?_
        refine X_iloadn hK (i := 3) 1 kd29_24.2.2.2.2.2.2.2.2.2.2.1 rfl rfl ?_
        refine X_bipush hK kd29_24.2.2.2.2.2.2.2.2.2.2.2 (by decide) ?_
        refine X_isub hK kd29_25.1 ?_
        refine X_callV hK [.ref a1, .int (iI (z4 - 10))] [] lk_X7_135 (m_readFact _ _ _ _ _ S g80 a0 a1 (z4 - 10) (na + 1) (no + 1) nf nq wt wp ns ws tk tl cn L b s0 9 hs_a0 hs_a1 (by omega) (by omega) (xs_s hg80) (by omega) ((xs_k hg80 (by decide)).trans (xs_s hg78)) (by omega) ((xs_k hg80 (by decide)).trans ((xs_k hg78 (by decide)).trans enf)) (by omega) ((xs_k hg80 (by decide)).trans ((xs_k hg78 (by decide)).trans enq)) ((xs_k hg80 (by decide)).trans ((xs_k hg78 (by decide)).trans ewt)) hs_wt ((xs_k hg80 (by decide)).trans ((xs_k hg78 (by decide)).trans ewp)) hs_wp (by omega) ((xs_a hg80 (xne hs_a1 hs_a0 (by decide))).trans ((xs_k hg78 (by decide)).trans ens)) ((xs_k hg80 (by decide)).trans ((xs_k hg78 (by decide)).trans ews)) hs_ws (by rw [(Eq.trans (xv_a hg80 (xne hs_wt hs_a0 (by decide))) (xv_a hg78 (xne hs_wt hs_a0 (by decide)))), (Eq.trans (xv_a hg80 (xne hs_wp hs_a0 (by decide))) (xv_a hg78 (xne hs_wp hs_a0 (by decide))))]; exact hp0) (by omega) (by omega) (by rw [(Eq.trans (xv_a hg80 (xne hs_ws hs_a0 (by decide))) (xv_a hg78 (xne hs_ws hs_a0 (by decide))))]; exact hp3) (by omega) (by omega) (by rw [show (na + 1) - 1 = na by omega, ← k5]; omega) (by omega)) hs_a0 ⟨by decide, rfl⟩ kd29_25.2.1 rfl rfl (by simp [Value.category]) (by decide) (by decide) (by decide) (by decide) (fun r82 S84 g83 pr82 qr82 hg83 => ?_)
        obtain ⟨rfl, rfl, k85⟩ := pr82
        refine X_st [] rfl ?_
        obtain ⟨Ft86, at86, ot86, qt86, nt86, eFt86, lFt86, uFt86, eat86, lat86, uat86, eot86, lot86, uot86, eqt86, lqt86, uqt86, ent86, lnt86, unt86, Lt86, kt86, stt86, fst86, ftt86⟩ := k85
        have cat86 : at86 ≤ 300 := (by omega)
        refine X_goto hK 148 kd29_25.2.2.1 (by decide) ?_
        exact hret _ _ _ _ _ _ kd29_27.2.2.2 ⟨rfl, rfl, ⟨Ft86, at86, ot86, qt86, nt86, eFt86, by omega, by omega, eat86, by omega, by omega, eot86, by omega, by omega, eqt86, by omega, by omega, ent86, by omega, by omega, Lt86, (by have h9 := kt86; rw [show na + 1 - 1 = na by omega, show no + 1 - 1 = no by omega] at h9; exact h9), stt86, (xFr.tr (xFr.t (xFr.t xFr.rf hg78 hs_a0 (by decide)) hg80 hs_a0 (by decide)) fst86), (xFr.tr (xFr.t (xFr.t xFr.rf hg78 hs_a0 (by decide)) hg80 hs_a0 (by decide)) ftt86)⟩⟩ (Nat.le_refl _) (Nat.le_refl _)

set_option maxHeartbeats 4000000 in
set_option maxRecDepth 100000 in
theorem m_readAll_9 (l : Launch) (D : va_G) (kA : Nat → ClassId) (b0 : Nat) (t0 : Nat → Nat) (S : xT) (g : xG) (a0 : Nat) (a1 : Nat) (x2 : Int) (na : Int) (no : Int) (nf : Int) (nq : Int) (wt : Nat) (wp : Nat) (ns : Int) (ws : Nat) (tk : Int → Int) (tl : Int → Int) (cn : Int) (L : List xS3) (b : Int) (s0 : Int → Int) (hs_a0 : S a0 = some (8, 0)) (hs_a1 : S a1 = some (11, 0)) (hx2 : 9 ≤ x2 ∧ x2 ≤ 9) (hna : 0 ≤ na ∧ na ≤ 300) (ena : g a0 2 = .int (iI na)) (hno : 0 ≤ no ∧ no ≤ 50) (eno : g a0 3 = .int (iI no)) (hnf : 0 ≤ nf ∧ nf ≤ 0) (enf : g a0 5 = .int (iI nf)) (hnq : 0 ≤ nq ∧ nq ≤ 300) (enq : g a0 6 = .int (iI nq)) (ewt : g a0 0 = .ref wt) (hs_wt : S wt = some (12900, 301)) (ewp : g a0 1 = .ref wp) (hs_wp : S wp = some (13000, 301)) (hns : 0 ≤ ns ∧ ns ≤ 100) (ens : g a1 2 = .int (iI ns)) (ews : g a1 7 = .ref ws) (hs_ws : S ws = some (14000, 100)) (hp0 : xTB (xv g wt) (xv g wp) tk tl cn) (hp1 : na ≤ cn) (hp2 : cn ≤ 300) (hp3 : xStq (xv g ws) s0 b ns L) (hp4 : 0 ≤ b) (hp5 : ns ≤ 2 * no) : xMt l yX7_readAll cX7_readAll 4 none 8 0 0 185 D kA b0 t0 [(8, 5), (8, 6), (8, 3), (8, 2), (14000, 0), (11, 2)] [.ref a0, .ref a1, .int (iI x2)] S g (fun (r : Option Value) (S1 : xT) (g1 : xG) => S = S1 ∧ r = none ∧ (∃ F a o q n : Int, g1 a0 5 = .int (iI F) ∧ -2147483648 ≤ F ∧ F ≤ 2147483647 ∧ g1 a0 2 = .int (iI a) ∧ 0 ≤ a ∧ a ≤ cn ∧ g1 a0 3 = .int (iI o) ∧ 0 ≤ o ∧ o ≤ 50 ∧ g1 a0 6 = .int (iI q) ∧ 0 ≤ q ∧ q ≤ 300 ∧ g1 a1 2 = .int (iI n) ∧ 0 ≤ n ∧ n ≤ 100 ∧ ∃ L1 : List xS3, xRC tk tl 1 9 na no L F a o q L1 ∧ (F = 0 → xStq (xv g1 ws) s0 b n L1) ∧ xFr 14000 S g g1 ws ∧ xFr 11 S g g1 a1)) := by
  refine xEnterV (by decide) (by simp [lg_sl, Value.category]) [(0, .ref a0), (1, .ref a1), (2, .int (iI x2))] rfl ?_
  intro K E hK hret _ _ _
  refine X_aloadn hK (i := 0) 0 kd29_0.1 rfl rfl ?_
  refine X_aloadn hK (i := 1) 1 kd29_0.2.1 rfl rfl ?_
  refine X_iloadn hK (i := 2) 2 kd29_0.2.2.1 rfl rfl ?_
  refine X_callV hK [.ref a1, .int (iI x2)] [] lk_X7_132 (m_readOne_9 _ _ _ _ _ S g a0 a1 x2 na no nf nq wt wp ns ws tk tl cn L b s0 hs_a0 hs_a1 (by omega) (by omega) ena (by omega) eno (by omega) enf (by omega) enq ewt hs_wt ewp hs_wp (by omega) ens ews hs_ws hp0 (by omega) (by omega) hp3 (by omega) (by omega)) hs_a0 ⟨by decide, rfl⟩ kd29_0.2.2.2.1 rfl rfl (by simp [Value.category]) (by decide) (by decide) (by decide) (by decide) (fun r1 S3 g2 pr1 qr1 hg2 => ?_)
  obtain ⟨rfl, rfl, k4⟩ := pr1
  refine X_st [] rfl ?_
  obtain ⟨Ft5, at5, ot5, qt5, nt5, eFt5, lFt5, uFt5, eat5, lat5, uat5, eot5, lot5, uot5, eqt5, lqt5, uqt5, ent5, lnt5, unt5, Lt5, kt5, stt5, fst5, ftt5⟩ := k4
  have cat5 : at5 ≤ 300 := (by omega)
  refine X_iconst hK kd29_0.2.2.2.2.1 ?_
  refine X_istoren hK (i := 3) [(3, .int (iI 0)), (0, .ref a0), (1, .ref a1), (2, .int (iI x2))] kd29_0.2.2.2.2.2.1 rfl (by decide) rfl ?_
  have P150 : ∀ (nP150 : Nat) (g122 : xG) (_ : xM [(14000, 0), (11, 2), (8, 5), (8, 6), (8, 3), (8, 2)] S g2 g122) (z121 : Int) (_ : 0 ≤ z121) (_ : z121 ≤ 50) (q123 : Int) (_ : 0 ≤ q123) (_ : q123 ≤ 300) (_ : g122 a0 2 = .int (iI q123)) (q124 : Int) (_ : 0 ≤ q124) (_ : q124 ≤ 50) (_ : g122 a0 3 = .int (iI q124)) (q125 : Int) (_ : (-2147483648) ≤ q125) (_ : q125 ≤ 2147483647) (_ : g122 a0 5 = .int (iI q125)) (q126 : Int) (_ : 0 ≤ q126) (_ : q126 ≤ 300) (_ : g122 a0 6 = .int (iI q126)) (q127 : Int) (_ : 0 ≤ q127) (_ : q127 ≤ 100) (_ : g122 a1 2 = .int (iI q127)) (_ : ∃ Li : List xS3, xIC tk tl 1 9 na no L q125 q123 q124 q126 Li ∧ (q125 = 0 → xStq (xv g122 ws) s0 b q127 Li ∧ q127 ≤ 2 * q124 - 1)) (_ : q125 = 0 → no + 1 + z121 ≤ q124) (_ : q123 ≤ cn) (_ : xFr 14000 S g g122 ws) (_ : xFr 11 S g g122 a1) (_ : 60 - z121 < (nP150 : Int)), X K E 8 [(3, .int (iI z121)), (0, .ref a0), (1, .ref a1), (2, .int (iI x2))] [] S g122 0 0 := by
    intro nP150
    induction nP150 with
    | zero => intro g122 hg122 z121 lz121 uz121 q123 lq123 uq123 eq123 q124 lq124 uq124 eq124 q125 lq125 uq125 eq125 q126 lq126 uq126 eq126 q127 lq127 uq127 eq127 v151 v152 v153 v154 v155 mP150; exact False.elim (by omega)
    | succ nP150 ihP150 =>
      intro g122 hg122 z121 lz121 uz121 q123 lq123 uq123 eq123 q124 lq124 uq124 eq124 q125 lq125 uq125 eq125 q126 lq126 uq126 eq126 q127 lq127 uq127 eq127 v151 v152 v153 v154 v155 mP150
      refine X_iloadn hK (i := 3) 0 kd29_0.2.2.2.2.2.2.1 rfl rfl ?_
      obtain ⟨Lij156, ij156, sj156⟩ := id v151
      have ivj156 : q125 = 0 → _ := fun h9 => (sj156 h9).1
      have nbj156 : q125 = 0 → q127 ≤ 2 * q124 - 1 := fun h9 => (sj156 h9).2
      refine X_bipush hK kd29_0.2.2.2.2.2.2.2.1 (by decide) ?_
      refine X_icmp_ge hK 60 (by omega) (by omega) kd29_0.2.2.2.2.2.2.2.2.1 (by decide) (fun c157 => ?_) (fun c157 => ?_)
      · exact hret _ _ _ _ _ _ kd29_2.2.2.2.2.2.2.2.2.2.1 ⟨rfl, rfl, ⟨q125, q123, q124, q126, q127, eq125, by omega, by omega, eq123, by omega, by omega, eq124, by omega, by omega, eq126, by omega, by omega, eq127, by omega, by omega, Lij156, (xIC.e ij156 (fun h9 => False.elim (by have h8 := v152 h9; omega))), (fun h9 => (sj156 h9).1), v154, v155⟩⟩ (Nat.le_refl _) (Nat.le_refl _)
      · refine X_aloadn hK (i := 0) 1 kd29_0.2.2.2.2.2.2.2.2.2.1 rfl rfl ?_
        refine X_getK hK fl_X7_29_8 hs_a0 eq125 kd29_0.2.2.2.2.2.2.2.2.2.2.1 ?_
        refine X_if_ne hK 60 (by omega) kd29_0.2.2.2.2.2.2.2.2.2.2.2 (by decide) (fun c158 => ?_) (fun c158 => ?_)
        · exact hret _ _ _ _ _ _ kd29_2.2.2.2.2.2.2.2.2.2.1 ⟨rfl, rfl, ⟨q125, q123, q124, q126, q127, eq125, by omega, by omega, eq123, by omega, by omega, eq124, by omega, by omega, eq126, by omega, by omega, eq127, by omega, by omega, Lij156, (xIC.e ij156 (fun h9 => False.elim (by have h8 := v152 h9; omega))), (fun h9 => (sj156 h9).1), v154, v155⟩⟩ (Nat.le_refl _) (Nat.le_refl _)
        · refine X_aloadn hK (i := 0) 1 kd29_1.1 rfl rfl ?_
          refine X_callV hK [] [] lk_X7_47 (c3_now _ _ _ _ _ S g122 a0 q123 wt wp tk tl cn hs_a0 (by omega) eq123 ((hg122 a0 8 0 0 hs_a0 (by decide)).trans ((hg2 a0 8 0 0 hs_a0 (by decide)).trans ewt)) hs_wt ((hg122 a0 8 0 1 hs_a0 (by decide)).trans ((hg2 a0 8 0 1 hs_a0 (by decide)).trans ewp)) hs_wp (by rw [(Eq.trans (xv_m hg122 hs_wt (by decide) (by decide)) (xv_m hg2 hs_wt (by decide) (by decide))), (Eq.trans (xv_m hg122 hs_wp (by decide) (by decide)) (xv_m hg2 hs_wp (by decide) (by decide)))]; exact hp0) (by omega) (by omega)) hs_a0 ⟨by decide, rfl⟩ kd29_1.2.1 rfl rfl (by simp [Value.category]) (by decide) (by decide) (by decide) (by decide) (fun r159 S161 g160 pr159 qr159 hg160 => ?_)
          obtain ⟨rfl, rfl, z162, rfl, lz162, uz162, k163⟩ := pr159
          refine X_st [.int (iI z162)] rfl ?_
          refine X_bipush hK kd29_1.2.2.1 (by decide) ?_
          refine X_icmp_ne hK 60 (by omega) (by omega) kd29_1.2.2.2.1 (by decide) (fun c164 => ?_) (fun c164 => ?_)
          · exact hret _ _ _ _ _ _ kd29_2.2.2.2.2.2.2.2.2.2.1 ⟨rfl, rfl, ⟨q125, q123, q124, q126, q127, eq125, by omega, by omega, eq123, by omega, by omega, eq124, by omega, by omega, eq126, by omega, by omega, eq127, by omega, by omega, Lij156, (xIC.e ij156 (fun h9 => Or.inl ⟨rfl, by rw [← k163]; omega⟩)), (fun h9 => (sj156 h9).1), v154, v155⟩⟩ (Nat.le_refl _) (Nat.le_refl _)
          · refine X_aloadn hK (i := 0) 1 kd29_1.2.2.2.2.1 rfl rfl ?_
            refine X_dup hK kd29_1.2.2.2.2.2.1 rfl ?_
            have hl165 := xTB.lt (A := xv g122 wt) (B := xv g122 wp) (tk := tk) (tl := tl) (c := cn) (a := q123) (by rw [(Eq.trans (xv_m hg122 hs_wt (by decide) (by decide)) (xv_m hg2 hs_wt (by decide) (by decide))), (Eq.trans (xv_m hg122 hs_wp (by decide) (by decide)) (xv_m hg2 hs_wp (by decide) (by decide)))]; exact hp0) (by omega) (by rw [← k163]; omega)
            refine X_getK hK fl_X7_18_8 hs_a0 eq123 kd29_1.2.2.2.2.2.2.1 ?_
            refine X_iconst hK kd29_1.2.2.2.2.2.2.2.1 ?_
            refine X_iadd hK kd29_1.2.2.2.2.2.2.2.2.1 ?_
            refine X_puti hK fl_X7_18_8 hs_a0 (by decide) sl_8_2 (by omega) (by omega) kd29_1.2.2.2.2.2.2.2.2.2.1 (fun g166 hg166 => ?_)
            refine X_aloadn hK (i := 0) 1 kd29_1.2.2.2.2.2.2.2.2.2.2.1 rfl rfl ?_
            refine X_aloadn hK (i := 1) 2 kd29_1.2.2.2.2.2.2.2.2.2.2.2 rfl rfl ?_
            refine X_iloadn hK (i := 2) 3 kd29_2.1 rfl rfl ?_
            refine X_callV hK [.ref a1, .int (iI x2)] [] lk_X7_132 (m_readOne_9 _ _ _ _ _ S g166 a0 a1 x2 (q123 + 1) q124 q125 q126 wt wp q127 ws tk tl cn Lij156 b s0 hs_a0 hs_a1 (by omega) (by omega) (xs_s hg166) (by omega) ((xs_k hg166 (by decide)).trans eq124) (by omega) ((xs_k hg166 (by decide)).trans eq125) (by omega) ((xs_k hg166 (by decide)).trans eq126) ((xs_k hg166 (by decide)).trans ((hg122 a0 8 0 0 hs_a0 (by decide)).trans ((hg2 a0 8 0 0 hs_a0 (by decide)).trans ewt))) hs_wt ((xs_k hg166 (by decide)).trans ((hg122 a0 8 0 1 hs_a0 (by decide)).trans ((hg2 a0 8 0 1 hs_a0 (by decide)).trans ewp))) hs_wp (by omega) ((xs_a hg166 (xne hs_a1 hs_a0 (by decide))).trans eq127) ((xs_k hg166 (by decide)).trans ((hg122 a1 11 0 7 hs_a1 (by decide)).trans ((hg2 a1 11 0 7 hs_a1 (by decide)).trans ews))) hs_ws (by rw [(Eq.trans (Eq.trans (xv_a hg166 (xne hs_wt hs_a0 (by decide))) (xv_m hg122 hs_wt (by decide) (by decide))) (xv_m hg2 hs_wt (by decide) (by decide))), (Eq.trans (Eq.trans (xv_a hg166 (xne hs_wp hs_a0 (by decide))) (xv_m hg122 hs_wp (by decide) (by decide))) (xv_m hg2 hs_wp (by decide) (by decide)))]; exact hp0) (by omega) (by omega) (by rw [(xv_a hg166 (xne hs_ws hs_a0 (by decide)))]; exact (ivj156 (by omega))) (by omega) (by omega)) hs_a0 ⟨by decide, rfl⟩ kd29_2.2.1 rfl rfl (by simp [Value.category]) (by decide) (by decide) (by decide) (by decide) (fun r167 S169 g168 pr167 qr167 hg168 => ?_)
            obtain ⟨rfl, rfl, k170⟩ := pr167
            refine X_st [] rfl ?_
            obtain ⟨Ft171, at171, ot171, qt171, nt171, eFt171, lFt171, uFt171, eat171, lat171, uat171, eot171, lot171, uot171, eqt171, lqt171, uqt171, ent171, lnt171, unt171, Lt171, kt171, stt171, fst171, ftt171⟩ := k170
            have cat171 : at171 ≤ 300 := (by omega)
            refine X_aloadn hK (i := 1) 2 kd29_2.2.2.1 rfl rfl ?_
            refine X_bipush hK kd29_2.2.2.2.1 (by decide) ?_
            refine X_iconst hK kd29_2.2.2.2.2.1 ?_
            refine X_iconst hK kd29_2.2.2.2.2.2.1 ?_
            refine X_callV hK [.int (iI 13), .int (iI 0), .int (iI 0)] [] lk_X7_129 (m_addStep _ _ _ _ _ S g168 a1 13 0 0 nt171 ws hs_a1 (by omega) (by omega) (by omega) (by omega) ent171 ((hg168 a1 11 0 7 hs_a1 (by decide)).trans ((xs_k hg166 (by decide)).trans ((hg122 a1 11 0 7 hs_a1 (by decide)).trans ((hg2 a1 11 0 7 hs_a1 (by decide)).trans ews)))) hs_ws) hs_a1 ⟨by decide, rfl⟩ kd29_2.2.2.2.2.2.2.1 rfl rfl (by simp [Value.category]) (by decide) (by decide) (by decide) (by decide) (fun r172 S174 g173 pr172 qr172 hg173 => ?_)
            obtain ⟨rfl, rfl, k175, k176, k177, k178⟩ := pr172
            refine X_st [] rfl ?_
            refine X_iinc hK (i := 3) (z := z121) (n := 1) 0 [(3, .int (iI (z121 + 1))), (0, .ref a0), (1, .ref a1), (2, .int (iI x2))] kd29_2.2.2.2.2.2.2.2.1 rfl (by decide) rfl ?_
            refine X_goto hK 8 kd29_2.2.2.2.2.2.2.2.2.1 (by decide) ?_
            exact ihP150  g173 (xM.tr (xM.tr (xM_up (xM.tr xM.rf xLe.rf hg122 (by decide)) hg166 hs_a0 (by decide) (by decide)) xLe.rf hg168 (by decide)) xLe.rf hg173 (by decide)) (z121 + 1) (by omega) (by omega) at171 (by omega) (by omega) ((hg173 a0 8 0 2 hs_a0 (by decide)).trans eat171) ot171 (by omega) (by omega) ((hg173 a0 8 0 3 hs_a0 (by decide)).trans eot171) Ft171 (by omega) (by omega) ((hg173 a0 8 0 5 hs_a0 (by decide)).trans eFt171) qt171 (by omega) (by omega) ((hg173 a0 8 0 6 hs_a0 (by decide)).trans eqt171) (if nt171 < 100 then nt171 + 1 else nt171) (by omega) (by omega) k175 ⟨Lt171 ++ [(13, 0, 0)], xIC.s (Or.inl ⟨rfl, rfl, rfl, (by rw [← k163]; omega)⟩) ij156 (by omega) kt171 (fun _ => rfl), fun h9 => by have h8 := xRC.b (by omega) kt171 h9; have h7 := (stt171 h9).1; have h6 := (sj156 (by omega)).1.1; have h5 := (sj156 (by omega)).2; exact ⟨(by have h9 := (xStq.add (x := (13, 0, 0)) (stt171 (by omega)) (by omega) (by have h4a := (k176.1 (by omega)).1; unfold xec9; (try dsimp only); omega) (k176.1 (by omega)).2); rw [if_pos (by omega)]; exact h9), by rw [if_pos (by omega)]; omega⟩⟩ (fun h9 => by have h8 := xRC.b (by omega) kt171 h9; omega) (by omega) (xFr.tr (xFr.tr (xFr.t v154 hg166 hs_a0 (by decide)) fst171) k177) (xFr.tr (xFr.tr (xFr.t v155 hg166 hs_a0 (by decide)) ftt171) k178) (by omega)
  exact P150 ((60 - 0 : Int).toNat + 1) g2 xM.rf 0 (by omega) (by omega) at5 (by omega) (by omega) eat5 ot5 (by omega) (by omega) eot5 Ft5 (by omega) (by omega) eFt5 qt5 (by omega) (by omega) eqt5 nt5 (by omega) (by omega) ent5 ⟨Lt5, xIC.z (Or.inl ⟨rfl, rfl⟩) kt5, fun h9 => ⟨stt5 h9, by have h8 := xRC.b (by omega) kt5 h9; have h7 := (stt5 h9).1; have h6 := hp3.1; omega⟩⟩ (fun h9 => by have h8 := xRC.b (by omega) kt5 h9; omega) (by omega) (xFr.tr xFr.rf fst5) (xFr.tr xFr.rf ftt5) (by omega)

set_option maxHeartbeats 4000000 in
set_option maxRecDepth 100000 in
theorem m_readCond_9 (l : Launch) (D : va_G) (kA : Nat → ClassId) (b0 : Nat) (t0 : Nat → Nat) (S : xT) (g : xG) (a0 : Nat) (a1 : Nat) (x2 : Int) (na : Int) (no : Int) (nf : Int) (nq : Int) (wt : Nat) (wp : Nat) (ns : Int) (ws : Nat) (tk : Int → Int) (tl : Int → Int) (cn : Int) (L : List xS3) (b : Int) (s0 : Int → Int) (hs_a0 : S a0 = some (8, 0)) (hs_a1 : S a1 = some (11, 0)) (hx2 : 9 ≤ x2 ∧ x2 ≤ 9) (hna : 0 ≤ na ∧ na ≤ 300) (ena : g a0 2 = .int (iI na)) (hno : 0 ≤ no ∧ no ≤ 50) (eno : g a0 3 = .int (iI no)) (hnf : 0 ≤ nf ∧ nf ≤ 0) (enf : g a0 5 = .int (iI nf)) (hnq : 0 ≤ nq ∧ nq ≤ 300) (enq : g a0 6 = .int (iI nq)) (ewt : g a0 0 = .ref wt) (hs_wt : S wt = some (12900, 301)) (ewp : g a0 1 = .ref wp) (hs_wp : S wp = some (13000, 301)) (hns : 0 ≤ ns ∧ ns ≤ 100) (ens : g a1 2 = .int (iI ns)) (ews : g a1 7 = .ref ws) (hs_ws : S ws = some (14000, 100)) (hp0 : xTB (xv g wt) (xv g wp) tk tl cn) (hp1 : na ≤ cn) (hp2 : cn ≤ 300) (hp3 : xStq (xv g ws) s0 b ns L) (hp4 : 0 ≤ b) (hp5 : ns ≤ 2 * no) : xMt l yX7_readCond cX7_readCond 4 none 9 0 0 208 D kA b0 t0 [(8, 5), (8, 6), (8, 3), (8, 2), (14000, 0), (11, 2)] [.ref a0, .ref a1, .int (iI x2)] S g (fun (r : Option Value) (S1 : xT) (g1 : xG) => S = S1 ∧ r = none ∧ (∃ F a o q n : Int, g1 a0 5 = .int (iI F) ∧ -2147483648 ≤ F ∧ F ≤ 2147483647 ∧ g1 a0 2 = .int (iI a) ∧ 0 ≤ a ∧ a ≤ cn ∧ g1 a0 3 = .int (iI o) ∧ 0 ≤ o ∧ o ≤ 50 ∧ g1 a0 6 = .int (iI q) ∧ 0 ≤ q ∧ q ≤ 300 ∧ g1 a1 2 = .int (iI n) ∧ 0 ≤ n ∧ n ≤ 100 ∧ ∃ L1 : List xS3, xRC tk tl 2 9 na no L F a o q L1 ∧ (F = 0 → xStq (xv g1 ws) s0 b n L1) ∧ xFr 14000 S g g1 ws ∧ xFr 11 S g g1 a1)) := by
  refine xEnterV (by decide) (by simp [lg_sl, Value.category]) [(0, .ref a0), (1, .ref a1), (2, .int (iI x2))] rfl ?_
  intro K E hK hret _ _ _
  refine X_aloadn hK (i := 0) 0 kd29_2.2.2.2.2.2.2.2.2.2.2.1 rfl rfl ?_
  refine X_aloadn hK (i := 1) 1 kd29_2.2.2.2.2.2.2.2.2.2.2.2 rfl rfl ?_
  refine X_iloadn hK (i := 2) 2 kd29_3.1 rfl rfl ?_
  refine X_callV hK [.ref a1, .int (iI x2)] [] lk_X7_126 (m_readAll_9 _ _ _ _ _ S g a0 a1 x2 na no nf nq wt wp ns ws tk tl cn L b s0 hs_a0 hs_a1 (by omega) (by omega) ena (by omega) eno (by omega) enf (by omega) enq ewt hs_wt ewp hs_wp (by omega) ens ews hs_ws hp0 (by omega) (by omega) hp3 (by omega) (by omega)) hs_a0 ⟨by decide, rfl⟩ kd29_3.2.1 rfl rfl (by simp [Value.category]) (by decide) (by decide) (by decide) (by decide) (fun r1 S3 g2 pr1 qr1 hg2 => ?_)
  obtain ⟨rfl, rfl, k4⟩ := pr1
  refine X_st [] rfl ?_
  obtain ⟨Ft5, at5, ot5, qt5, nt5, eFt5, lFt5, uFt5, eat5, lat5, uat5, eot5, lot5, uot5, eqt5, lqt5, uqt5, ent5, lnt5, unt5, Lt5, kt5, stt5, fst5, ftt5⟩ := k4
  have cat5 : at5 ≤ 300 := (by omega)
  refine X_iconst hK kd29_3.2.2.1 ?_
  refine X_istoren hK (i := 3) [(3, .int (iI 0)), (0, .ref a0), (1, .ref a1), (2, .int (iI x2))] kd29_3.2.2.2.1 rfl (by decide) rfl ?_
  have P150 : ∀ (nP150 : Nat) (g122 : xG) (_ : xM [(14000, 0), (11, 2), (8, 5), (8, 6), (8, 3), (8, 2)] S g2 g122) (z121 : Int) (_ : 0 ≤ z121) (_ : z121 ≤ 50) (q123 : Int) (_ : 0 ≤ q123) (_ : q123 ≤ 300) (_ : g122 a0 2 = .int (iI q123)) (q124 : Int) (_ : 0 ≤ q124) (_ : q124 ≤ 50) (_ : g122 a0 3 = .int (iI q124)) (q125 : Int) (_ : (-2147483648) ≤ q125) (_ : q125 ≤ 2147483647) (_ : g122 a0 5 = .int (iI q125)) (q126 : Int) (_ : 0 ≤ q126) (_ : q126 ≤ 300) (_ : g122 a0 6 = .int (iI q126)) (q127 : Int) (_ : 0 ≤ q127) (_ : q127 ≤ 100) (_ : g122 a1 2 = .int (iI q127)) (_ : ∃ Li : List xS3, xIC tk tl 2 9 na no L q125 q123 q124 q126 Li ∧ (q125 = 0 → xStq (xv g122 ws) s0 b q127 Li ∧ q127 ≤ 2 * q124 - 1)) (_ : q125 = 0 → no + 1 + z121 ≤ q124) (_ : q123 ≤ cn) (_ : xFr 14000 S g g122 ws) (_ : xFr 11 S g g122 a1) (_ : 60 - z121 < (nP150 : Int)), X K E 8 [(3, .int (iI z121)), (0, .ref a0), (1, .ref a1), (2, .int (iI x2))] [] S g122 0 0 := by
    intro nP150
    induction nP150 with
    | zero => intro g122 hg122 z121 lz121 uz121 q123 lq123 uq123 eq123 q124 lq124 uq124 eq124 q125 lq125 uq125 eq125 q126 lq126 uq126 eq126 q127 lq127 uq127 eq127 v151 v152 v153 v154 v155 mP150; exact False.elim (by omega)
    | succ nP150 ihP150 =>
      intro g122 hg122 z121 lz121 uz121 q123 lq123 uq123 eq123 q124 lq124 uq124 eq124 q125 lq125 uq125 eq125 q126 lq126 uq126 eq126 q127 lq127 uq127 eq127 v151 v152 v153 v154 v155 mP150
      refine X_iloadn hK (i := 3) 0 kd29_3.2.2.2.2.1 rfl rfl ?_
      obtain ⟨Lij156, ij156, sj156⟩ := id v151
      have ivj156 : q125 = 0 → _ := fun h9 => (sj156 h9).1
      have nbj156 : q125 = 0 → q127 ≤ 2 * q124 - 1 := fun h9 => (sj156 h9).2
      refine X_bipush hK kd29_3.2.2.2.2.2.1 (by decide) ?_
      refine X_icmp_ge hK 60 (by omega) (by omega) kd29_3.2.2.2.2.2.2.1 (by decide) (fun c157 => ?_) (fun c157 => ?_)
      · exact hret _ _ _ _ _ _ kd29_5.2.2.2.2.2.2.2.1 ⟨rfl, rfl, ⟨q125, q123, q124, q126, q127, eq125, by omega, by omega, eq123, by omega, by omega, eq124, by omega, by omega, eq126, by omega, by omega, eq127, by omega, by omega, Lij156, (xIC.e ij156 (fun h9 => False.elim (by have h8 := v152 h9; omega))), (fun h9 => (sj156 h9).1), v154, v155⟩⟩ (Nat.le_refl _) (Nat.le_refl _)
      · refine X_aloadn hK (i := 0) 1 kd29_3.2.2.2.2.2.2.2.1 rfl rfl ?_
        refine X_getK hK fl_X7_29_8 hs_a0 eq125 kd29_3.2.2.2.2.2.2.2.2.1 ?_
        refine X_if_ne hK 60 (by omega) kd29_3.2.2.2.2.2.2.2.2.2.1 (by decide) (fun c158 => ?_) (fun c158 => ?_)
        · exact hret _ _ _ _ _ _ kd29_5.2.2.2.2.2.2.2.1 ⟨rfl, rfl, ⟨q125, q123, q124, q126, q127, eq125, by omega, by omega, eq123, by omega, by omega, eq124, by omega, by omega, eq126, by omega, by omega, eq127, by omega, by omega, Lij156, (xIC.e ij156 (fun h9 => False.elim (by have h8 := v152 h9; omega))), (fun h9 => (sj156 h9).1), v154, v155⟩⟩ (Nat.le_refl _) (Nat.le_refl _)
        · refine X_aloadn hK (i := 0) 1 kd29_3.2.2.2.2.2.2.2.2.2.2.1 rfl rfl ?_
          refine X_callV hK [] [] lk_X7_47 (c3_now _ _ _ _ _ S g122 a0 q123 wt wp tk tl cn hs_a0 (by omega) eq123 ((hg122 a0 8 0 0 hs_a0 (by decide)).trans ((hg2 a0 8 0 0 hs_a0 (by decide)).trans ewt)) hs_wt ((hg122 a0 8 0 1 hs_a0 (by decide)).trans ((hg2 a0 8 0 1 hs_a0 (by decide)).trans ewp)) hs_wp (by rw [(Eq.trans (xv_m hg122 hs_wt (by decide) (by decide)) (xv_m hg2 hs_wt (by decide) (by decide))), (Eq.trans (xv_m hg122 hs_wp (by decide) (by decide)) (xv_m hg2 hs_wp (by decide) (by decide)))]; exact hp0) (by omega) (by omega)) hs_a0 ⟨by decide, rfl⟩ kd29_3.2.2.2.2.2.2.2.2.2.2.2 rfl rfl (by simp [Value.category]) (by decide) (by decide) (by decide) (by decide) (fun r159 S161 g160 pr159 qr159 hg160 => ?_)
          obtain ⟨rfl, rfl, z162, rfl, lz162, uz162, k163⟩ := pr159
          refine X_st [.int (iI z162)] rfl ?_
          refine X_bipush hK kd29_4.1 (by decide) ?_
          refine X_icmp_ne hK 60 (by omega) (by omega) kd29_4.2.1 (by decide) (fun c164 => ?_) (fun c164 => ?_)
          · exact hret _ _ _ _ _ _ kd29_5.2.2.2.2.2.2.2.1 ⟨rfl, rfl, ⟨q125, q123, q124, q126, q127, eq125, by omega, by omega, eq123, by omega, by omega, eq124, by omega, by omega, eq126, by omega, by omega, eq127, by omega, by omega, Lij156, (xIC.e ij156 (fun h9 => Or.inr ⟨rfl, by rw [← k163]; omega⟩)), (fun h9 => (sj156 h9).1), v154, v155⟩⟩ (Nat.le_refl _) (Nat.le_refl _)
          · refine X_aloadn hK (i := 0) 1 kd29_4.2.2.1 rfl rfl ?_
            refine X_dup hK kd29_4.2.2.2.1 rfl ?_
            have hl165 := xTB.lt (A := xv g122 wt) (B := xv g122 wp) (tk := tk) (tl := tl) (c := cn) (a := q123) (by rw [(Eq.trans (xv_m hg122 hs_wt (by decide) (by decide)) (xv_m hg2 hs_wt (by decide) (by decide))), (Eq.trans (xv_m hg122 hs_wp (by decide) (by decide)) (xv_m hg2 hs_wp (by decide) (by decide)))]; exact hp0) (by omega) (by rw [← k163]; omega)
            refine X_getK hK fl_X7_18_8 hs_a0 eq123 kd29_4.2.2.2.2.1 ?_
            refine X_iconst hK kd29_4.2.2.2.2.2.1 ?_
            refine X_iadd hK kd29_4.2.2.2.2.2.2.1 ?_
            refine X_puti hK fl_X7_18_8 hs_a0 (by decide) sl_8_2 (by omega) (by omega) kd29_4.2.2.2.2.2.2.2.1 (fun g166 hg166 => ?_)
            refine X_aloadn hK (i := 0) 1 kd29_4.2.2.2.2.2.2.2.2.1 rfl rfl ?_
            refine X_aloadn hK (i := 1) 2 kd29_4.2.2.2.2.2.2.2.2.2.1 rfl rfl ?_
            refine X_iloadn hK (i := 2) 3 kd29_4.2.2.2.2.2.2.2.2.2.2.1 rfl rfl ?_
            refine X_callV hK [.ref a1, .int (iI x2)] [] lk_X7_126 (m_readAll_9 _ _ _ _ _ S g166 a0 a1 x2 (q123 + 1) q124 q125 q126 wt wp q127 ws tk tl cn Lij156 b s0 hs_a0 hs_a1 (by omega) (by omega) (xs_s hg166) (by omega) ((xs_k hg166 (by decide)).trans eq124) (by omega) ((xs_k hg166 (by decide)).trans eq125) (by omega) ((xs_k hg166 (by decide)).trans eq126) ((xs_k hg166 (by decide)).trans ((hg122 a0 8 0 0 hs_a0 (by decide)).trans ((hg2 a0 8 0 0 hs_a0 (by decide)).trans ewt))) hs_wt ((xs_k hg166 (by decide)).trans ((hg122 a0 8 0 1 hs_a0 (by decide)).trans ((hg2 a0 8 0 1 hs_a0 (by decide)).trans ewp))) hs_wp (by omega) ((xs_a hg166 (xne hs_a1 hs_a0 (by decide))).trans eq127) ((xs_k hg166 (by decide)).trans ((hg122 a1 11 0 7 hs_a1 (by decide)).trans ((hg2 a1 11 0 7 hs_a1 (by decide)).trans ews))) hs_ws (by rw [(Eq.trans (Eq.trans (xv_a hg166 (xne hs_wt hs_a0 (by decide))) (xv_m hg122 hs_wt (by decide) (by decide))) (xv_m hg2 hs_wt (by decide) (by decide))), (Eq.trans (Eq.trans (xv_a hg166 (xne hs_wp hs_a0 (by decide))) (xv_m hg122 hs_wp (by decide) (by decide))) (xv_m hg2 hs_wp (by decide) (by decide)))]; exact hp0) (by omega) (by omega) (by rw [(xv_a hg166 (xne hs_ws hs_a0 (by decide)))]; exact (ivj156 (by omega))) (by omega) (by omega)) hs_a0 ⟨by decide, rfl⟩ kd29_4.2.2.2.2.2.2.2.2.2.2.2 rfl rfl (by simp [Value.category]) (by decide) (by decide) (by decide) (by decide) (fun r167 S169 g168 pr167 qr167 hg168 => ?_)
            obtain ⟨rfl, rfl, k170⟩ := pr167
            refine X_st [] rfl ?_
            obtain ⟨Ft171, at171, ot171, qt171, nt171, eFt171, lFt171, uFt171, eat171, lat171, uat171, eot171, lot171, uot171, eqt171, lqt171, uqt171, ent171, lnt171, unt171, Lt171, kt171, stt171, fst171, ftt171⟩ := k170
            have cat171 : at171 ≤ 300 := (by omega)
            refine X_aloadn hK (i := 1) 2 kd29_5.1 rfl rfl ?_
            refine X_bipush hK kd29_5.2.1 (by decide) ?_
            refine X_iconst hK kd29_5.2.2.1 ?_
            refine X_iconst hK kd29_5.2.2.2.1 ?_
            refine X_callV hK [.int (iI 14), .int (iI 0), .int (iI 0)] [] lk_X7_129 (m_addStep _ _ _ _ _ S g168 a1 14 0 0 nt171 ws hs_a1 (by omega) (by omega) (by omega) (by omega) ent171 ((hg168 a1 11 0 7 hs_a1 (by decide)).trans ((xs_k hg166 (by decide)).trans ((hg122 a1 11 0 7 hs_a1 (by decide)).trans ((hg2 a1 11 0 7 hs_a1 (by decide)).trans ews)))) hs_ws) hs_a1 ⟨by decide, rfl⟩ kd29_5.2.2.2.2.1 rfl rfl (by simp [Value.category]) (by decide) (by decide) (by decide) (by decide) (fun r172 S174 g173 pr172 qr172 hg173 => ?_)
            obtain ⟨rfl, rfl, k175, k176, k177, k178⟩ := pr172
            refine X_st [] rfl ?_
            refine X_iinc hK (i := 3) (z := z121) (n := 1) 0 [(3, .int (iI (z121 + 1))), (0, .ref a0), (1, .ref a1), (2, .int (iI x2))] kd29_5.2.2.2.2.2.1 rfl (by decide) rfl ?_
            refine X_goto hK 8 kd29_5.2.2.2.2.2.2.1 (by decide) ?_
            exact ihP150  g173 (xM.tr (xM.tr (xM_up (xM.tr xM.rf xLe.rf hg122 (by decide)) hg166 hs_a0 (by decide) (by decide)) xLe.rf hg168 (by decide)) xLe.rf hg173 (by decide)) (z121 + 1) (by omega) (by omega) at171 (by omega) (by omega) ((hg173 a0 8 0 2 hs_a0 (by decide)).trans eat171) ot171 (by omega) (by omega) ((hg173 a0 8 0 3 hs_a0 (by decide)).trans eot171) Ft171 (by omega) (by omega) ((hg173 a0 8 0 5 hs_a0 (by decide)).trans eFt171) qt171 (by omega) (by omega) ((hg173 a0 8 0 6 hs_a0 (by decide)).trans eqt171) (if nt171 < 100 then nt171 + 1 else nt171) (by omega) (by omega) k175 ⟨Lt171 ++ [(14, 0, 0)], xIC.s (Or.inr ⟨rfl, rfl, rfl, (by rw [← k163]; omega)⟩) ij156 (by omega) kt171 (fun _ => rfl), fun h9 => by have h8 := xRC.b (by omega) kt171 h9; have h7 := (stt171 h9).1; have h6 := (sj156 (by omega)).1.1; have h5 := (sj156 (by omega)).2; exact ⟨(by have h9 := (xStq.add (x := (14, 0, 0)) (stt171 (by omega)) (by omega) (by have h4a := (k176.1 (by omega)).1; unfold xec9; (try dsimp only); omega) (k176.1 (by omega)).2); rw [if_pos (by omega)]; exact h9), by rw [if_pos (by omega)]; omega⟩⟩ (fun h9 => by have h8 := xRC.b (by omega) kt171 h9; omega) (by omega) (xFr.tr (xFr.tr (xFr.t v154 hg166 hs_a0 (by decide)) fst171) k177) (xFr.tr (xFr.tr (xFr.t v155 hg166 hs_a0 (by decide)) ftt171) k178) (by omega)
  exact P150 ((60 - 0 : Int).toNat + 1) g2 xM.rf 0 (by omega) (by omega) at5 (by omega) (by omega) eat5 ot5 (by omega) (by omega) eot5 Ft5 (by omega) (by omega) eFt5 qt5 (by omega) (by omega) eqt5 nt5 (by omega) (by omega) ent5 ⟨Lt5, xIC.z (Or.inr ⟨rfl, rfl⟩) kt5, fun h9 => ⟨stt5 h9, by have h8 := xRC.b (by omega) kt5 h9; have h7 := (stt5 h9).1; have h6 := hp3.1; omega⟩⟩ (fun h9 => by have h8 := xRC.b (by omega) kt5 h9; omega) (by omega) (xFr.tr xFr.rf fst5) (xFr.tr xFr.rf ftt5) (by omega)

set_option maxHeartbeats 4000000 in
set_option maxRecDepth 100000 in
theorem m_readOne_8 (l : Launch) (D : va_G) (kA : Nat → ClassId) (b0 : Nat) (t0 : Nat → Nat) (S : xT) (g : xG) (a0 : Nat) (a1 : Nat) (x2 : Int) (na : Int) (no : Int) (nf : Int) (nq : Int) (wt : Nat) (wp : Nat) (ns : Int) (ws : Nat) (tk : Int → Int) (tl : Int → Int) (cn : Int) (L : List xS3) (b : Int) (s0 : Int → Int) (hs_a0 : S a0 = some (8, 0)) (hs_a1 : S a1 = some (11, 0)) (hx2 : 8 ≤ x2 ∧ x2 ≤ 8) (hna : 0 ≤ na ∧ na ≤ 300) (ena : g a0 2 = .int (iI na)) (hno : 0 ≤ no ∧ no ≤ 50) (eno : g a0 3 = .int (iI no)) (hnf : 0 ≤ nf ∧ nf ≤ 0) (enf : g a0 5 = .int (iI nf)) (hnq : 0 ≤ nq ∧ nq ≤ 300) (enq : g a0 6 = .int (iI nq)) (ewt : g a0 0 = .ref wt) (hs_wt : S wt = some (12900, 301)) (ewp : g a0 1 = .ref wp) (hs_wp : S wp = some (13000, 301)) (hns : 0 ≤ ns ∧ ns ≤ 100) (ens : g a1 2 = .int (iI ns)) (ews : g a1 7 = .ref ws) (hs_ws : S ws = some (14000, 100)) (hp0 : xTB (xv g wt) (xv g wp) tk tl cn) (hp1 : na ≤ cn) (hp2 : cn ≤ 300) (hp3 : xStq (xv g ws) s0 b ns L) (hp4 : 0 ≤ b) (hp5 : ns ≤ 2 * no) : xMt l yX7_readOne cX7_readOne 5 none 10 0 0 231 D kA b0 t0 [(8, 5), (8, 6), (8, 3), (8, 2), (14000, 0), (11, 2)] [.ref a0, .ref a1, .int (iI x2)] S g (fun (r : Option Value) (S1 : xT) (g1 : xG) => S = S1 ∧ r = none ∧ (∃ F a o q n : Int, g1 a0 5 = .int (iI F) ∧ -2147483648 ≤ F ∧ F ≤ 2147483647 ∧ g1 a0 2 = .int (iI a) ∧ 0 ≤ a ∧ a ≤ cn ∧ g1 a0 3 = .int (iI o) ∧ 0 ≤ o ∧ o ≤ 50 ∧ g1 a0 6 = .int (iI q) ∧ 0 ≤ q ∧ q ≤ 300 ∧ g1 a1 2 = .int (iI n) ∧ 0 ≤ n ∧ n ≤ 100 ∧ ∃ L1 : List xS3, xRC tk tl 0 8 na no L F a o q L1 ∧ (F = 0 → xStq (xv g1 ws) s0 b n L1) ∧ xFr 14000 S g g1 ws ∧ xFr 11 S g g1 a1)) := by
  refine xEnterV (by decide) (by simp [lg_sl, Value.category]) [(0, .ref a0), (1, .ref a1), (2, .int (iI x2))] rfl ?_
  intro K E hK hret _ _ _
  refine X_aloadn hK (i := 0) 0 kd29_20.2.2.2.2.2.2.1 rfl rfl ?_
  refine X_callV hK [] [] lk_X7_47 (c3_now _ _ _ _ _ S g a0 na wt wp tk tl cn hs_a0 (by omega) ena ewt hs_wt ewp hs_wp hp0 (by omega) (by omega)) hs_a0 ⟨by decide, rfl⟩ kd29_20.2.2.2.2.2.2.2.1 rfl rfl (by simp [Value.category]) (by decide) (by decide) (by decide) (by decide) (fun r1 S3 g2 pr1 qr1 hg2 => ?_)
  obtain ⟨rfl, rfl, z4, rfl, lz4, uz4, k5⟩ := pr1
  refine X_st [.int (iI z4)] rfl ?_
  refine X_istoren hK (i := 3) [(3, .int (iI z4)), (0, .ref a0), (1, .ref a1), (2, .int (iI x2))] kd29_20.2.2.2.2.2.2.2.2.1 rfl (by decide) rfl ?_
  refine X_iloadn hK (i := 3) 0 kd29_20.2.2.2.2.2.2.2.2.2.1 rfl rfl ?_
  refine X_bipush hK kd29_20.2.2.2.2.2.2.2.2.2.2.1 (by decide) ?_
  refine X_icmp_lt hK 21 (by omega) (by omega) kd29_20.2.2.2.2.2.2.2.2.2.2.2 (by decide) (fun c6 => ?_) (fun c6 => ?_)
  · refine X_iconst hK kd29_21.2.2.2.2.2.1 ?_
    refine X_istore hK (i := 4) [(4, .int (iI 0)), (3, .int (iI z4)), (0, .ref a0), (1, .ref a1), (2, .int (iI x2))] kd29_21.2.2.2.2.2.2.1 (by decide) rfl ?_
    refine X_iload hK (i := 4) 0 kd29_21.2.2.2.2.2.2.2.1 rfl ?_
    refine X_if_ne hK 49 (by omega) kd29_21.2.2.2.2.2.2.2.2.1 (by decide) (fun c7 => False.elim (by omega)) (fun c7 => ?_)
    refine X_iloadn hK (i := 3) 1 kd29_21.2.2.2.2.2.2.2.2.2.1 rfl rfl ?_
    refine X_bipush hK kd29_21.2.2.2.2.2.2.2.2.2.2.1 (by decide) ?_
    refine X_icmp_eq hK 49 (by omega) (by omega) kd29_21.2.2.2.2.2.2.2.2.2.2.2 (by decide) (fun c8 => ?_) (fun c8 => ?_)
    · refine X_aloadn hK (i := 0) 2 kd29_22.2.2.2.2.2.2.2.1 rfl rfl ?_
      refine X_getK hK fl_X7_22_8 hs_a0 eno kd29_22.2.2.2.2.2.2.2.2.1 ?_
      refine X_bipush hK kd29_22.2.2.2.2.2.2.2.2.2.1 (by decide) ?_
      refine X_icmp_ge hK 64 (by omega) (by omega) kd29_22.2.2.2.2.2.2.2.2.2.2.1 (by decide) (fun c9 => ?_) (fun c9 => ?_)
      · refine X_aloadn hK (i := 0) 2 kd29_23.2.2.1 rfl rfl ?_
        refine X_iconst hK kd29_23.2.2.2.1 ?_
        refine X_callV hK [.int (iI 4)] [] lk_X7_60 (c3_tell _ _ _ _ _ S g a0 4 na no nf nq wt wp tk tl cn hs_a0 (by omega) (by omega) ena (by omega) eno (by omega) enf (by omega) enq ewt hs_wt ewp hs_wp hp0 (by omega) (by omega)) hs_a0 ⟨by decide, rfl⟩ kd29_23.2.2.2.2.1 rfl rfl (by simp [Value.category]) (by decide) (by decide) (by decide) (by decide) (fun r10 S12 g11 pr10 qr10 hg11 => ?_)
        obtain ⟨rfl, rfl, k13⟩ := pr10
        refine X_st [] rfl ?_
        obtain ⟨Ft14, at14, ot14, qt14, eFt14, lFt14, uFt14, eat14, lat14, uat14, eot14, lot14, uot14, eqt14, lqt14, uqt14, kt14⟩ := k13
        have cat14 : at14 ≤ 300 := by have h9 := (show xTB (xv g11 wt) (xv g11 wp) tk tl cn from (by rw [(xv_m hg11 hs_wt (by decide) (by decide)), (xv_m hg11 hs_wp (by decide) (by decide))]; exact hp0)).2.2.2; omega
        refine X_goto hK 148 kd29_23.2.2.2.2.2.1 (by decide) ?_
        exact hret _ _ _ _ _ _ kd29_27.2.2.2 ⟨rfl, rfl, ⟨Ft14, at14, ot14, qt14, ns, eFt14, by omega, by omega, eat14, by omega, by omega, eot14, by omega, by omega, eqt14, by omega, by omega, ((hg11 a1 11 0 2 hs_a1 (by decide)).trans ens), by omega, by omega, [], (by obtain ⟨h8, h7, h6⟩ := kt14; have h5 := h8.resolve_left (fun q9 => by omega); rw [h5.2.1]; exact xRC.f4 (by rw [← k5]; omega) (by omega) h5.2.2), (fun h9 => by have h8 := kt14; omega), (xFr.m xFr.rf hg11 (by decide)), (xFr.m xFr.rf hg11 (by decide))⟩⟩ (Nat.le_refl _) (Nat.le_refl _)
      · refine X_iloadn hK (i := 2) 4 kd29_22.2.2.2.2.2.2.2.2.2.2.2 rfl rfl ?_
        refine X_bipush hK kd29_23.1 (by decide) ?_
        refine X_icmp_le hK 72 (by omega) (by omega) kd29_23.2.1 (by decide) (fun c15 => ?_) (fun c15 => False.elim (by omega))
        refine X_aloadn hK (i := 0) 2 kd29_23.2.2.2.2.2.2.1 rfl rfl ?_
        refine X_dup hK kd29_23.2.2.2.2.2.2.2.1 rfl ?_
        refine X_getK hK fl_X7_22_8 hs_a0 eno kd29_23.2.2.2.2.2.2.2.2.1 ?_
        refine X_iconst hK kd29_23.2.2.2.2.2.2.2.2.2.1 ?_
        refine X_iadd hK kd29_23.2.2.2.2.2.2.2.2.2.2.1 ?_
        refine X_puti hK fl_X7_22_8 hs_a0 (by decide) sl_8_3 (by omega) (by omega) kd29_23.2.2.2.2.2.2.2.2.2.2.2 (fun g16 hg16 => ?_)
        refine X_aloadn hK (i := 0) 2 kd29_24.1 rfl rfl ?_
        refine X_dup hK kd29_24.2.1 rfl ?_
        have hl17 := xTB.lt (A := xv g16 wt) (B := xv g16 wp) (tk := tk) (tl := tl) (c := cn) (a := na) (by rw [(xv_a hg16 (xne hs_wt hs_a0 (by decide))), (xv_a hg16 (xne hs_wp hs_a0 (by decide)))]; exact hp0) (by omega) (by rw [← k5]; omega)
        refine X_getK hK fl_X7_18_8 hs_a0 ((xs_k hg16 (by decide)).trans ena) kd29_24.2.2.1 ?_
        refine X_iconst hK kd29_24.2.2.2.1 ?_
        refine X_iadd hK kd29_24.2.2.2.2.1 ?_
        refine X_puti hK fl_X7_18_8 hs_a0 (by decide) sl_8_2 (by omega) (by omega) kd29_24.2.2.2.2.2.1 (fun g18 hg18 => ?_)
        refine X_iload hK (i := 4) 0 kd29_24.2.2.2.2.2.2.1 rfl ?_
        refine X_if_eq hK 109 (by omega) kd29_24.2.2.2.2.2.2.2.1 (by decide) (fun c19 => ?_) (fun c19 => False.elim (by omega))
        refine X_iloadn hK (i := 3) 1 kd29_25.2.2.2.1 rfl rfl ?_
        refine X_bipush hK kd29_25.2.2.2.2.1 (by decide) ?_
        refine X_icmp_ne hK 132 (by omega) (by omega) kd29_25.2.2.2.2.2.1 (by decide) (fun c20 => ?_) (fun c20 => False.elim (by omega))
        refine X_aloadn hK (i := 0) 2 kd29_26.2.2.2.2.1 rfl rfl ?_
        refine X_aloadn hK (i := 1) 3 kd29_26.2.2.2.2.2.1 rfl rfl ?_
        refine X_iloadn hK (i := 2) 4 kd29_26.2.2.2.2.2.2.1 rfl rfl ?_
        refine X_iconst hK kd29_26.2.2.2.2.2.2.2.1 ?_
        refine X_iadd hK kd29_26.2.2.2.2.2.2.2.2.1 ?_
        refine X_callV hK [.ref a1, .int (iI (x2 + 1))] [] lk_X7_132 (m_readOne_9 _ _ _ _ _ S g18 a0 a1 (x2 + 1) (na + 1) (no + 1) nf nq wt wp ns ws tk tl cn L b s0 hs_a0 hs_a1 (by omega) (by omega) (xs_s hg18) (by omega) ((xs_k hg18 (by decide)).trans (xs_s hg16)) (by omega) ((xs_k hg18 (by decide)).trans ((xs_k hg16 (by decide)).trans enf)) (by omega) ((xs_k hg18 (by decide)).trans ((xs_k hg16 (by decide)).trans enq)) ((xs_k hg18 (by decide)).trans ((xs_k hg16 (by decide)).trans ewt)) hs_wt ((xs_k hg18 (by decide)).trans ((xs_k hg16 (by decide)).trans ewp)) hs_wp (by omega) ((xs_a hg18 (xne hs_a1 hs_a0 (by decide))).trans ((xs_k hg16 (by decide)).trans ens)) ((xs_k hg18 (by decide)).trans ((xs_k hg16 (by decide)).trans ews)) hs_ws (by rw [(Eq.trans (xv_a hg18 (xne hs_wt hs_a0 (by decide))) (xv_a hg16 (xne hs_wt hs_a0 (by decide)))), (Eq.trans (xv_a hg18 (xne hs_wp hs_a0 (by decide))) (xv_a hg16 (xne hs_wp hs_a0 (by decide))))]; exact hp0) (by omega) (by omega) (by rw [(Eq.trans (xv_a hg18 (xne hs_ws hs_a0 (by decide))) (xv_a hg16 (xne hs_ws hs_a0 (by decide))))]; exact hp3) (by omega) (by omega)) hs_a0 ⟨by decide, rfl⟩ kd29_26.2.2.2.2.2.2.2.2.2.1 rfl rfl (by simp [Value.category]) (by decide) (by decide) (by decide) (by decide) (fun r21 S23 g22 pr21 qr21 hg22 => ?_)
        obtain ⟨rfl, rfl, k24⟩ := pr21
        refine X_st [] rfl ?_
        obtain ⟨Ft25, at25, ot25, qt25, nt25, eFt25, lFt25, uFt25, eat25, lat25, uat25, eot25, lot25, uot25, eqt25, lqt25, uqt25, ent25, lnt25, unt25, Lt25, kt25, stt25, fst25, ftt25⟩ := k24
        have cat25 : at25 ≤ 300 := (by omega)
        refine X_aloadn hK (i := 1) 3 kd29_26.2.2.2.2.2.2.2.2.2.2.1 rfl rfl ?_
        refine X_bipush hK kd29_26.2.2.2.2.2.2.2.2.2.2.2 (by decide) ?_
        refine X_iconst hK kd29_27.1 ?_
        refine X_iconst hK kd29_27.2.1 ?_
        refine X_callV hK [.int (iI 12), .int (iI 0), .int (iI 0)] [] lk_X7_129 (m_addStep _ _ _ _ _ S g22 a1 12 0 0 nt25 ws hs_a1 (by omega) (by omega) (by omega) (by omega) ent25 ((hg22 a1 11 0 7 hs_a1 (by decide)).trans ((xs_k hg18 (by decide)).trans ((xs_k hg16 (by decide)).trans ews))) hs_ws) hs_a1 ⟨by decide, rfl⟩ kd29_27.2.2.1 rfl rfl (by simp [Value.category]) (by decide) (by decide) (by decide) (by decide) (fun r26 S28 g27 pr26 qr26 hg27 => ?_)
        obtain ⟨rfl, rfl, k29, k30, k31, k32⟩ := pr26
        refine X_st [] rfl ?_
        exact hret _ _ _ _ _ _ kd29_27.2.2.2 ⟨rfl, rfl, ⟨Ft25, at25, ot25, qt25, (if nt25 < 100 then nt25 + 1 else nt25), ((hg27 a0 8 0 5 hs_a0 (by decide)).trans eFt25), by omega, by omega, ((hg27 a0 8 0 2 hs_a0 (by decide)).trans eat25), by omega, by omega, ((hg27 a0 8 0 3 hs_a0 (by decide)).trans eot25), by omega, by omega, ((hg27 a0 8 0 6 hs_a0 (by decide)).trans eqt25), by omega, by omega, k29, by omega, by omega, (Lt25 ++ [(12, 0, 0)]), (xRC.nt (by rw [← k5]; omega) (by omega) kt25 (fun _ => rfl)), (fun h9 => by have h6 := xRC.b (by omega) kt25 h9; have h5 := (stt25 h9).1; have h4 := hp3.1; exact (by have h9 := (xStq.add (x := (12, 0, 0)) (stt25 (by omega)) (by omega) (by have h4a := (k30.1 (by omega)).1; unfold xec9; (try dsimp only); omega) (k30.1 (by omega)).2); rw [if_pos (by omega)]; exact h9)), (xFr.tr (xFr.tr (xFr.t (xFr.t xFr.rf hg16 hs_a0 (by decide)) hg18 hs_a0 (by decide)) fst25) k31), (xFr.tr (xFr.tr (xFr.t (xFr.t xFr.rf hg16 hs_a0 (by decide)) hg18 hs_a0 (by decide)) ftt25) k32)⟩⟩ (Nat.le_refl _) (Nat.le_refl _)
    · refine X_iloadn hK (i := 3) 1 kd29_22.1 rfl rfl ?_
      refine X_bipush hK kd29_22.2.1 (by decide) ?_
      refine X_icmp_eq hK 49 (by omega) (by omega) kd29_22.2.2.1 (by decide) (fun c33 => False.elim (by omega)) (fun c33 => ?_)
      refine X_aloadn hK (i := 0) 2 kd29_22.2.2.2.1 rfl rfl ?_
      refine X_iconst hK kd29_22.2.2.2.2.1 ?_
      refine X_callV hK [.int (iI 1)] [] lk_X7_60 (c3_tell _ _ _ _ _ S g a0 1 na no nf nq wt wp tk tl cn hs_a0 (by omega) (by omega) ena (by omega) eno (by omega) enf (by omega) enq ewt hs_wt ewp hs_wp hp0 (by omega) (by omega)) hs_a0 ⟨by decide, rfl⟩ kd29_22.2.2.2.2.2.1 rfl rfl (by simp [Value.category]) (by decide) (by decide) (by decide) (by decide) (fun r34 S36 g35 pr34 qr34 hg35 => ?_)
      obtain ⟨rfl, rfl, k37⟩ := pr34
      refine X_st [] rfl ?_
      obtain ⟨Ft38, at38, ot38, qt38, eFt38, lFt38, uFt38, eat38, lat38, uat38, eot38, lot38, uot38, eqt38, lqt38, uqt38, kt38⟩ := k37
      have cat38 : at38 ≤ 300 := by have h9 := (show xTB (xv g35 wt) (xv g35 wp) tk tl cn from (by rw [(xv_m hg35 hs_wt (by decide) (by decide)), (xv_m hg35 hs_wp (by decide) (by decide))]; exact hp0)).2.2.2; omega
      refine X_goto hK 148 kd29_22.2.2.2.2.2.2.1 (by decide) ?_
      exact hret _ _ _ _ _ _ kd29_27.2.2.2 ⟨rfl, rfl, ⟨Ft38, at38, ot38, qt38, ns, eFt38, by omega, by omega, eat38, by omega, by omega, eot38, by omega, by omega, eqt38, by omega, by omega, ((hg35 a1 11 0 2 hs_a1 (by decide)).trans ens), by omega, by omega, [], (by obtain ⟨h8, h7, h6⟩ := kt38; have h5 := h8.resolve_left (fun q9 => by omega); rw [h5.2.1]; exact xRC.f1 (by rw [← k5]; omega) h5.2.2), (fun h9 => by have h8 := kt38; omega), (xFr.m xFr.rf hg35 (by decide)), (xFr.m xFr.rf hg35 (by decide))⟩⟩ (Nat.le_refl _) (Nat.le_refl _)
  · refine X_iloadn hK (i := 3) 0 kd29_21.1 rfl rfl ?_
    refine X_bipush hK kd29_21.2.1 (by decide) ?_
    refine X_icmp_ge hK 21 (by omega) (by omega) kd29_21.2.2.1 (by decide) (fun c39 => ?_) (fun c39 => ?_)
    · refine X_iconst hK kd29_21.2.2.2.2.2.1 ?_
      refine X_istore hK (i := 4) [(4, .int (iI 0)), (3, .int (iI z4)), (0, .ref a0), (1, .ref a1), (2, .int (iI x2))] kd29_21.2.2.2.2.2.2.1 (by decide) rfl ?_
      refine X_iload hK (i := 4) 0 kd29_21.2.2.2.2.2.2.2.1 rfl ?_
      refine X_if_ne hK 49 (by omega) kd29_21.2.2.2.2.2.2.2.2.1 (by decide) (fun c40 => False.elim (by omega)) (fun c40 => ?_)
      refine X_iloadn hK (i := 3) 1 kd29_21.2.2.2.2.2.2.2.2.2.1 rfl rfl ?_
      refine X_bipush hK kd29_21.2.2.2.2.2.2.2.2.2.2.1 (by decide) ?_
      refine X_icmp_eq hK 49 (by omega) (by omega) kd29_21.2.2.2.2.2.2.2.2.2.2.2 (by decide) (fun c41 => False.elim (by omega)) (fun c41 => ?_)
      refine X_iloadn hK (i := 3) 1 kd29_22.1 rfl rfl ?_
      refine X_bipush hK kd29_22.2.1 (by decide) ?_
      refine X_icmp_eq hK 49 (by omega) (by omega) kd29_22.2.2.1 (by decide) (fun c42 => ?_) (fun c42 => ?_)
      · refine X_aloadn hK (i := 0) 2 kd29_22.2.2.2.2.2.2.2.1 rfl rfl ?_
        refine X_getK hK fl_X7_22_8 hs_a0 eno kd29_22.2.2.2.2.2.2.2.2.1 ?_
        refine X_bipush hK kd29_22.2.2.2.2.2.2.2.2.2.1 (by decide) ?_
        refine X_icmp_ge hK 64 (by omega) (by omega) kd29_22.2.2.2.2.2.2.2.2.2.2.1 (by decide) (fun c43 => ?_) (fun c43 => ?_)
        · refine X_aloadn hK (i := 0) 2 kd29_23.2.2.1 rfl rfl ?_
          refine X_iconst hK kd29_23.2.2.2.1 ?_
          refine X_callV hK [.int (iI 4)] [] lk_X7_60 (c3_tell _ _ _ _ _ S g a0 4 na no nf nq wt wp tk tl cn hs_a0 (by omega) (by omega) ena (by omega) eno (by omega) enf (by omega) enq ewt hs_wt ewp hs_wp hp0 (by omega) (by omega)) hs_a0 ⟨by decide, rfl⟩ kd29_23.2.2.2.2.1 rfl rfl (by simp [Value.category]) (by decide) (by decide) (by decide) (by decide) (fun r44 S46 g45 pr44 qr44 hg45 => ?_)
          obtain ⟨rfl, rfl, k47⟩ := pr44
          refine X_st [] rfl ?_
          obtain ⟨Ft48, at48, ot48, qt48, eFt48, lFt48, uFt48, eat48, lat48, uat48, eot48, lot48, uot48, eqt48, lqt48, uqt48, kt48⟩ := k47
          have cat48 : at48 ≤ 300 := by have h9 := (show xTB (xv g45 wt) (xv g45 wp) tk tl cn from (by rw [(xv_m hg45 hs_wt (by decide) (by decide)), (xv_m hg45 hs_wp (by decide) (by decide))]; exact hp0)).2.2.2; omega
          refine X_goto hK 148 kd29_23.2.2.2.2.2.1 (by decide) ?_
          exact hret _ _ _ _ _ _ kd29_27.2.2.2 ⟨rfl, rfl, ⟨Ft48, at48, ot48, qt48, ns, eFt48, by omega, by omega, eat48, by omega, by omega, eot48, by omega, by omega, eqt48, by omega, by omega, ((hg45 a1 11 0 2 hs_a1 (by decide)).trans ens), by omega, by omega, [], (by obtain ⟨h8, h7, h6⟩ := kt48; have h5 := h8.resolve_left (fun q9 => by omega); rw [h5.2.1]; exact xRC.f4 (by rw [← k5]; omega) (by omega) h5.2.2), (fun h9 => by have h8 := kt48; omega), (xFr.m xFr.rf hg45 (by decide)), (xFr.m xFr.rf hg45 (by decide))⟩⟩ (Nat.le_refl _) (Nat.le_refl _)
        · refine X_iloadn hK (i := 2) 4 kd29_22.2.2.2.2.2.2.2.2.2.2.2 rfl rfl ?_
          refine X_bipush hK kd29_23.1 (by decide) ?_
          refine X_icmp_le hK 72 (by omega) (by omega) kd29_23.2.1 (by decide) (fun c49 => ?_) (fun c49 => False.elim (by omega))
          refine X_aloadn hK (i := 0) 2 kd29_23.2.2.2.2.2.2.1 rfl rfl ?_
          refine X_dup hK kd29_23.2.2.2.2.2.2.2.1 rfl ?_
          refine X_getK hK fl_X7_22_8 hs_a0 eno kd29_23.2.2.2.2.2.2.2.2.1 ?_
          refine X_iconst hK kd29_23.2.2.2.2.2.2.2.2.2.1 ?_
          refine X_iadd hK kd29_23.2.2.2.2.2.2.2.2.2.2.1 ?_
          refine X_puti hK fl_X7_22_8 hs_a0 (by decide) sl_8_3 (by omega) (by omega) kd29_23.2.2.2.2.2.2.2.2.2.2.2 (fun g50 hg50 => ?_)
          refine X_aloadn hK (i := 0) 2 kd29_24.1 rfl rfl ?_
          refine X_dup hK kd29_24.2.1 rfl ?_
          have hl51 := xTB.lt (A := xv g50 wt) (B := xv g50 wp) (tk := tk) (tl := tl) (c := cn) (a := na) (by rw [(xv_a hg50 (xne hs_wt hs_a0 (by decide))), (xv_a hg50 (xne hs_wp hs_a0 (by decide)))]; exact hp0) (by omega) (by rw [← k5]; omega)
          refine X_getK hK fl_X7_18_8 hs_a0 ((xs_k hg50 (by decide)).trans ena) kd29_24.2.2.1 ?_
          refine X_iconst hK kd29_24.2.2.2.1 ?_
          refine X_iadd hK kd29_24.2.2.2.2.1 ?_
          refine X_puti hK fl_X7_18_8 hs_a0 (by decide) sl_8_2 (by omega) (by omega) kd29_24.2.2.2.2.2.1 (fun g52 hg52 => ?_)
          refine X_iload hK (i := 4) 0 kd29_24.2.2.2.2.2.2.1 rfl ?_
          refine X_if_eq hK 109 (by omega) kd29_24.2.2.2.2.2.2.2.1 (by decide) (fun c53 => ?_) (fun c53 => False.elim (by omega))
          refine X_iloadn hK (i := 3) 1 kd29_25.2.2.2.1 rfl rfl ?_
          refine X_bipush hK kd29_25.2.2.2.2.1 (by decide) ?_
          refine X_icmp_ne hK 132 (by omega) (by omega) kd29_25.2.2.2.2.2.1 (by decide) (fun c54 => False.elim (by omega)) (fun c54 => ?_)
          refine X_aloadn hK (i := 0) 2 kd29_25.2.2.2.2.2.2.1 rfl rfl ?_
          refine X_aloadn hK (i := 1) 3 kd29_25.2.2.2.2.2.2.2.1 rfl rfl ?_
          refine X_iloadn hK (i := 2) 4 kd29_25.2.2.2.2.2.2.2.2.1 rfl rfl ?_
          refine X_iconst hK kd29_25.2.2.2.2.2.2.2.2.2.1 ?_
          refine X_iadd hK kd29_25.2.2.2.2.2.2.2.2.2.2.1 ?_
          refine X_callV hK [.ref a1, .int (iI (x2 + 1))] [] lk_X7_115 (m_readCond_9 _ _ _ _ _ S g52 a0 a1 (x2 + 1) (na + 1) (no + 1) nf nq wt wp ns ws tk tl cn L b s0 hs_a0 hs_a1 (by omega) (by omega) (xs_s hg52) (by omega) ((xs_k hg52 (by decide)).trans (xs_s hg50)) (by omega) ((xs_k hg52 (by decide)).trans ((xs_k hg50 (by decide)).trans enf)) (by omega) ((xs_k hg52 (by decide)).trans ((xs_k hg50 (by decide)).trans enq)) ((xs_k hg52 (by decide)).trans ((xs_k hg50 (by decide)).trans ewt)) hs_wt ((xs_k hg52 (by decide)).trans ((xs_k hg50 (by decide)).trans ewp)) hs_wp (by omega) ((xs_a hg52 (xne hs_a1 hs_a0 (by decide))).trans ((xs_k hg50 (by decide)).trans ens)) ((xs_k hg52 (by decide)).trans ((xs_k hg50 (by decide)).trans ews)) hs_ws (by rw [(Eq.trans (xv_a hg52 (xne hs_wt hs_a0 (by decide))) (xv_a hg50 (xne hs_wt hs_a0 (by decide)))), (Eq.trans (xv_a hg52 (xne hs_wp hs_a0 (by decide))) (xv_a hg50 (xne hs_wp hs_a0 (by decide))))]; exact hp0) (by omega) (by omega) (by rw [(Eq.trans (xv_a hg52 (xne hs_ws hs_a0 (by decide))) (xv_a hg50 (xne hs_ws hs_a0 (by decide))))]; exact hp3) (by omega) (by omega)) hs_a0 ⟨by decide, rfl⟩ kd29_25.2.2.2.2.2.2.2.2.2.2.2 rfl rfl (by simp [Value.category]) (by decide) (by decide) (by decide) (by decide) (fun r55 S57 g56 pr55 qr55 hg56 => ?_)
          obtain ⟨rfl, rfl, k58⟩ := pr55
          refine X_st [] rfl ?_
          obtain ⟨Ft59, at59, ot59, qt59, nt59, eFt59, lFt59, uFt59, eat59, lat59, uat59, eot59, lot59, uot59, eqt59, lqt59, uqt59, ent59, lnt59, unt59, Lt59, kt59, stt59, fst59, ftt59⟩ := k58
          have cat59 : at59 ≤ 300 := (by omega)
          refine X_aloadn hK (i := 0) 2 kd29_26.1 rfl rfl ?_
          refine X_bipush hK kd29_26.2.1 (by decide) ?_
          refine X_callV hK [.int (iI 26)] [] lk_X7_119 (c3_expect _ _ _ _ _ S g56 a0 26 at59 ot59 Ft59 qt59 wt wp tk tl cn hs_a0 (by omega) (by omega) eat59 (by omega) eot59 (by omega) eFt59 (by omega) eqt59 ((hg56 a0 8 0 0 hs_a0 (by decide)).trans ((xs_k hg52 (by decide)).trans ((xs_k hg50 (by decide)).trans ewt))) hs_wt ((hg56 a0 8 0 1 hs_a0 (by decide)).trans ((xs_k hg52 (by decide)).trans ((xs_k hg50 (by decide)).trans ewp))) hs_wp (by rw [(Eq.trans (Eq.trans (xv_m hg56 hs_wt (by decide) (by decide)) (xv_a hg52 (xne hs_wt hs_a0 (by decide)))) (xv_a hg50 (xne hs_wt hs_a0 (by decide)))), (Eq.trans (Eq.trans (xv_m hg56 hs_wp (by decide) (by decide)) (xv_a hg52 (xne hs_wp hs_a0 (by decide)))) (xv_a hg50 (xne hs_wp hs_a0 (by decide))))]; exact hp0) (by omega) (by omega)) hs_a0 ⟨by decide, rfl⟩ kd29_26.2.2.1 rfl rfl (by simp [Value.category]) (by decide) (by decide) (by decide) (by decide) (fun r60 S62 g61 pr60 qr60 hg61 => ?_)
          obtain ⟨rfl, rfl, k63⟩ := pr60
          refine X_st [] rfl ?_
          obtain ⟨Ft64, at64, ot64, qt64, eFt64, lFt64, uFt64, eat64, lat64, uat64, eot64, lot64, uot64, eqt64, lqt64, uqt64, kt64⟩ := k63
          have cat64 : at64 ≤ 300 := by have h9 := (show xTB (xv g61 wt) (xv g61 wp) tk tl cn from (by rw [(Eq.trans (Eq.trans (Eq.trans (xv_m hg61 hs_wt (by decide) (by decide)) (xv_m hg56 hs_wt (by decide) (by decide))) (xv_a hg52 (xne hs_wt hs_a0 (by decide)))) (xv_a hg50 (xne hs_wt hs_a0 (by decide)))), (Eq.trans (Eq.trans (Eq.trans (xv_m hg61 hs_wp (by decide) (by decide)) (xv_m hg56 hs_wp (by decide) (by decide))) (xv_a hg52 (xne hs_wp hs_a0 (by decide)))) (xv_a hg50 (xne hs_wp hs_a0 (by decide))))]; exact hp0)).2.2.2; omega
          refine X_goto hK 148 kd29_26.2.2.2.1 (by decide) ?_
          exact hret _ _ _ _ _ _ kd29_27.2.2.2 ⟨rfl, rfl, ⟨Ft64, at64, ot64, qt64, nt59, eFt64, by omega, by omega, eat64, by omega, by omega, eot64, by omega, by omega, eqt64, by omega, by omega, ((hg61 a1 11 0 2 hs_a1 (by decide)).trans ent59), by omega, by omega, Lt59, (by obtain ⟨h8, h7⟩ := kt64; by_cases f9 : Ft59 = 0; (rcases h8 with ⟨c1, c2, c3, c4⟩ | ⟨c1, c2, c3⟩; (rw [show Ft64 = 0 by omega, c3, h7]; exact xRC.po (by rw [← k5]; omega) (by omega) (show xRC tk tl 2 (8 + 1) (na + 1) (no + 1) L Ft59 at59 ot59 qt59 Lt59 from kt59) f9 c1); (have c4 := c3.resolve_left (fun q9 => q9.1 f9); rw [c4.2.1]; exact xRC.px (by rw [← k5]; omega) (by omega) (show xRC tk tl 2 (8 + 1) (na + 1) (no + 1) L Ft59 at59 ot59 qt59 Lt59 from kt59) f9 c1 c4.2.2)); (have h6 : Ft64 = Ft59 ∧ qt64 = qt59 := (by omega); rw [h6.1, h6.2]; exact xRC.pf (by rw [← k5]; omega) (by omega) (show xRC tk tl 2 (8 + 1) (na + 1) (no + 1) L Ft59 at59 ot59 qt59 Lt59 from kt59) f9)), (fun h9 => by have h8 := kt64; have h7 : Ft59 = 0 := (by omega); rw [(xv_m hg61 hs_ws (by decide) (by decide))]; exact stt59 h7), (xFr.m (xFr.tr (xFr.t (xFr.t xFr.rf hg50 hs_a0 (by decide)) hg52 hs_a0 (by decide)) fst59) hg61 (by decide)), (xFr.m (xFr.tr (xFr.t (xFr.t xFr.rf hg50 hs_a0 (by decide)) hg52 hs_a0 (by decide)) ftt59) hg61 (by decide))⟩⟩ (Nat.le_refl _) (Nat.le_refl _)
      · refine X_aloadn hK (i := 0) 2 kd29_22.2.2.2.1 rfl rfl ?_
        refine X_iconst hK kd29_22.2.2.2.2.1 ?_
        refine X_callV hK [.int (iI 1)] [] lk_X7_60 (c3_tell _ _ _ _ _ S g a0 1 na no nf nq wt wp tk tl cn hs_a0 (by omega) (by omega) ena (by omega) eno (by omega) enf (by omega) enq ewt hs_wt ewp hs_wp hp0 (by omega) (by omega)) hs_a0 ⟨by decide, rfl⟩ kd29_22.2.2.2.2.2.1 rfl rfl (by simp [Value.category]) (by decide) (by decide) (by decide) (by decide) (fun r65 S67 g66 pr65 qr65 hg66 => ?_)
        obtain ⟨rfl, rfl, k68⟩ := pr65
        refine X_st [] rfl ?_
        obtain ⟨Ft69, at69, ot69, qt69, eFt69, lFt69, uFt69, eat69, lat69, uat69, eot69, lot69, uot69, eqt69, lqt69, uqt69, kt69⟩ := k68
        have cat69 : at69 ≤ 300 := by have h9 := (show xTB (xv g66 wt) (xv g66 wp) tk tl cn from (by rw [(xv_m hg66 hs_wt (by decide) (by decide)), (xv_m hg66 hs_wp (by decide) (by decide))]; exact hp0)).2.2.2; omega
        refine X_goto hK 148 kd29_22.2.2.2.2.2.2.1 (by decide) ?_
        exact hret _ _ _ _ _ _ kd29_27.2.2.2 ⟨rfl, rfl, ⟨Ft69, at69, ot69, qt69, ns, eFt69, by omega, by omega, eat69, by omega, by omega, eot69, by omega, by omega, eqt69, by omega, by omega, ((hg66 a1 11 0 2 hs_a1 (by decide)).trans ens), by omega, by omega, [], (by obtain ⟨h8, h7, h6⟩ := kt69; have h5 := h8.resolve_left (fun q9 => by omega); rw [h5.2.1]; exact xRC.f1 (by rw [← k5]; omega) h5.2.2), (fun h9 => by have h8 := kt69; omega), (xFr.m xFr.rf hg66 (by decide)), (xFr.m xFr.rf hg66 (by decide))⟩⟩ (Nat.le_refl _) (Nat.le_refl _)
    · refine X_iconst hK kd29_21.2.2.2.1 ?_
      refine X_goto hK 22 kd29_21.2.2.2.2.1 (by decide) ?_
      refine X_istore hK (i := 4) [(4, .int (iI 1)), (3, .int (iI z4)), (0, .ref a0), (1, .ref a1), (2, .int (iI x2))] kd29_21.2.2.2.2.2.2.1 (by decide) rfl ?_
      refine X_iload hK (i := 4) 0 kd29_21.2.2.2.2.2.2.2.1 rfl ?_
      refine X_if_ne hK 49 (by omega) kd29_21.2.2.2.2.2.2.2.2.1 (by decide) (fun c70 => ?_) (fun c70 => False.elim (by omega))
      refine X_aloadn hK (i := 0) 2 kd29_22.2.2.2.2.2.2.2.1 rfl rfl ?_
      refine X_getK hK fl_X7_22_8 hs_a0 eno kd29_22.2.2.2.2.2.2.2.2.1 ?_
      refine X_bipush hK kd29_22.2.2.2.2.2.2.2.2.2.1 (by decide) ?_
      refine X_icmp_ge hK 64 (by omega) (by omega) kd29_22.2.2.2.2.2.2.2.2.2.2.1 (by decide) (fun c71 => ?_) (fun c71 => ?_)
      · refine X_aloadn hK (i := 0) 2 kd29_23.2.2.1 rfl rfl ?_
        refine X_iconst hK kd29_23.2.2.2.1 ?_
        refine X_callV hK [.int (iI 4)] [] lk_X7_60 (c3_tell _ _ _ _ _ S g a0 4 na no nf nq wt wp tk tl cn hs_a0 (by omega) (by omega) ena (by omega) eno (by omega) enf (by omega) enq ewt hs_wt ewp hs_wp hp0 (by omega) (by omega)) hs_a0 ⟨by decide, rfl⟩ kd29_23.2.2.2.2.1 rfl rfl (by simp [Value.category]) (by decide) (by decide) (by decide) (by decide) (fun r72 S74 g73 pr72 qr72 hg73 => ?_)
        obtain ⟨rfl, rfl, k75⟩ := pr72
        refine X_st [] rfl ?_
        obtain ⟨Ft76, at76, ot76, qt76, eFt76, lFt76, uFt76, eat76, lat76, uat76, eot76, lot76, uot76, eqt76, lqt76, uqt76, kt76⟩ := k75
        have cat76 : at76 ≤ 300 := by have h9 := (show xTB (xv g73 wt) (xv g73 wp) tk tl cn from (by rw [(xv_m hg73 hs_wt (by decide) (by decide)), (xv_m hg73 hs_wp (by decide) (by decide))]; exact hp0)).2.2.2; omega
        refine X_goto hK 148 kd29_23.2.2.2.2.2.1 (by decide) ?_
        exact hret _ _ _ _ _ _ kd29_27.2.2.2 ⟨rfl, rfl, ⟨Ft76, at76, ot76, qt76, ns, eFt76, by omega, by omega, eat76, by omega, by omega, eot76, by omega, by omega, eqt76, by omega, by omega, ((hg73 a1 11 0 2 hs_a1 (by decide)).trans ens), by omega, by omega, [], (by obtain ⟨h8, h7, h6⟩ := kt76; have h5 := h8.resolve_left (fun q9 => by omega); rw [h5.2.1]; exact xRC.f4 (by rw [← k5]; omega) (by omega) h5.2.2), (fun h9 => by have h8 := kt76; omega), (xFr.m xFr.rf hg73 (by decide)), (xFr.m xFr.rf hg73 (by decide))⟩⟩ (Nat.le_refl _) (Nat.le_refl _)
      · refine X_iloadn hK (i := 2) 4 kd29_22.2.2.2.2.2.2.2.2.2.2.2 rfl rfl ?_
        refine X_bipush hK kd29_23.1 (by decide) ?_
        refine X_icmp_le hK 72 (by omega) (by omega) kd29_23.2.1 (by decide) (fun c77 => ?_) (fun c77 => False.elim (by omega))
        refine X_aloadn hK (i := 0) 2 kd29_23.2.2.2.2.2.2.1 rfl rfl ?_
        refine X_dup hK kd29_23.2.2.2.2.2.2.2.1 rfl ?_
        refine X_getK hK fl_X7_22_8 hs_a0 eno kd29_23.2.2.2.2.2.2.2.2.1 ?_
        refine X_iconst hK kd29_23.2.2.2.2.2.2.2.2.2.1 ?_
        refine X_iadd hK kd29_23.2.2.2.2.2.2.2.2.2.2.1 ?_
        refine X_puti hK fl_X7_22_8 hs_a0 (by decide) sl_8_3 (by omega) (by omega) kd29_23.2.2.2.2.2.2.2.2.2.2.2 (fun g78 hg78 => ?_)
        refine X_aloadn hK (i := 0) 2 kd29_24.1 rfl rfl ?_
        refine X_dup hK kd29_24.2.1 rfl ?_
        have hl79 := xTB.lt (A := xv g78 wt) (B := xv g78 wp) (tk := tk) (tl := tl) (c := cn) (a := na) (by rw [(xv_a hg78 (xne hs_wt hs_a0 (by decide))), (xv_a hg78 (xne hs_wp hs_a0 (by decide)))]; exact hp0) (by omega) (by rw [← k5]; omega)
        refine X_getK hK fl_X7_18_8 hs_a0 ((xs_k hg78 (by decide)).trans ena) kd29_24.2.2.1 ?_
        refine X_iconst hK kd29_24.2.2.2.1 ?_
        refine X_iadd hK kd29_24.2.2.2.2.1 ?_
        refine X_puti hK fl_X7_18_8 hs_a0 (by decide) sl_8_2 (by omega) (by omega) kd29_24.2.2.2.2.2.1 (fun g80 hg80 => ?_)
        refine X_iload hK (i := 4) 0 kd29_24.2.2.2.2.2.2.1 rfl ?_
        refine X_if_eq hK 109 (by omega) kd29_24.2.2.2.2.2.2.2.1 (by decide) (fun c81 => False.elim (by omega)) (fun c81 => ?_)
        refine X_aloadn hK (i := 0) 2 kd29_24.2.2.2.2.2.2.2.2.1 rfl rfl ?_
        refine X_aloadn hK (i := 1) 3 kd29_24.2.2.2.2.2.2.2.2.2.1 rfl rfl ?_
        refine X_iloadn hK (i := 3) 1 kd29_24.2.2.2.2.2.2.2.2.2.2.1 rfl rfl ?_
        refine X_bipush hK kd29_24.2.2.2.2.2.2.2.2.2.2.2 (by decide) ?_
        refine X_isub hK kd29_25.1 ?_
        refine X_callV hK [.ref a1, .int (iI (z4 - 10))] [] lk_X7_135 (m_readFact _ _ _ _ _ S g80 a0 a1 (z4 - 10) (na + 1) (no + 1) nf nq wt wp ns ws tk tl cn L b s0 8 hs_a0 hs_a1 (by omega) (by omega) (xs_s hg80) (by omega) ((xs_k hg80 (by decide)).trans (xs_s hg78)) (by omega) ((xs_k hg80 (by decide)).trans ((xs_k hg78 (by decide)).trans enf)) (by omega) ((xs_k hg80 (by decide)).trans ((xs_k hg78 (by decide)).trans enq)) ((xs_k hg80 (by decide)).trans ((xs_k hg78 (by decide)).trans ewt)) hs_wt ((xs_k hg80 (by decide)).trans ((xs_k hg78 (by decide)).trans ewp)) hs_wp (by omega) ((xs_a hg80 (xne hs_a1 hs_a0 (by decide))).trans ((xs_k hg78 (by decide)).trans ens)) ((xs_k hg80 (by decide)).trans ((xs_k hg78 (by decide)).trans ews)) hs_ws (by rw [(Eq.trans (xv_a hg80 (xne hs_wt hs_a0 (by decide))) (xv_a hg78 (xne hs_wt hs_a0 (by decide)))), (Eq.trans (xv_a hg80 (xne hs_wp hs_a0 (by decide))) (xv_a hg78 (xne hs_wp hs_a0 (by decide))))]; exact hp0) (by omega) (by omega) (by rw [(Eq.trans (xv_a hg80 (xne hs_ws hs_a0 (by decide))) (xv_a hg78 (xne hs_ws hs_a0 (by decide))))]; exact hp3) (by omega) (by omega) (by rw [show (na + 1) - 1 = na by omega, ← k5]; omega) (by omega)) hs_a0 ⟨by decide, rfl⟩ kd29_25.2.1 rfl rfl (by simp [Value.category]) (by decide) (by decide) (by decide) (by decide) (fun r82 S84 g83 pr82 qr82 hg83 => ?_)
        obtain ⟨rfl, rfl, k85⟩ := pr82
        refine X_st [] rfl ?_
        obtain ⟨Ft86, at86, ot86, qt86, nt86, eFt86, lFt86, uFt86, eat86, lat86, uat86, eot86, lot86, uot86, eqt86, lqt86, uqt86, ent86, lnt86, unt86, Lt86, kt86, stt86, fst86, ftt86⟩ := k85
        have cat86 : at86 ≤ 300 := (by omega)
        refine X_goto hK 148 kd29_25.2.2.1 (by decide) ?_
        exact hret _ _ _ _ _ _ kd29_27.2.2.2 ⟨rfl, rfl, ⟨Ft86, at86, ot86, qt86, nt86, eFt86, by omega, by omega, eat86, by omega, by omega, eot86, by omega, by omega, eqt86, by omega, by omega, ent86, by omega, by omega, Lt86, (by have h9 := kt86; rw [show na + 1 - 1 = na by omega, show no + 1 - 1 = no by omega] at h9; exact h9), stt86, (xFr.tr (xFr.t (xFr.t xFr.rf hg78 hs_a0 (by decide)) hg80 hs_a0 (by decide)) fst86), (xFr.tr (xFr.t (xFr.t xFr.rf hg78 hs_a0 (by decide)) hg80 hs_a0 (by decide)) ftt86)⟩⟩ (Nat.le_refl _) (Nat.le_refl _)

set_option maxHeartbeats 4000000 in
set_option maxRecDepth 100000 in
theorem m_readAll_8 (l : Launch) (D : va_G) (kA : Nat → ClassId) (b0 : Nat) (t0 : Nat → Nat) (S : xT) (g : xG) (a0 : Nat) (a1 : Nat) (x2 : Int) (na : Int) (no : Int) (nf : Int) (nq : Int) (wt : Nat) (wp : Nat) (ns : Int) (ws : Nat) (tk : Int → Int) (tl : Int → Int) (cn : Int) (L : List xS3) (b : Int) (s0 : Int → Int) (hs_a0 : S a0 = some (8, 0)) (hs_a1 : S a1 = some (11, 0)) (hx2 : 8 ≤ x2 ∧ x2 ≤ 8) (hna : 0 ≤ na ∧ na ≤ 300) (ena : g a0 2 = .int (iI na)) (hno : 0 ≤ no ∧ no ≤ 50) (eno : g a0 3 = .int (iI no)) (hnf : 0 ≤ nf ∧ nf ≤ 0) (enf : g a0 5 = .int (iI nf)) (hnq : 0 ≤ nq ∧ nq ≤ 300) (enq : g a0 6 = .int (iI nq)) (ewt : g a0 0 = .ref wt) (hs_wt : S wt = some (12900, 301)) (ewp : g a0 1 = .ref wp) (hs_wp : S wp = some (13000, 301)) (hns : 0 ≤ ns ∧ ns ≤ 100) (ens : g a1 2 = .int (iI ns)) (ews : g a1 7 = .ref ws) (hs_ws : S ws = some (14000, 100)) (hp0 : xTB (xv g wt) (xv g wp) tk tl cn) (hp1 : na ≤ cn) (hp2 : cn ≤ 300) (hp3 : xStq (xv g ws) s0 b ns L) (hp4 : 0 ≤ b) (hp5 : ns ≤ 2 * no) : xMt l yX7_readAll cX7_readAll 4 none 11 0 0 255 D kA b0 t0 [(8, 5), (8, 6), (8, 3), (8, 2), (14000, 0), (11, 2)] [.ref a0, .ref a1, .int (iI x2)] S g (fun (r : Option Value) (S1 : xT) (g1 : xG) => S = S1 ∧ r = none ∧ (∃ F a o q n : Int, g1 a0 5 = .int (iI F) ∧ -2147483648 ≤ F ∧ F ≤ 2147483647 ∧ g1 a0 2 = .int (iI a) ∧ 0 ≤ a ∧ a ≤ cn ∧ g1 a0 3 = .int (iI o) ∧ 0 ≤ o ∧ o ≤ 50 ∧ g1 a0 6 = .int (iI q) ∧ 0 ≤ q ∧ q ≤ 300 ∧ g1 a1 2 = .int (iI n) ∧ 0 ≤ n ∧ n ≤ 100 ∧ ∃ L1 : List xS3, xRC tk tl 1 8 na no L F a o q L1 ∧ (F = 0 → xStq (xv g1 ws) s0 b n L1) ∧ xFr 14000 S g g1 ws ∧ xFr 11 S g g1 a1)) := by
  refine xEnterV (by decide) (by simp [lg_sl, Value.category]) [(0, .ref a0), (1, .ref a1), (2, .int (iI x2))] rfl ?_
  intro K E hK hret _ _ _
  refine X_aloadn hK (i := 0) 0 kd29_0.1 rfl rfl ?_
  refine X_aloadn hK (i := 1) 1 kd29_0.2.1 rfl rfl ?_
  refine X_iloadn hK (i := 2) 2 kd29_0.2.2.1 rfl rfl ?_
  refine X_callV hK [.ref a1, .int (iI x2)] [] lk_X7_132 (m_readOne_8 _ _ _ _ _ S g a0 a1 x2 na no nf nq wt wp ns ws tk tl cn L b s0 hs_a0 hs_a1 (by omega) (by omega) ena (by omega) eno (by omega) enf (by omega) enq ewt hs_wt ewp hs_wp (by omega) ens ews hs_ws hp0 (by omega) (by omega) hp3 (by omega) (by omega)) hs_a0 ⟨by decide, rfl⟩ kd29_0.2.2.2.1 rfl rfl (by simp [Value.category]) (by decide) (by decide) (by decide) (by decide) (fun r1 S3 g2 pr1 qr1 hg2 => ?_)
  obtain ⟨rfl, rfl, k4⟩ := pr1
  refine X_st [] rfl ?_
  obtain ⟨Ft5, at5, ot5, qt5, nt5, eFt5, lFt5, uFt5, eat5, lat5, uat5, eot5, lot5, uot5, eqt5, lqt5, uqt5, ent5, lnt5, unt5, Lt5, kt5, stt5, fst5, ftt5⟩ := k4
  have cat5 : at5 ≤ 300 := (by omega)
  refine X_iconst hK kd29_0.2.2.2.2.1 ?_
  refine X_istoren hK (i := 3) [(3, .int (iI 0)), (0, .ref a0), (1, .ref a1), (2, .int (iI x2))] kd29_0.2.2.2.2.2.1 rfl (by decide) rfl ?_
  have P150 : ∀ (nP150 : Nat) (g122 : xG) (_ : xM [(14000, 0), (11, 2), (8, 5), (8, 6), (8, 3), (8, 2)] S g2 g122) (z121 : Int) (_ : 0 ≤ z121) (_ : z121 ≤ 50) (q123 : Int) (_ : 0 ≤ q123) (_ : q123 ≤ 300) (_ : g122 a0 2 = .int (iI q123)) (q124 : Int) (_ : 0 ≤ q124) (_ : q124 ≤ 50) (_ : g122 a0 3 = .int (iI q124)) (q125 : Int) (_ : (-2147483648) ≤ q125) (_ : q125 ≤ 2147483647) (_ : g122 a0 5 = .int (iI q125)) (q126 : Int) (_ : 0 ≤ q126) (_ : q126 ≤ 300) (_ : g122 a0 6 = .int (iI q126)) (q127 : Int) (_ : 0 ≤ q127) (_ : q127 ≤ 100) (_ : g122 a1 2 = .int (iI q127)) (_ : ∃ Li : List xS3, xIC tk tl 1 8 na no L q125 q123 q124 q126 Li ∧ (q125 = 0 → xStq (xv g122 ws) s0 b q127 Li ∧ q127 ≤ 2 * q124 - 1)) (_ : q125 = 0 → no + 1 + z121 ≤ q124) (_ : q123 ≤ cn) (_ : xFr 14000 S g g122 ws) (_ : xFr 11 S g g122 a1) (_ : 60 - z121 < (nP150 : Int)), X K E 8 [(3, .int (iI z121)), (0, .ref a0), (1, .ref a1), (2, .int (iI x2))] [] S g122 0 0 := by
    intro nP150
    induction nP150 with
    | zero => intro g122 hg122 z121 lz121 uz121 q123 lq123 uq123 eq123 q124 lq124 uq124 eq124 q125 lq125 uq125 eq125 q126 lq126 uq126 eq126 q127 lq127 uq127 eq127 v151 v152 v153 v154 v155 mP150; exact False.elim (by omega)
    | succ nP150 ihP150 =>
      intro g122 hg122 z121 lz121 uz121 q123 lq123 uq123 eq123 q124 lq124 uq124 eq124 q125 lq125 uq125 eq125 q126 lq126 uq126 eq126 q127 lq127 uq127 eq127 v151 v152 v153 v154 v155 mP150
      refine X_iloadn hK (i := 3) 0 kd29_0.2.2.2.2.2.2.1 rfl rfl ?_
      obtain ⟨Lij156, ij156, sj156⟩ := id v151
      have ivj156 : q125 = 0 → _ := fun h9 => (sj156 h9).1
      have nbj156 : q125 = 0 → q127 ≤ 2 * q124 - 1 := fun h9 => (sj156 h9).2
      refine X_bipush hK kd29_0.2.2.2.2.2.2.2.1 (by decide) ?_
      refine X_icmp_ge hK 60 (by omega) (by omega) kd29_0.2.2.2.2.2.2.2.2.1 (by decide) (fun c157 => ?_) (fun c157 => ?_)
      · exact hret _ _ _ _ _ _ kd29_2.2.2.2.2.2.2.2.2.2.1 ⟨rfl, rfl, ⟨q125, q123, q124, q126, q127, eq125, by omega, by omega, eq123, by omega, by omega, eq124, by omega, by omega, eq126, by omega, by omega, eq127, by omega, by omega, Lij156, (xIC.e ij156 (fun h9 => False.elim (by have h8 := v152 h9; omega))), (fun h9 => (sj156 h9).1), v154, v155⟩⟩ (Nat.le_refl _) (Nat.le_refl _)
      · refine X_aloadn hK (i := 0) 1 kd29_0.2.2.2.2.2.2.2.2.2.1 rfl rfl ?_
        refine X_getK hK fl_X7_29_8 hs_a0 eq125 kd29_0.2.2.2.2.2.2.2.2.2.2.1 ?_
        refine X_if_ne hK 60 (by omega) kd29_0.2.2.2.2.2.2.2.2.2.2.2 (by decide) (fun c158 => ?_) (fun c158 => ?_)
        · exact hret _ _ _ _ _ _ kd29_2.2.2.2.2.2.2.2.2.2.1 ⟨rfl, rfl, ⟨q125, q123, q124, q126, q127, eq125, by omega, by omega, eq123, by omega, by omega, eq124, by omega, by omega, eq126, by omega, by omega, eq127, by omega, by omega, Lij156, (xIC.e ij156 (fun h9 => False.elim (by have h8 := v152 h9; omega))), (fun h9 => (sj156 h9).1), v154, v155⟩⟩ (Nat.le_refl _) (Nat.le_refl _)
        · refine X_aloadn hK (i := 0) 1 kd29_1.1 rfl rfl ?_
          refine X_callV hK [] [] lk_X7_47 (c3_now _ _ _ _ _ S g122 a0 q123 wt wp tk tl cn hs_a0 (by omega) eq123 ((hg122 a0 8 0 0 hs_a0 (by decide)).trans ((hg2 a0 8 0 0 hs_a0 (by decide)).trans ewt)) hs_wt ((hg122 a0 8 0 1 hs_a0 (by decide)).trans ((hg2 a0 8 0 1 hs_a0 (by decide)).trans ewp)) hs_wp (by rw [(Eq.trans (xv_m hg122 hs_wt (by decide) (by decide)) (xv_m hg2 hs_wt (by decide) (by decide))), (Eq.trans (xv_m hg122 hs_wp (by decide) (by decide)) (xv_m hg2 hs_wp (by decide) (by decide)))]; exact hp0) (by omega) (by omega)) hs_a0 ⟨by decide, rfl⟩ kd29_1.2.1 rfl rfl (by simp [Value.category]) (by decide) (by decide) (by decide) (by decide) (fun r159 S161 g160 pr159 qr159 hg160 => ?_)
          obtain ⟨rfl, rfl, z162, rfl, lz162, uz162, k163⟩ := pr159
          refine X_st [.int (iI z162)] rfl ?_
          refine X_bipush hK kd29_1.2.2.1 (by decide) ?_
          refine X_icmp_ne hK 60 (by omega) (by omega) kd29_1.2.2.2.1 (by decide) (fun c164 => ?_) (fun c164 => ?_)
          · exact hret _ _ _ _ _ _ kd29_2.2.2.2.2.2.2.2.2.2.1 ⟨rfl, rfl, ⟨q125, q123, q124, q126, q127, eq125, by omega, by omega, eq123, by omega, by omega, eq124, by omega, by omega, eq126, by omega, by omega, eq127, by omega, by omega, Lij156, (xIC.e ij156 (fun h9 => Or.inl ⟨rfl, by rw [← k163]; omega⟩)), (fun h9 => (sj156 h9).1), v154, v155⟩⟩ (Nat.le_refl _) (Nat.le_refl _)
          · refine X_aloadn hK (i := 0) 1 kd29_1.2.2.2.2.1 rfl rfl ?_
            refine X_dup hK kd29_1.2.2.2.2.2.1 rfl ?_
            have hl165 := xTB.lt (A := xv g122 wt) (B := xv g122 wp) (tk := tk) (tl := tl) (c := cn) (a := q123) (by rw [(Eq.trans (xv_m hg122 hs_wt (by decide) (by decide)) (xv_m hg2 hs_wt (by decide) (by decide))), (Eq.trans (xv_m hg122 hs_wp (by decide) (by decide)) (xv_m hg2 hs_wp (by decide) (by decide)))]; exact hp0) (by omega) (by rw [← k163]; omega)
            refine X_getK hK fl_X7_18_8 hs_a0 eq123 kd29_1.2.2.2.2.2.2.1 ?_
            refine X_iconst hK kd29_1.2.2.2.2.2.2.2.1 ?_
            refine X_iadd hK kd29_1.2.2.2.2.2.2.2.2.1 ?_
            refine X_puti hK fl_X7_18_8 hs_a0 (by decide) sl_8_2 (by omega) (by omega) kd29_1.2.2.2.2.2.2.2.2.2.1 (fun g166 hg166 => ?_)
            refine X_aloadn hK (i := 0) 1 kd29_1.2.2.2.2.2.2.2.2.2.2.1 rfl rfl ?_
            refine X_aloadn hK (i := 1) 2 kd29_1.2.2.2.2.2.2.2.2.2.2.2 rfl rfl ?_
            refine X_iloadn hK (i := 2) 3 kd29_2.1 rfl rfl ?_
            refine X_callV hK [.ref a1, .int (iI x2)] [] lk_X7_132 (m_readOne_8 _ _ _ _ _ S g166 a0 a1 x2 (q123 + 1) q124 q125 q126 wt wp q127 ws tk tl cn Lij156 b s0 hs_a0 hs_a1 (by omega) (by omega) (xs_s hg166) (by omega) ((xs_k hg166 (by decide)).trans eq124) (by omega) ((xs_k hg166 (by decide)).trans eq125) (by omega) ((xs_k hg166 (by decide)).trans eq126) ((xs_k hg166 (by decide)).trans ((hg122 a0 8 0 0 hs_a0 (by decide)).trans ((hg2 a0 8 0 0 hs_a0 (by decide)).trans ewt))) hs_wt ((xs_k hg166 (by decide)).trans ((hg122 a0 8 0 1 hs_a0 (by decide)).trans ((hg2 a0 8 0 1 hs_a0 (by decide)).trans ewp))) hs_wp (by omega) ((xs_a hg166 (xne hs_a1 hs_a0 (by decide))).trans eq127) ((xs_k hg166 (by decide)).trans ((hg122 a1 11 0 7 hs_a1 (by decide)).trans ((hg2 a1 11 0 7 hs_a1 (by decide)).trans ews))) hs_ws (by rw [(Eq.trans (Eq.trans (xv_a hg166 (xne hs_wt hs_a0 (by decide))) (xv_m hg122 hs_wt (by decide) (by decide))) (xv_m hg2 hs_wt (by decide) (by decide))), (Eq.trans (Eq.trans (xv_a hg166 (xne hs_wp hs_a0 (by decide))) (xv_m hg122 hs_wp (by decide) (by decide))) (xv_m hg2 hs_wp (by decide) (by decide)))]; exact hp0) (by omega) (by omega) (by rw [(xv_a hg166 (xne hs_ws hs_a0 (by decide)))]; exact (ivj156 (by omega))) (by omega) (by omega)) hs_a0 ⟨by decide, rfl⟩ kd29_2.2.1 rfl rfl (by simp [Value.category]) (by decide) (by decide) (by decide) (by decide) (fun r167 S169 g168 pr167 qr167 hg168 => ?_)
            obtain ⟨rfl, rfl, k170⟩ := pr167
            refine X_st [] rfl ?_
            obtain ⟨Ft171, at171, ot171, qt171, nt171, eFt171, lFt171, uFt171, eat171, lat171, uat171, eot171, lot171, uot171, eqt171, lqt171, uqt171, ent171, lnt171, unt171, Lt171, kt171, stt171, fst171, ftt171⟩ := k170
            have cat171 : at171 ≤ 300 := (by omega)
            refine X_aloadn hK (i := 1) 2 kd29_2.2.2.1 rfl rfl ?_
            refine X_bipush hK kd29_2.2.2.2.1 (by decide) ?_
            refine X_iconst hK kd29_2.2.2.2.2.1 ?_
            refine X_iconst hK kd29_2.2.2.2.2.2.1 ?_
            refine X_callV hK [.int (iI 13), .int (iI 0), .int (iI 0)] [] lk_X7_129 (m_addStep _ _ _ _ _ S g168 a1 13 0 0 nt171 ws hs_a1 (by omega) (by omega) (by omega) (by omega) ent171 ((hg168 a1 11 0 7 hs_a1 (by decide)).trans ((xs_k hg166 (by decide)).trans ((hg122 a1 11 0 7 hs_a1 (by decide)).trans ((hg2 a1 11 0 7 hs_a1 (by decide)).trans ews)))) hs_ws) hs_a1 ⟨by decide, rfl⟩ kd29_2.2.2.2.2.2.2.1 rfl rfl (by simp [Value.category]) (by decide) (by decide) (by decide) (by decide) (fun r172 S174 g173 pr172 qr172 hg173 => ?_)
            obtain ⟨rfl, rfl, k175, k176, k177, k178⟩ := pr172
            refine X_st [] rfl ?_
            refine X_iinc hK (i := 3) (z := z121) (n := 1) 0 [(3, .int (iI (z121 + 1))), (0, .ref a0), (1, .ref a1), (2, .int (iI x2))] kd29_2.2.2.2.2.2.2.2.1 rfl (by decide) rfl ?_
            refine X_goto hK 8 kd29_2.2.2.2.2.2.2.2.2.1 (by decide) ?_
            exact ihP150  g173 (xM.tr (xM.tr (xM_up (xM.tr xM.rf xLe.rf hg122 (by decide)) hg166 hs_a0 (by decide) (by decide)) xLe.rf hg168 (by decide)) xLe.rf hg173 (by decide)) (z121 + 1) (by omega) (by omega) at171 (by omega) (by omega) ((hg173 a0 8 0 2 hs_a0 (by decide)).trans eat171) ot171 (by omega) (by omega) ((hg173 a0 8 0 3 hs_a0 (by decide)).trans eot171) Ft171 (by omega) (by omega) ((hg173 a0 8 0 5 hs_a0 (by decide)).trans eFt171) qt171 (by omega) (by omega) ((hg173 a0 8 0 6 hs_a0 (by decide)).trans eqt171) (if nt171 < 100 then nt171 + 1 else nt171) (by omega) (by omega) k175 ⟨Lt171 ++ [(13, 0, 0)], xIC.s (Or.inl ⟨rfl, rfl, rfl, (by rw [← k163]; omega)⟩) ij156 (by omega) kt171 (fun _ => rfl), fun h9 => by have h8 := xRC.b (by omega) kt171 h9; have h7 := (stt171 h9).1; have h6 := (sj156 (by omega)).1.1; have h5 := (sj156 (by omega)).2; exact ⟨(by have h9 := (xStq.add (x := (13, 0, 0)) (stt171 (by omega)) (by omega) (by have h4a := (k176.1 (by omega)).1; unfold xec9; (try dsimp only); omega) (k176.1 (by omega)).2); rw [if_pos (by omega)]; exact h9), by rw [if_pos (by omega)]; omega⟩⟩ (fun h9 => by have h8 := xRC.b (by omega) kt171 h9; omega) (by omega) (xFr.tr (xFr.tr (xFr.t v154 hg166 hs_a0 (by decide)) fst171) k177) (xFr.tr (xFr.tr (xFr.t v155 hg166 hs_a0 (by decide)) ftt171) k178) (by omega)
  exact P150 ((60 - 0 : Int).toNat + 1) g2 xM.rf 0 (by omega) (by omega) at5 (by omega) (by omega) eat5 ot5 (by omega) (by omega) eot5 Ft5 (by omega) (by omega) eFt5 qt5 (by omega) (by omega) eqt5 nt5 (by omega) (by omega) ent5 ⟨Lt5, xIC.z (Or.inl ⟨rfl, rfl⟩) kt5, fun h9 => ⟨stt5 h9, by have h8 := xRC.b (by omega) kt5 h9; have h7 := (stt5 h9).1; have h6 := hp3.1; omega⟩⟩ (fun h9 => by have h8 := xRC.b (by omega) kt5 h9; omega) (by omega) (xFr.tr xFr.rf fst5) (xFr.tr xFr.rf ftt5) (by omega)

set_option maxHeartbeats 4000000 in
set_option maxRecDepth 100000 in
theorem m_readCond_8 (l : Launch) (D : va_G) (kA : Nat → ClassId) (b0 : Nat) (t0 : Nat → Nat) (S : xT) (g : xG) (a0 : Nat) (a1 : Nat) (x2 : Int) (na : Int) (no : Int) (nf : Int) (nq : Int) (wt : Nat) (wp : Nat) (ns : Int) (ws : Nat) (tk : Int → Int) (tl : Int → Int) (cn : Int) (L : List xS3) (b : Int) (s0 : Int → Int) (hs_a0 : S a0 = some (8, 0)) (hs_a1 : S a1 = some (11, 0)) (hx2 : 8 ≤ x2 ∧ x2 ≤ 8) (hna : 0 ≤ na ∧ na ≤ 300) (ena : g a0 2 = .int (iI na)) (hno : 0 ≤ no ∧ no ≤ 50) (eno : g a0 3 = .int (iI no)) (hnf : 0 ≤ nf ∧ nf ≤ 0) (enf : g a0 5 = .int (iI nf)) (hnq : 0 ≤ nq ∧ nq ≤ 300) (enq : g a0 6 = .int (iI nq)) (ewt : g a0 0 = .ref wt) (hs_wt : S wt = some (12900, 301)) (ewp : g a0 1 = .ref wp) (hs_wp : S wp = some (13000, 301)) (hns : 0 ≤ ns ∧ ns ≤ 100) (ens : g a1 2 = .int (iI ns)) (ews : g a1 7 = .ref ws) (hs_ws : S ws = some (14000, 100)) (hp0 : xTB (xv g wt) (xv g wp) tk tl cn) (hp1 : na ≤ cn) (hp2 : cn ≤ 300) (hp3 : xStq (xv g ws) s0 b ns L) (hp4 : 0 ≤ b) (hp5 : ns ≤ 2 * no) : xMt l yX7_readCond cX7_readCond 4 none 12 0 0 278 D kA b0 t0 [(8, 5), (8, 6), (8, 3), (8, 2), (14000, 0), (11, 2)] [.ref a0, .ref a1, .int (iI x2)] S g (fun (r : Option Value) (S1 : xT) (g1 : xG) => S = S1 ∧ r = none ∧ (∃ F a o q n : Int, g1 a0 5 = .int (iI F) ∧ -2147483648 ≤ F ∧ F ≤ 2147483647 ∧ g1 a0 2 = .int (iI a) ∧ 0 ≤ a ∧ a ≤ cn ∧ g1 a0 3 = .int (iI o) ∧ 0 ≤ o ∧ o ≤ 50 ∧ g1 a0 6 = .int (iI q) ∧ 0 ≤ q ∧ q ≤ 300 ∧ g1 a1 2 = .int (iI n) ∧ 0 ≤ n ∧ n ≤ 100 ∧ ∃ L1 : List xS3, xRC tk tl 2 8 na no L F a o q L1 ∧ (F = 0 → xStq (xv g1 ws) s0 b n L1) ∧ xFr 14000 S g g1 ws ∧ xFr 11 S g g1 a1)) := by
  refine xEnterV (by decide) (by simp [lg_sl, Value.category]) [(0, .ref a0), (1, .ref a1), (2, .int (iI x2))] rfl ?_
  intro K E hK hret _ _ _
  refine X_aloadn hK (i := 0) 0 kd29_2.2.2.2.2.2.2.2.2.2.2.1 rfl rfl ?_
  refine X_aloadn hK (i := 1) 1 kd29_2.2.2.2.2.2.2.2.2.2.2.2 rfl rfl ?_
  refine X_iloadn hK (i := 2) 2 kd29_3.1 rfl rfl ?_
  refine X_callV hK [.ref a1, .int (iI x2)] [] lk_X7_126 (m_readAll_8 _ _ _ _ _ S g a0 a1 x2 na no nf nq wt wp ns ws tk tl cn L b s0 hs_a0 hs_a1 (by omega) (by omega) ena (by omega) eno (by omega) enf (by omega) enq ewt hs_wt ewp hs_wp (by omega) ens ews hs_ws hp0 (by omega) (by omega) hp3 (by omega) (by omega)) hs_a0 ⟨by decide, rfl⟩ kd29_3.2.1 rfl rfl (by simp [Value.category]) (by decide) (by decide) (by decide) (by decide) (fun r1 S3 g2 pr1 qr1 hg2 => ?_)
  obtain ⟨rfl, rfl, k4⟩ := pr1
  refine X_st [] rfl ?_
  obtain ⟨Ft5, at5, ot5, qt5, nt5, eFt5, lFt5, uFt5, eat5, lat5, uat5, eot5, lot5, uot5, eqt5, lqt5, uqt5, ent5, lnt5, unt5, Lt5, kt5, stt5, fst5, ftt5⟩ := k4
  have cat5 : at5 ≤ 300 := (by omega)
  refine X_iconst hK kd29_3.2.2.1 ?_
  refine X_istoren hK (i := 3) [(3, .int (iI 0)), (0, .ref a0), (1, .ref a1), (2, .int (iI x2))] kd29_3.2.2.2.1 rfl (by decide) rfl ?_
  have P150 : ∀ (nP150 : Nat) (g122 : xG) (_ : xM [(14000, 0), (11, 2), (8, 5), (8, 6), (8, 3), (8, 2)] S g2 g122) (z121 : Int) (_ : 0 ≤ z121) (_ : z121 ≤ 50) (q123 : Int) (_ : 0 ≤ q123) (_ : q123 ≤ 300) (_ : g122 a0 2 = .int (iI q123)) (q124 : Int) (_ : 0 ≤ q124) (_ : q124 ≤ 50) (_ : g122 a0 3 = .int (iI q124)) (q125 : Int) (_ : (-2147483648) ≤ q125) (_ : q125 ≤ 2147483647) (_ : g122 a0 5 = .int (iI q125)) (q126 : Int) (_ : 0 ≤ q126) (_ : q126 ≤ 300) (_ : g122 a0 6 = .int (iI q126)) (q127 : Int) (_ : 0 ≤ q127) (_ : q127 ≤ 100) (_ : g122 a1 2 = .int (iI q127)) (_ : ∃ Li : List xS3, xIC tk tl 2 8 na no L q125 q123 q124 q126 Li ∧ (q125 = 0 → xStq (xv g122 ws) s0 b q127 Li ∧ q127 ≤ 2 * q124 - 1)) (_ : q125 = 0 → no + 1 + z121 ≤ q124) (_ : q123 ≤ cn) (_ : xFr 14000 S g g122 ws) (_ : xFr 11 S g g122 a1) (_ : 60 - z121 < (nP150 : Int)), X K E 8 [(3, .int (iI z121)), (0, .ref a0), (1, .ref a1), (2, .int (iI x2))] [] S g122 0 0 := by
    intro nP150
    induction nP150 with
    | zero => intro g122 hg122 z121 lz121 uz121 q123 lq123 uq123 eq123 q124 lq124 uq124 eq124 q125 lq125 uq125 eq125 q126 lq126 uq126 eq126 q127 lq127 uq127 eq127 v151 v152 v153 v154 v155 mP150; exact False.elim (by omega)
    | succ nP150 ihP150 =>
      intro g122 hg122 z121 lz121 uz121 q123 lq123 uq123 eq123 q124 lq124 uq124 eq124 q125 lq125 uq125 eq125 q126 lq126 uq126 eq126 q127 lq127 uq127 eq127 v151 v152 v153 v154 v155 mP150
      refine X_iloadn hK (i := 3) 0 kd29_3.2.2.2.2.1 rfl rfl ?_
      obtain ⟨Lij156, ij156, sj156⟩ := id v151
      have ivj156 : q125 = 0 → _ := fun h9 => (sj156 h9).1
      have nbj156 : q125 = 0 → q127 ≤ 2 * q124 - 1 := fun h9 => (sj156 h9).2
      refine X_bipush hK kd29_3.2.2.2.2.2.1 (by decide) ?_
      refine X_icmp_ge hK 60 (by omega) (by omega) kd29_3.2.2.2.2.2.2.1 (by decide) (fun c157 => ?_) (fun c157 => ?_)
      · exact hret _ _ _ _ _ _ kd29_5.2.2.2.2.2.2.2.1 ⟨rfl, rfl, ⟨q125, q123, q124, q126, q127, eq125, by omega, by omega, eq123, by omega, by omega, eq124, by omega, by omega, eq126, by omega, by omega, eq127, by omega, by omega, Lij156, (xIC.e ij156 (fun h9 => False.elim (by have h8 := v152 h9; omega))), (fun h9 => (sj156 h9).1), v154, v155⟩⟩ (Nat.le_refl _) (Nat.le_refl _)
      · refine X_aloadn hK (i := 0) 1 kd29_3.2.2.2.2.2.2.2.1 rfl rfl ?_
        refine X_getK hK fl_X7_29_8 hs_a0 eq125 kd29_3.2.2.2.2.2.2.2.2.1 ?_
        refine X_if_ne hK 60 (by omega) kd29_3.2.2.2.2.2.2.2.2.2.1 (by decide) (fun c158 => ?_) (fun c158 => ?_)
        · exact hret _ _ _ _ _ _ kd29_5.2.2.2.2.2.2.2.1 ⟨rfl, rfl, ⟨q125, q123, q124, q126, q127, eq125, by omega, by omega, eq123, by omega, by omega, eq124, by omega, by omega, eq126, by omega, by omega, eq127, by omega, by omega, Lij156, (xIC.e ij156 (fun h9 => False.elim (by have h8 := v152 h9; omega))), (fun h9 => (sj156 h9).1), v154, v155⟩⟩ (Nat.le_refl _) (Nat.le_refl _)
        · refine X_aloadn hK (i := 0) 1 kd29_3.2.2.2.2.2.2.2.2.2.2.1 rfl rfl ?_
          refine X_callV hK [] [] lk_X7_47 (c3_now _ _ _ _ _ S g122 a0 q123 wt wp tk tl cn hs_a0 (by omega) eq123 ((hg122 a0 8 0 0 hs_a0 (by decide)).trans ((hg2 a0 8 0 0 hs_a0 (by decide)).trans ewt)) hs_wt ((hg122 a0 8 0 1 hs_a0 (by decide)).trans ((hg2 a0 8 0 1 hs_a0 (by decide)).trans ewp)) hs_wp (by rw [(Eq.trans (xv_m hg122 hs_wt (by decide) (by decide)) (xv_m hg2 hs_wt (by decide) (by decide))), (Eq.trans (xv_m hg122 hs_wp (by decide) (by decide)) (xv_m hg2 hs_wp (by decide) (by decide)))]; exact hp0) (by omega) (by omega)) hs_a0 ⟨by decide, rfl⟩ kd29_3.2.2.2.2.2.2.2.2.2.2.2 rfl rfl (by simp [Value.category]) (by decide) (by decide) (by decide) (by decide) (fun r159 S161 g160 pr159 qr159 hg160 => ?_)
          obtain ⟨rfl, rfl, z162, rfl, lz162, uz162, k163⟩ := pr159
          refine X_st [.int (iI z162)] rfl ?_
          refine X_bipush hK kd29_4.1 (by decide) ?_
          refine X_icmp_ne hK 60 (by omega) (by omega) kd29_4.2.1 (by decide) (fun c164 => ?_) (fun c164 => ?_)
          · exact hret _ _ _ _ _ _ kd29_5.2.2.2.2.2.2.2.1 ⟨rfl, rfl, ⟨q125, q123, q124, q126, q127, eq125, by omega, by omega, eq123, by omega, by omega, eq124, by omega, by omega, eq126, by omega, by omega, eq127, by omega, by omega, Lij156, (xIC.e ij156 (fun h9 => Or.inr ⟨rfl, by rw [← k163]; omega⟩)), (fun h9 => (sj156 h9).1), v154, v155⟩⟩ (Nat.le_refl _) (Nat.le_refl _)
          · refine X_aloadn hK (i := 0) 1 kd29_4.2.2.1 rfl rfl ?_
            refine X_dup hK kd29_4.2.2.2.1 rfl ?_
            have hl165 := xTB.lt (A := xv g122 wt) (B := xv g122 wp) (tk := tk) (tl := tl) (c := cn) (a := q123) (by rw [(Eq.trans (xv_m hg122 hs_wt (by decide) (by decide)) (xv_m hg2 hs_wt (by decide) (by decide))), (Eq.trans (xv_m hg122 hs_wp (by decide) (by decide)) (xv_m hg2 hs_wp (by decide) (by decide)))]; exact hp0) (by omega) (by rw [← k163]; omega)
            refine X_getK hK fl_X7_18_8 hs_a0 eq123 kd29_4.2.2.2.2.1 ?_
            refine X_iconst hK kd29_4.2.2.2.2.2.1 ?_
            refine X_iadd hK kd29_4.2.2.2.2.2.2.1 ?_
            refine X_puti hK fl_X7_18_8 hs_a0 (by decide) sl_8_2 (by omega) (by omega) kd29_4.2.2.2.2.2.2.2.1 (fun g166 hg166 => ?_)
            refine X_aloadn hK (i := 0) 1 kd29_4.2.2.2.2.2.2.2.2.1 rfl rfl ?_
            refine X_aloadn hK (i := 1) 2 kd29_4.2.2.2.2.2.2.2.2.2.1 rfl rfl ?_
            refine X_iloadn hK (i := 2) 3 kd29_4.2.2.2.2.2.2.2.2.2.2.1 rfl rfl ?_
            refine X_callV hK [.ref a1, .int (iI x2)] [] lk_X7_126 (m_readAll_8 _ _ _ _ _ S g166 a0 a1 x2 (q123 + 1) q124 q125 q126 wt wp q127 ws tk tl cn Lij156 b s0 hs_a0 hs_a1 (by omega) (by omega) (xs_s hg166) (by omega) ((xs_k hg166 (by decide)).trans eq124) (by omega) ((xs_k hg166 (by decide)).trans eq125) (by omega) ((xs_k hg166 (by decide)).trans eq126) ((xs_k hg166 (by decide)).trans ((hg122 a0 8 0 0 hs_a0 (by decide)).trans ((hg2 a0 8 0 0 hs_a0 (by decide)).trans ewt))) hs_wt ((xs_k hg166 (by decide)).trans ((hg122 a0 8 0 1 hs_a0 (by decide)).trans ((hg2 a0 8 0 1 hs_a0 (by decide)).trans ewp))) hs_wp (by omega) ((xs_a hg166 (xne hs_a1 hs_a0 (by decide))).trans eq127) ((xs_k hg166 (by decide)).trans ((hg122 a1 11 0 7 hs_a1 (by decide)).trans ((hg2 a1 11 0 7 hs_a1 (by decide)).trans ews))) hs_ws (by rw [(Eq.trans (Eq.trans (xv_a hg166 (xne hs_wt hs_a0 (by decide))) (xv_m hg122 hs_wt (by decide) (by decide))) (xv_m hg2 hs_wt (by decide) (by decide))), (Eq.trans (Eq.trans (xv_a hg166 (xne hs_wp hs_a0 (by decide))) (xv_m hg122 hs_wp (by decide) (by decide))) (xv_m hg2 hs_wp (by decide) (by decide)))]; exact hp0) (by omega) (by omega) (by rw [(xv_a hg166 (xne hs_ws hs_a0 (by decide)))]; exact (ivj156 (by omega))) (by omega) (by omega)) hs_a0 ⟨by decide, rfl⟩ kd29_4.2.2.2.2.2.2.2.2.2.2.2 rfl rfl (by simp [Value.category]) (by decide) (by decide) (by decide) (by decide) (fun r167 S169 g168 pr167 qr167 hg168 => ?_)
            obtain ⟨rfl, rfl, k170⟩ := pr167
            refine X_st [] rfl ?_
            obtain ⟨Ft171, at171, ot171, qt171, nt171, eFt171, lFt171, uFt171, eat171, lat171, uat171, eot171, lot171, uot171, eqt171, lqt171, uqt171, ent171, lnt171, unt171, Lt171, kt171, stt171, fst171, ftt171⟩ := k170
            have cat171 : at171 ≤ 300 := (by omega)
            refine X_aloadn hK (i := 1) 2 kd29_5.1 rfl rfl ?_
            refine X_bipush hK kd29_5.2.1 (by decide) ?_
            refine X_iconst hK kd29_5.2.2.1 ?_
            refine X_iconst hK kd29_5.2.2.2.1 ?_
            refine X_callV hK [.int (iI 14), .int (iI 0), .int (iI 0)] [] lk_X7_129 (m_addStep _ _ _ _ _ S g168 a1 14 0 0 nt171 ws hs_a1 (by omega) (by omega) (by omega) (by omega) ent171 ((hg168 a1 11 0 7 hs_a1 (by decide)).trans ((xs_k hg166 (by decide)).trans ((hg122 a1 11 0 7 hs_a1 (by decide)).trans ((hg2 a1 11 0 7 hs_a1 (by decide)).trans ews)))) hs_ws) hs_a1 ⟨by decide, rfl⟩ kd29_5.2.2.2.2.1 rfl rfl (by simp [Value.category]) (by decide) (by decide) (by decide) (by decide) (fun r172 S174 g173 pr172 qr172 hg173 => ?_)
            obtain ⟨rfl, rfl, k175, k176, k177, k178⟩ := pr172
            refine X_st [] rfl ?_
            refine X_iinc hK (i := 3) (z := z121) (n := 1) 0 [(3, .int (iI (z121 + 1))), (0, .ref a0), (1, .ref a1), (2, .int (iI x2))] kd29_5.2.2.2.2.2.1 rfl (by decide) rfl ?_
            refine X_goto hK 8 kd29_5.2.2.2.2.2.2.1 (by decide) ?_
            exact ihP150  g173 (xM.tr (xM.tr (xM_up (xM.tr xM.rf xLe.rf hg122 (by decide)) hg166 hs_a0 (by decide) (by decide)) xLe.rf hg168 (by decide)) xLe.rf hg173 (by decide)) (z121 + 1) (by omega) (by omega) at171 (by omega) (by omega) ((hg173 a0 8 0 2 hs_a0 (by decide)).trans eat171) ot171 (by omega) (by omega) ((hg173 a0 8 0 3 hs_a0 (by decide)).trans eot171) Ft171 (by omega) (by omega) ((hg173 a0 8 0 5 hs_a0 (by decide)).trans eFt171) qt171 (by omega) (by omega) ((hg173 a0 8 0 6 hs_a0 (by decide)).trans eqt171) (if nt171 < 100 then nt171 + 1 else nt171) (by omega) (by omega) k175 ⟨Lt171 ++ [(14, 0, 0)], xIC.s (Or.inr ⟨rfl, rfl, rfl, (by rw [← k163]; omega)⟩) ij156 (by omega) kt171 (fun _ => rfl), fun h9 => by have h8 := xRC.b (by omega) kt171 h9; have h7 := (stt171 h9).1; have h6 := (sj156 (by omega)).1.1; have h5 := (sj156 (by omega)).2; exact ⟨(by have h9 := (xStq.add (x := (14, 0, 0)) (stt171 (by omega)) (by omega) (by have h4a := (k176.1 (by omega)).1; unfold xec9; (try dsimp only); omega) (k176.1 (by omega)).2); rw [if_pos (by omega)]; exact h9), by rw [if_pos (by omega)]; omega⟩⟩ (fun h9 => by have h8 := xRC.b (by omega) kt171 h9; omega) (by omega) (xFr.tr (xFr.tr (xFr.t v154 hg166 hs_a0 (by decide)) fst171) k177) (xFr.tr (xFr.tr (xFr.t v155 hg166 hs_a0 (by decide)) ftt171) k178) (by omega)
  exact P150 ((60 - 0 : Int).toNat + 1) g2 xM.rf 0 (by omega) (by omega) at5 (by omega) (by omega) eat5 ot5 (by omega) (by omega) eot5 Ft5 (by omega) (by omega) eFt5 qt5 (by omega) (by omega) eqt5 nt5 (by omega) (by omega) ent5 ⟨Lt5, xIC.z (Or.inr ⟨rfl, rfl⟩) kt5, fun h9 => ⟨stt5 h9, by have h8 := xRC.b (by omega) kt5 h9; have h7 := (stt5 h9).1; have h6 := hp3.1; omega⟩⟩ (fun h9 => by have h8 := xRC.b (by omega) kt5 h9; omega) (by omega) (xFr.tr xFr.rf fst5) (xFr.tr xFr.rf ftt5) (by omega)

set_option maxHeartbeats 4000000 in
set_option maxRecDepth 100000 in
theorem m_readOne_7 (l : Launch) (D : va_G) (kA : Nat → ClassId) (b0 : Nat) (t0 : Nat → Nat) (S : xT) (g : xG) (a0 : Nat) (a1 : Nat) (x2 : Int) (na : Int) (no : Int) (nf : Int) (nq : Int) (wt : Nat) (wp : Nat) (ns : Int) (ws : Nat) (tk : Int → Int) (tl : Int → Int) (cn : Int) (L : List xS3) (b : Int) (s0 : Int → Int) (hs_a0 : S a0 = some (8, 0)) (hs_a1 : S a1 = some (11, 0)) (hx2 : 7 ≤ x2 ∧ x2 ≤ 7) (hna : 0 ≤ na ∧ na ≤ 300) (ena : g a0 2 = .int (iI na)) (hno : 0 ≤ no ∧ no ≤ 50) (eno : g a0 3 = .int (iI no)) (hnf : 0 ≤ nf ∧ nf ≤ 0) (enf : g a0 5 = .int (iI nf)) (hnq : 0 ≤ nq ∧ nq ≤ 300) (enq : g a0 6 = .int (iI nq)) (ewt : g a0 0 = .ref wt) (hs_wt : S wt = some (12900, 301)) (ewp : g a0 1 = .ref wp) (hs_wp : S wp = some (13000, 301)) (hns : 0 ≤ ns ∧ ns ≤ 100) (ens : g a1 2 = .int (iI ns)) (ews : g a1 7 = .ref ws) (hs_ws : S ws = some (14000, 100)) (hp0 : xTB (xv g wt) (xv g wp) tk tl cn) (hp1 : na ≤ cn) (hp2 : cn ≤ 300) (hp3 : xStq (xv g ws) s0 b ns L) (hp4 : 0 ≤ b) (hp5 : ns ≤ 2 * no) : xMt l yX7_readOne cX7_readOne 5 none 13 0 0 301 D kA b0 t0 [(8, 5), (8, 6), (8, 3), (8, 2), (14000, 0), (11, 2)] [.ref a0, .ref a1, .int (iI x2)] S g (fun (r : Option Value) (S1 : xT) (g1 : xG) => S = S1 ∧ r = none ∧ (∃ F a o q n : Int, g1 a0 5 = .int (iI F) ∧ -2147483648 ≤ F ∧ F ≤ 2147483647 ∧ g1 a0 2 = .int (iI a) ∧ 0 ≤ a ∧ a ≤ cn ∧ g1 a0 3 = .int (iI o) ∧ 0 ≤ o ∧ o ≤ 50 ∧ g1 a0 6 = .int (iI q) ∧ 0 ≤ q ∧ q ≤ 300 ∧ g1 a1 2 = .int (iI n) ∧ 0 ≤ n ∧ n ≤ 100 ∧ ∃ L1 : List xS3, xRC tk tl 0 7 na no L F a o q L1 ∧ (F = 0 → xStq (xv g1 ws) s0 b n L1) ∧ xFr 14000 S g g1 ws ∧ xFr 11 S g g1 a1)) := by
  refine xEnterV (by decide) (by simp [lg_sl, Value.category]) [(0, .ref a0), (1, .ref a1), (2, .int (iI x2))] rfl ?_
  intro K E hK hret _ _ _
  refine X_aloadn hK (i := 0) 0 kd29_20.2.2.2.2.2.2.1 rfl rfl ?_
  refine X_callV hK [] [] lk_X7_47 (c3_now _ _ _ _ _ S g a0 na wt wp tk tl cn hs_a0 (by omega) ena ewt hs_wt ewp hs_wp hp0 (by omega) (by omega)) hs_a0 ⟨by decide, rfl⟩ kd29_20.2.2.2.2.2.2.2.1 rfl rfl (by simp [Value.category]) (by decide) (by decide) (by decide) (by decide) (fun r1 S3 g2 pr1 qr1 hg2 => ?_)
  obtain ⟨rfl, rfl, z4, rfl, lz4, uz4, k5⟩ := pr1
  refine X_st [.int (iI z4)] rfl ?_
  refine X_istoren hK (i := 3) [(3, .int (iI z4)), (0, .ref a0), (1, .ref a1), (2, .int (iI x2))] kd29_20.2.2.2.2.2.2.2.2.1 rfl (by decide) rfl ?_
  refine X_iloadn hK (i := 3) 0 kd29_20.2.2.2.2.2.2.2.2.2.1 rfl rfl ?_
  refine X_bipush hK kd29_20.2.2.2.2.2.2.2.2.2.2.1 (by decide) ?_
  refine X_icmp_lt hK 21 (by omega) (by omega) kd29_20.2.2.2.2.2.2.2.2.2.2.2 (by decide) (fun c6 => ?_) (fun c6 => ?_)
  · refine X_iconst hK kd29_21.2.2.2.2.2.1 ?_
    refine X_istore hK (i := 4) [(4, .int (iI 0)), (3, .int (iI z4)), (0, .ref a0), (1, .ref a1), (2, .int (iI x2))] kd29_21.2.2.2.2.2.2.1 (by decide) rfl ?_
    refine X_iload hK (i := 4) 0 kd29_21.2.2.2.2.2.2.2.1 rfl ?_
    refine X_if_ne hK 49 (by omega) kd29_21.2.2.2.2.2.2.2.2.1 (by decide) (fun c7 => False.elim (by omega)) (fun c7 => ?_)
    refine X_iloadn hK (i := 3) 1 kd29_21.2.2.2.2.2.2.2.2.2.1 rfl rfl ?_
    refine X_bipush hK kd29_21.2.2.2.2.2.2.2.2.2.2.1 (by decide) ?_
    refine X_icmp_eq hK 49 (by omega) (by omega) kd29_21.2.2.2.2.2.2.2.2.2.2.2 (by decide) (fun c8 => ?_) (fun c8 => ?_)
    · refine X_aloadn hK (i := 0) 2 kd29_22.2.2.2.2.2.2.2.1 rfl rfl ?_
      refine X_getK hK fl_X7_22_8 hs_a0 eno kd29_22.2.2.2.2.2.2.2.2.1 ?_
      refine X_bipush hK kd29_22.2.2.2.2.2.2.2.2.2.1 (by decide) ?_
      refine X_icmp_ge hK 64 (by omega) (by omega) kd29_22.2.2.2.2.2.2.2.2.2.2.1 (by decide) (fun c9 => ?_) (fun c9 => ?_)
      · refine X_aloadn hK (i := 0) 2 kd29_23.2.2.1 rfl rfl ?_
        refine X_iconst hK kd29_23.2.2.2.1 ?_
        refine X_callV hK [.int (iI 4)] [] lk_X7_60 (c3_tell _ _ _ _ _ S g a0 4 na no nf nq wt wp tk tl cn hs_a0 (by omega) (by omega) ena (by omega) eno (by omega) enf (by omega) enq ewt hs_wt ewp hs_wp hp0 (by omega) (by omega)) hs_a0 ⟨by decide, rfl⟩ kd29_23.2.2.2.2.1 rfl rfl (by simp [Value.category]) (by decide) (by decide) (by decide) (by decide) (fun r10 S12 g11 pr10 qr10 hg11 => ?_)
        obtain ⟨rfl, rfl, k13⟩ := pr10
        refine X_st [] rfl ?_
        obtain ⟨Ft14, at14, ot14, qt14, eFt14, lFt14, uFt14, eat14, lat14, uat14, eot14, lot14, uot14, eqt14, lqt14, uqt14, kt14⟩ := k13
        have cat14 : at14 ≤ 300 := by have h9 := (show xTB (xv g11 wt) (xv g11 wp) tk tl cn from (by rw [(xv_m hg11 hs_wt (by decide) (by decide)), (xv_m hg11 hs_wp (by decide) (by decide))]; exact hp0)).2.2.2; omega
        refine X_goto hK 148 kd29_23.2.2.2.2.2.1 (by decide) ?_
        exact hret _ _ _ _ _ _ kd29_27.2.2.2 ⟨rfl, rfl, ⟨Ft14, at14, ot14, qt14, ns, eFt14, by omega, by omega, eat14, by omega, by omega, eot14, by omega, by omega, eqt14, by omega, by omega, ((hg11 a1 11 0 2 hs_a1 (by decide)).trans ens), by omega, by omega, [], (by obtain ⟨h8, h7, h6⟩ := kt14; have h5 := h8.resolve_left (fun q9 => by omega); rw [h5.2.1]; exact xRC.f4 (by rw [← k5]; omega) (by omega) h5.2.2), (fun h9 => by have h8 := kt14; omega), (xFr.m xFr.rf hg11 (by decide)), (xFr.m xFr.rf hg11 (by decide))⟩⟩ (Nat.le_refl _) (Nat.le_refl _)
      · refine X_iloadn hK (i := 2) 4 kd29_22.2.2.2.2.2.2.2.2.2.2.2 rfl rfl ?_
        refine X_bipush hK kd29_23.1 (by decide) ?_
        refine X_icmp_le hK 72 (by omega) (by omega) kd29_23.2.1 (by decide) (fun c15 => ?_) (fun c15 => False.elim (by omega))
        refine X_aloadn hK (i := 0) 2 kd29_23.2.2.2.2.2.2.1 rfl rfl ?_
        refine X_dup hK kd29_23.2.2.2.2.2.2.2.1 rfl ?_
        refine X_getK hK fl_X7_22_8 hs_a0 eno kd29_23.2.2.2.2.2.2.2.2.1 ?_
        refine X_iconst hK kd29_23.2.2.2.2.2.2.2.2.2.1 ?_
        refine X_iadd hK kd29_23.2.2.2.2.2.2.2.2.2.2.1 ?_
        refine X_puti hK fl_X7_22_8 hs_a0 (by decide) sl_8_3 (by omega) (by omega) kd29_23.2.2.2.2.2.2.2.2.2.2.2 (fun g16 hg16 => ?_)
        refine X_aloadn hK (i := 0) 2 kd29_24.1 rfl rfl ?_
        refine X_dup hK kd29_24.2.1 rfl ?_
        have hl17 := xTB.lt (A := xv g16 wt) (B := xv g16 wp) (tk := tk) (tl := tl) (c := cn) (a := na) (by rw [(xv_a hg16 (xne hs_wt hs_a0 (by decide))), (xv_a hg16 (xne hs_wp hs_a0 (by decide)))]; exact hp0) (by omega) (by rw [← k5]; omega)
        refine X_getK hK fl_X7_18_8 hs_a0 ((xs_k hg16 (by decide)).trans ena) kd29_24.2.2.1 ?_
        refine X_iconst hK kd29_24.2.2.2.1 ?_
        refine X_iadd hK kd29_24.2.2.2.2.1 ?_
        refine X_puti hK fl_X7_18_8 hs_a0 (by decide) sl_8_2 (by omega) (by omega) kd29_24.2.2.2.2.2.1 (fun g18 hg18 => ?_)
        refine X_iload hK (i := 4) 0 kd29_24.2.2.2.2.2.2.1 rfl ?_
        refine X_if_eq hK 109 (by omega) kd29_24.2.2.2.2.2.2.2.1 (by decide) (fun c19 => ?_) (fun c19 => False.elim (by omega))
        refine X_iloadn hK (i := 3) 1 kd29_25.2.2.2.1 rfl rfl ?_
        refine X_bipush hK kd29_25.2.2.2.2.1 (by decide) ?_
        refine X_icmp_ne hK 132 (by omega) (by omega) kd29_25.2.2.2.2.2.1 (by decide) (fun c20 => ?_) (fun c20 => False.elim (by omega))
        refine X_aloadn hK (i := 0) 2 kd29_26.2.2.2.2.1 rfl rfl ?_
        refine X_aloadn hK (i := 1) 3 kd29_26.2.2.2.2.2.1 rfl rfl ?_
        refine X_iloadn hK (i := 2) 4 kd29_26.2.2.2.2.2.2.1 rfl rfl ?_
        refine X_iconst hK kd29_26.2.2.2.2.2.2.2.1 ?_
        refine X_iadd hK kd29_26.2.2.2.2.2.2.2.2.1 ?_
        refine X_callV hK [.ref a1, .int (iI (x2 + 1))] [] lk_X7_132 (m_readOne_8 _ _ _ _ _ S g18 a0 a1 (x2 + 1) (na + 1) (no + 1) nf nq wt wp ns ws tk tl cn L b s0 hs_a0 hs_a1 (by omega) (by omega) (xs_s hg18) (by omega) ((xs_k hg18 (by decide)).trans (xs_s hg16)) (by omega) ((xs_k hg18 (by decide)).trans ((xs_k hg16 (by decide)).trans enf)) (by omega) ((xs_k hg18 (by decide)).trans ((xs_k hg16 (by decide)).trans enq)) ((xs_k hg18 (by decide)).trans ((xs_k hg16 (by decide)).trans ewt)) hs_wt ((xs_k hg18 (by decide)).trans ((xs_k hg16 (by decide)).trans ewp)) hs_wp (by omega) ((xs_a hg18 (xne hs_a1 hs_a0 (by decide))).trans ((xs_k hg16 (by decide)).trans ens)) ((xs_k hg18 (by decide)).trans ((xs_k hg16 (by decide)).trans ews)) hs_ws (by rw [(Eq.trans (xv_a hg18 (xne hs_wt hs_a0 (by decide))) (xv_a hg16 (xne hs_wt hs_a0 (by decide)))), (Eq.trans (xv_a hg18 (xne hs_wp hs_a0 (by decide))) (xv_a hg16 (xne hs_wp hs_a0 (by decide))))]; exact hp0) (by omega) (by omega) (by rw [(Eq.trans (xv_a hg18 (xne hs_ws hs_a0 (by decide))) (xv_a hg16 (xne hs_ws hs_a0 (by decide))))]; exact hp3) (by omega) (by omega)) hs_a0 ⟨by decide, rfl⟩ kd29_26.2.2.2.2.2.2.2.2.2.1 rfl rfl (by simp [Value.category]) (by decide) (by decide) (by decide) (by decide) (fun r21 S23 g22 pr21 qr21 hg22 => ?_)
        obtain ⟨rfl, rfl, k24⟩ := pr21
        refine X_st [] rfl ?_
        obtain ⟨Ft25, at25, ot25, qt25, nt25, eFt25, lFt25, uFt25, eat25, lat25, uat25, eot25, lot25, uot25, eqt25, lqt25, uqt25, ent25, lnt25, unt25, Lt25, kt25, stt25, fst25, ftt25⟩ := k24
        have cat25 : at25 ≤ 300 := (by omega)
        refine X_aloadn hK (i := 1) 3 kd29_26.2.2.2.2.2.2.2.2.2.2.1 rfl rfl ?_
        refine X_bipush hK kd29_26.2.2.2.2.2.2.2.2.2.2.2 (by decide) ?_
        refine X_iconst hK kd29_27.1 ?_
        refine X_iconst hK kd29_27.2.1 ?_
        refine X_callV hK [.int (iI 12), .int (iI 0), .int (iI 0)] [] lk_X7_129 (m_addStep _ _ _ _ _ S g22 a1 12 0 0 nt25 ws hs_a1 (by omega) (by omega) (by omega) (by omega) ent25 ((hg22 a1 11 0 7 hs_a1 (by decide)).trans ((xs_k hg18 (by decide)).trans ((xs_k hg16 (by decide)).trans ews))) hs_ws) hs_a1 ⟨by decide, rfl⟩ kd29_27.2.2.1 rfl rfl (by simp [Value.category]) (by decide) (by decide) (by decide) (by decide) (fun r26 S28 g27 pr26 qr26 hg27 => ?_)
        obtain ⟨rfl, rfl, k29, k30, k31, k32⟩ := pr26
        refine X_st [] rfl ?_
        exact hret _ _ _ _ _ _ kd29_27.2.2.2 ⟨rfl, rfl, ⟨Ft25, at25, ot25, qt25, (if nt25 < 100 then nt25 + 1 else nt25), ((hg27 a0 8 0 5 hs_a0 (by decide)).trans eFt25), by omega, by omega, ((hg27 a0 8 0 2 hs_a0 (by decide)).trans eat25), by omega, by omega, ((hg27 a0 8 0 3 hs_a0 (by decide)).trans eot25), by omega, by omega, ((hg27 a0 8 0 6 hs_a0 (by decide)).trans eqt25), by omega, by omega, k29, by omega, by omega, (Lt25 ++ [(12, 0, 0)]), (xRC.nt (by rw [← k5]; omega) (by omega) kt25 (fun _ => rfl)), (fun h9 => by have h6 := xRC.b (by omega) kt25 h9; have h5 := (stt25 h9).1; have h4 := hp3.1; exact (by have h9 := (xStq.add (x := (12, 0, 0)) (stt25 (by omega)) (by omega) (by have h4a := (k30.1 (by omega)).1; unfold xec9; (try dsimp only); omega) (k30.1 (by omega)).2); rw [if_pos (by omega)]; exact h9)), (xFr.tr (xFr.tr (xFr.t (xFr.t xFr.rf hg16 hs_a0 (by decide)) hg18 hs_a0 (by decide)) fst25) k31), (xFr.tr (xFr.tr (xFr.t (xFr.t xFr.rf hg16 hs_a0 (by decide)) hg18 hs_a0 (by decide)) ftt25) k32)⟩⟩ (Nat.le_refl _) (Nat.le_refl _)
    · refine X_iloadn hK (i := 3) 1 kd29_22.1 rfl rfl ?_
      refine X_bipush hK kd29_22.2.1 (by decide) ?_
      refine X_icmp_eq hK 49 (by omega) (by omega) kd29_22.2.2.1 (by decide) (fun c33 => False.elim (by omega)) (fun c33 => ?_)
      refine X_aloadn hK (i := 0) 2 kd29_22.2.2.2.1 rfl rfl ?_
      refine X_iconst hK kd29_22.2.2.2.2.1 ?_
      refine X_callV hK [.int (iI 1)] [] lk_X7_60 (c3_tell _ _ _ _ _ S g a0 1 na no nf nq wt wp tk tl cn hs_a0 (by omega) (by omega) ena (by omega) eno (by omega) enf (by omega) enq ewt hs_wt ewp hs_wp hp0 (by omega) (by omega)) hs_a0 ⟨by decide, rfl⟩ kd29_22.2.2.2.2.2.1 rfl rfl (by simp [Value.category]) (by decide) (by decide) (by decide) (by decide) (fun r34 S36 g35 pr34 qr34 hg35 => ?_)
      obtain ⟨rfl, rfl, k37⟩ := pr34
      refine X_st [] rfl ?_
      obtain ⟨Ft38, at38, ot38, qt38, eFt38, lFt38, uFt38, eat38, lat38, uat38, eot38, lot38, uot38, eqt38, lqt38, uqt38, kt38⟩ := k37
      have cat38 : at38 ≤ 300 := by have h9 := (show xTB (xv g35 wt) (xv g35 wp) tk tl cn from (by rw [(xv_m hg35 hs_wt (by decide) (by decide)), (xv_m hg35 hs_wp (by decide) (by decide))]; exact hp0)).2.2.2; omega
      refine X_goto hK 148 kd29_22.2.2.2.2.2.2.1 (by decide) ?_
      exact hret _ _ _ _ _ _ kd29_27.2.2.2 ⟨rfl, rfl, ⟨Ft38, at38, ot38, qt38, ns, eFt38, by omega, by omega, eat38, by omega, by omega, eot38, by omega, by omega, eqt38, by omega, by omega, ((hg35 a1 11 0 2 hs_a1 (by decide)).trans ens), by omega, by omega, [], (by obtain ⟨h8, h7, h6⟩ := kt38; have h5 := h8.resolve_left (fun q9 => by omega); rw [h5.2.1]; exact xRC.f1 (by rw [← k5]; omega) h5.2.2), (fun h9 => by have h8 := kt38; omega), (xFr.m xFr.rf hg35 (by decide)), (xFr.m xFr.rf hg35 (by decide))⟩⟩ (Nat.le_refl _) (Nat.le_refl _)
  · refine X_iloadn hK (i := 3) 0 kd29_21.1 rfl rfl ?_
    refine X_bipush hK kd29_21.2.1 (by decide) ?_
    refine X_icmp_ge hK 21 (by omega) (by omega) kd29_21.2.2.1 (by decide) (fun c39 => ?_) (fun c39 => ?_)
    · refine X_iconst hK kd29_21.2.2.2.2.2.1 ?_
      refine X_istore hK (i := 4) [(4, .int (iI 0)), (3, .int (iI z4)), (0, .ref a0), (1, .ref a1), (2, .int (iI x2))] kd29_21.2.2.2.2.2.2.1 (by decide) rfl ?_
      refine X_iload hK (i := 4) 0 kd29_21.2.2.2.2.2.2.2.1 rfl ?_
      refine X_if_ne hK 49 (by omega) kd29_21.2.2.2.2.2.2.2.2.1 (by decide) (fun c40 => False.elim (by omega)) (fun c40 => ?_)
      refine X_iloadn hK (i := 3) 1 kd29_21.2.2.2.2.2.2.2.2.2.1 rfl rfl ?_
      refine X_bipush hK kd29_21.2.2.2.2.2.2.2.2.2.2.1 (by decide) ?_
      refine X_icmp_eq hK 49 (by omega) (by omega) kd29_21.2.2.2.2.2.2.2.2.2.2.2 (by decide) (fun c41 => False.elim (by omega)) (fun c41 => ?_)
      refine X_iloadn hK (i := 3) 1 kd29_22.1 rfl rfl ?_
      refine X_bipush hK kd29_22.2.1 (by decide) ?_
      refine X_icmp_eq hK 49 (by omega) (by omega) kd29_22.2.2.1 (by decide) (fun c42 => ?_) (fun c42 => ?_)
      · refine X_aloadn hK (i := 0) 2 kd29_22.2.2.2.2.2.2.2.1 rfl rfl ?_
        refine X_getK hK fl_X7_22_8 hs_a0 eno kd29_22.2.2.2.2.2.2.2.2.1 ?_
        refine X_bipush hK kd29_22.2.2.2.2.2.2.2.2.2.1 (by decide) ?_
        refine X_icmp_ge hK 64 (by omega) (by omega) kd29_22.2.2.2.2.2.2.2.2.2.2.1 (by decide) (fun c43 => ?_) (fun c43 => ?_)
        · refine X_aloadn hK (i := 0) 2 kd29_23.2.2.1 rfl rfl ?_
          refine X_iconst hK kd29_23.2.2.2.1 ?_
          refine X_callV hK [.int (iI 4)] [] lk_X7_60 (c3_tell _ _ _ _ _ S g a0 4 na no nf nq wt wp tk tl cn hs_a0 (by omega) (by omega) ena (by omega) eno (by omega) enf (by omega) enq ewt hs_wt ewp hs_wp hp0 (by omega) (by omega)) hs_a0 ⟨by decide, rfl⟩ kd29_23.2.2.2.2.1 rfl rfl (by simp [Value.category]) (by decide) (by decide) (by decide) (by decide) (fun r44 S46 g45 pr44 qr44 hg45 => ?_)
          obtain ⟨rfl, rfl, k47⟩ := pr44
          refine X_st [] rfl ?_
          obtain ⟨Ft48, at48, ot48, qt48, eFt48, lFt48, uFt48, eat48, lat48, uat48, eot48, lot48, uot48, eqt48, lqt48, uqt48, kt48⟩ := k47
          have cat48 : at48 ≤ 300 := by have h9 := (show xTB (xv g45 wt) (xv g45 wp) tk tl cn from (by rw [(xv_m hg45 hs_wt (by decide) (by decide)), (xv_m hg45 hs_wp (by decide) (by decide))]; exact hp0)).2.2.2; omega
          refine X_goto hK 148 kd29_23.2.2.2.2.2.1 (by decide) ?_
          exact hret _ _ _ _ _ _ kd29_27.2.2.2 ⟨rfl, rfl, ⟨Ft48, at48, ot48, qt48, ns, eFt48, by omega, by omega, eat48, by omega, by omega, eot48, by omega, by omega, eqt48, by omega, by omega, ((hg45 a1 11 0 2 hs_a1 (by decide)).trans ens), by omega, by omega, [], (by obtain ⟨h8, h7, h6⟩ := kt48; have h5 := h8.resolve_left (fun q9 => by omega); rw [h5.2.1]; exact xRC.f4 (by rw [← k5]; omega) (by omega) h5.2.2), (fun h9 => by have h8 := kt48; omega), (xFr.m xFr.rf hg45 (by decide)), (xFr.m xFr.rf hg45 (by decide))⟩⟩ (Nat.le_refl _) (Nat.le_refl _)
        · refine X_iloadn hK (i := 2) 4 kd29_22.2.2.2.2.2.2.2.2.2.2.2 rfl rfl ?_
          refine X_bipush hK kd29_23.1 (by decide) ?_
          refine X_icmp_le hK 72 (by omega) (by omega) kd29_23.2.1 (by decide) (fun c49 => ?_) (fun c49 => False.elim (by omega))
          refine X_aloadn hK (i := 0) 2 kd29_23.2.2.2.2.2.2.1 rfl rfl ?_
          refine X_dup hK kd29_23.2.2.2.2.2.2.2.1 rfl ?_
          refine X_getK hK fl_X7_22_8 hs_a0 eno kd29_23.2.2.2.2.2.2.2.2.1 ?_
          refine X_iconst hK kd29_23.2.2.2.2.2.2.2.2.2.1 ?_
          refine X_iadd hK kd29_23.2.2.2.2.2.2.2.2.2.2.1 ?_
          refine X_puti hK fl_X7_22_8 hs_a0 (by decide) sl_8_3 (by omega) (by omega) kd29_23.2.2.2.2.2.2.2.2.2.2.2 (fun g50 hg50 => ?_)
          refine X_aloadn hK (i := 0) 2 kd29_24.1 rfl rfl ?_
          refine X_dup hK kd29_24.2.1 rfl ?_
          have hl51 := xTB.lt (A := xv g50 wt) (B := xv g50 wp) (tk := tk) (tl := tl) (c := cn) (a := na) (by rw [(xv_a hg50 (xne hs_wt hs_a0 (by decide))), (xv_a hg50 (xne hs_wp hs_a0 (by decide)))]; exact hp0) (by omega) (by rw [← k5]; omega)
          refine X_getK hK fl_X7_18_8 hs_a0 ((xs_k hg50 (by decide)).trans ena) kd29_24.2.2.1 ?_
          refine X_iconst hK kd29_24.2.2.2.1 ?_
          refine X_iadd hK kd29_24.2.2.2.2.1 ?_
          refine X_puti hK fl_X7_18_8 hs_a0 (by decide) sl_8_2 (by omega) (by omega) kd29_24.2.2.2.2.2.1 (fun g52 hg52 => ?_)
          refine X_iload hK (i := 4) 0 kd29_24.2.2.2.2.2.2.1 rfl ?_
          refine X_if_eq hK 109 (by omega) kd29_24.2.2.2.2.2.2.2.1 (by decide) (fun c53 => ?_) (fun c53 => False.elim (by omega))
          refine X_iloadn hK (i := 3) 1 kd29_25.2.2.2.1 rfl rfl ?_
          refine X_bipush hK kd29_25.2.2.2.2.1 (by decide) ?_
          refine X_icmp_ne hK 132 (by omega) (by omega) kd29_25.2.2.2.2.2.1 (by decide) (fun c54 => False.elim (by omega)) (fun c54 => ?_)
          refine X_aloadn hK (i := 0) 2 kd29_25.2.2.2.2.2.2.1 rfl rfl ?_
          refine X_aloadn hK (i := 1) 3 kd29_25.2.2.2.2.2.2.2.1 rfl rfl ?_
          refine X_iloadn hK (i := 2) 4 kd29_25.2.2.2.2.2.2.2.2.1 rfl rfl ?_
          refine X_iconst hK kd29_25.2.2.2.2.2.2.2.2.2.1 ?_
          refine X_iadd hK kd29_25.2.2.2.2.2.2.2.2.2.2.1 ?_
          refine X_callV hK [.ref a1, .int (iI (x2 + 1))] [] lk_X7_115 (m_readCond_8 _ _ _ _ _ S g52 a0 a1 (x2 + 1) (na + 1) (no + 1) nf nq wt wp ns ws tk tl cn L b s0 hs_a0 hs_a1 (by omega) (by omega) (xs_s hg52) (by omega) ((xs_k hg52 (by decide)).trans (xs_s hg50)) (by omega) ((xs_k hg52 (by decide)).trans ((xs_k hg50 (by decide)).trans enf)) (by omega) ((xs_k hg52 (by decide)).trans ((xs_k hg50 (by decide)).trans enq)) ((xs_k hg52 (by decide)).trans ((xs_k hg50 (by decide)).trans ewt)) hs_wt ((xs_k hg52 (by decide)).trans ((xs_k hg50 (by decide)).trans ewp)) hs_wp (by omega) ((xs_a hg52 (xne hs_a1 hs_a0 (by decide))).trans ((xs_k hg50 (by decide)).trans ens)) ((xs_k hg52 (by decide)).trans ((xs_k hg50 (by decide)).trans ews)) hs_ws (by rw [(Eq.trans (xv_a hg52 (xne hs_wt hs_a0 (by decide))) (xv_a hg50 (xne hs_wt hs_a0 (by decide)))), (Eq.trans (xv_a hg52 (xne hs_wp hs_a0 (by decide))) (xv_a hg50 (xne hs_wp hs_a0 (by decide))))]; exact hp0) (by omega) (by omega) (by rw [(Eq.trans (xv_a hg52 (xne hs_ws hs_a0 (by decide))) (xv_a hg50 (xne hs_ws hs_a0 (by decide))))]; exact hp3) (by omega) (by omega)) hs_a0 ⟨by decide, rfl⟩ kd29_25.2.2.2.2.2.2.2.2.2.2.2 rfl rfl (by simp [Value.category]) (by decide) (by decide) (by decide) (by decide) (fun r55 S57 g56 pr55 qr55 hg56 => ?_)
          obtain ⟨rfl, rfl, k58⟩ := pr55
          refine X_st [] rfl ?_
          obtain ⟨Ft59, at59, ot59, qt59, nt59, eFt59, lFt59, uFt59, eat59, lat59, uat59, eot59, lot59, uot59, eqt59, lqt59, uqt59, ent59, lnt59, unt59, Lt59, kt59, stt59, fst59, ftt59⟩ := k58
          have cat59 : at59 ≤ 300 := (by omega)
          refine X_aloadn hK (i := 0) 2 kd29_26.1 rfl rfl ?_
          refine X_bipush hK kd29_26.2.1 (by decide) ?_
          refine X_callV hK [.int (iI 26)] [] lk_X7_119 (c3_expect _ _ _ _ _ S g56 a0 26 at59 ot59 Ft59 qt59 wt wp tk tl cn hs_a0 (by omega) (by omega) eat59 (by omega) eot59 (by omega) eFt59 (by omega) eqt59 ((hg56 a0 8 0 0 hs_a0 (by decide)).trans ((xs_k hg52 (by decide)).trans ((xs_k hg50 (by decide)).trans ewt))) hs_wt ((hg56 a0 8 0 1 hs_a0 (by decide)).trans ((xs_k hg52 (by decide)).trans ((xs_k hg50 (by decide)).trans ewp))) hs_wp (by rw [(Eq.trans (Eq.trans (xv_m hg56 hs_wt (by decide) (by decide)) (xv_a hg52 (xne hs_wt hs_a0 (by decide)))) (xv_a hg50 (xne hs_wt hs_a0 (by decide)))), (Eq.trans (Eq.trans (xv_m hg56 hs_wp (by decide) (by decide)) (xv_a hg52 (xne hs_wp hs_a0 (by decide)))) (xv_a hg50 (xne hs_wp hs_a0 (by decide))))]; exact hp0) (by omega) (by omega)) hs_a0 ⟨by decide, rfl⟩ kd29_26.2.2.1 rfl rfl (by simp [Value.category]) (by decide) (by decide) (by decide) (by decide) (fun r60 S62 g61 pr60 qr60 hg61 => ?_)
          obtain ⟨rfl, rfl, k63⟩ := pr60
          refine X_st [] rfl ?_
          obtain ⟨Ft64, at64, ot64, qt64, eFt64, lFt64, uFt64, eat64, lat64, uat64, eot64, lot64, uot64, eqt64, lqt64, uqt64, kt64⟩ := k63
          have cat64 : at64 ≤ 300 := by have h9 := (show xTB (xv g61 wt) (xv g61 wp) tk tl cn from (by rw [(Eq.trans (Eq.trans (Eq.trans (xv_m hg61 hs_wt (by decide) (by decide)) (xv_m hg56 hs_wt (by decide) (by decide))) (xv_a hg52 (xne hs_wt hs_a0 (by decide)))) (xv_a hg50 (xne hs_wt hs_a0 (by decide)))), (Eq.trans (Eq.trans (Eq.trans (xv_m hg61 hs_wp (by decide) (by decide)) (xv_m hg56 hs_wp (by decide) (by decide))) (xv_a hg52 (xne hs_wp hs_a0 (by decide)))) (xv_a hg50 (xne hs_wp hs_a0 (by decide))))]; exact hp0)).2.2.2; omega
          refine X_goto hK 148 kd29_26.2.2.2.1 (by decide) ?_
          exact hret _ _ _ _ _ _ kd29_27.2.2.2 ⟨rfl, rfl, ⟨Ft64, at64, ot64, qt64, nt59, eFt64, by omega, by omega, eat64, by omega, by omega, eot64, by omega, by omega, eqt64, by omega, by omega, ((hg61 a1 11 0 2 hs_a1 (by decide)).trans ent59), by omega, by omega, Lt59, (by obtain ⟨h8, h7⟩ := kt64; by_cases f9 : Ft59 = 0; (rcases h8 with ⟨c1, c2, c3, c4⟩ | ⟨c1, c2, c3⟩; (rw [show Ft64 = 0 by omega, c3, h7]; exact xRC.po (by rw [← k5]; omega) (by omega) (show xRC tk tl 2 (7 + 1) (na + 1) (no + 1) L Ft59 at59 ot59 qt59 Lt59 from kt59) f9 c1); (have c4 := c3.resolve_left (fun q9 => q9.1 f9); rw [c4.2.1]; exact xRC.px (by rw [← k5]; omega) (by omega) (show xRC tk tl 2 (7 + 1) (na + 1) (no + 1) L Ft59 at59 ot59 qt59 Lt59 from kt59) f9 c1 c4.2.2)); (have h6 : Ft64 = Ft59 ∧ qt64 = qt59 := (by omega); rw [h6.1, h6.2]; exact xRC.pf (by rw [← k5]; omega) (by omega) (show xRC tk tl 2 (7 + 1) (na + 1) (no + 1) L Ft59 at59 ot59 qt59 Lt59 from kt59) f9)), (fun h9 => by have h8 := kt64; have h7 : Ft59 = 0 := (by omega); rw [(xv_m hg61 hs_ws (by decide) (by decide))]; exact stt59 h7), (xFr.m (xFr.tr (xFr.t (xFr.t xFr.rf hg50 hs_a0 (by decide)) hg52 hs_a0 (by decide)) fst59) hg61 (by decide)), (xFr.m (xFr.tr (xFr.t (xFr.t xFr.rf hg50 hs_a0 (by decide)) hg52 hs_a0 (by decide)) ftt59) hg61 (by decide))⟩⟩ (Nat.le_refl _) (Nat.le_refl _)
      · refine X_aloadn hK (i := 0) 2 kd29_22.2.2.2.1 rfl rfl ?_
        refine X_iconst hK kd29_22.2.2.2.2.1 ?_
        refine X_callV hK [.int (iI 1)] [] lk_X7_60 (c3_tell _ _ _ _ _ S g a0 1 na no nf nq wt wp tk tl cn hs_a0 (by omega) (by omega) ena (by omega) eno (by omega) enf (by omega) enq ewt hs_wt ewp hs_wp hp0 (by omega) (by omega)) hs_a0 ⟨by decide, rfl⟩ kd29_22.2.2.2.2.2.1 rfl rfl (by simp [Value.category]) (by decide) (by decide) (by decide) (by decide) (fun r65 S67 g66 pr65 qr65 hg66 => ?_)
        obtain ⟨rfl, rfl, k68⟩ := pr65
        refine X_st [] rfl ?_
        obtain ⟨Ft69, at69, ot69, qt69, eFt69, lFt69, uFt69, eat69, lat69, uat69, eot69, lot69, uot69, eqt69, lqt69, uqt69, kt69⟩ := k68
        have cat69 : at69 ≤ 300 := by have h9 := (show xTB (xv g66 wt) (xv g66 wp) tk tl cn from (by rw [(xv_m hg66 hs_wt (by decide) (by decide)), (xv_m hg66 hs_wp (by decide) (by decide))]; exact hp0)).2.2.2; omega
        refine X_goto hK 148 kd29_22.2.2.2.2.2.2.1 (by decide) ?_
        exact hret _ _ _ _ _ _ kd29_27.2.2.2 ⟨rfl, rfl, ⟨Ft69, at69, ot69, qt69, ns, eFt69, by omega, by omega, eat69, by omega, by omega, eot69, by omega, by omega, eqt69, by omega, by omega, ((hg66 a1 11 0 2 hs_a1 (by decide)).trans ens), by omega, by omega, [], (by obtain ⟨h8, h7, h6⟩ := kt69; have h5 := h8.resolve_left (fun q9 => by omega); rw [h5.2.1]; exact xRC.f1 (by rw [← k5]; omega) h5.2.2), (fun h9 => by have h8 := kt69; omega), (xFr.m xFr.rf hg66 (by decide)), (xFr.m xFr.rf hg66 (by decide))⟩⟩ (Nat.le_refl _) (Nat.le_refl _)
    · refine X_iconst hK kd29_21.2.2.2.1 ?_
      refine X_goto hK 22 kd29_21.2.2.2.2.1 (by decide) ?_
      refine X_istore hK (i := 4) [(4, .int (iI 1)), (3, .int (iI z4)), (0, .ref a0), (1, .ref a1), (2, .int (iI x2))] kd29_21.2.2.2.2.2.2.1 (by decide) rfl ?_
      refine X_iload hK (i := 4) 0 kd29_21.2.2.2.2.2.2.2.1 rfl ?_
      refine X_if_ne hK 49 (by omega) kd29_21.2.2.2.2.2.2.2.2.1 (by decide) (fun c70 => ?_) (fun c70 => False.elim (by omega))
      refine X_aloadn hK (i := 0) 2 kd29_22.2.2.2.2.2.2.2.1 rfl rfl ?_
      refine X_getK hK fl_X7_22_8 hs_a0 eno kd29_22.2.2.2.2.2.2.2.2.1 ?_
      refine X_bipush hK kd29_22.2.2.2.2.2.2.2.2.2.1 (by decide) ?_
      refine X_icmp_ge hK 64 (by omega) (by omega) kd29_22.2.2.2.2.2.2.2.2.2.2.1 (by decide) (fun c71 => ?_) (fun c71 => ?_)
      · refine X_aloadn hK (i := 0) 2 kd29_23.2.2.1 rfl rfl ?_
        refine X_iconst hK kd29_23.2.2.2.1 ?_
        refine X_callV hK [.int (iI 4)] [] lk_X7_60 (c3_tell _ _ _ _ _ S g a0 4 na no nf nq wt wp tk tl cn hs_a0 (by omega) (by omega) ena (by omega) eno (by omega) enf (by omega) enq ewt hs_wt ewp hs_wp hp0 (by omega) (by omega)) hs_a0 ⟨by decide, rfl⟩ kd29_23.2.2.2.2.1 rfl rfl (by simp [Value.category]) (by decide) (by decide) (by decide) (by decide) (fun r72 S74 g73 pr72 qr72 hg73 => ?_)
        obtain ⟨rfl, rfl, k75⟩ := pr72
        refine X_st [] rfl ?_
        obtain ⟨Ft76, at76, ot76, qt76, eFt76, lFt76, uFt76, eat76, lat76, uat76, eot76, lot76, uot76, eqt76, lqt76, uqt76, kt76⟩ := k75
        have cat76 : at76 ≤ 300 := by have h9 := (show xTB (xv g73 wt) (xv g73 wp) tk tl cn from (by rw [(xv_m hg73 hs_wt (by decide) (by decide)), (xv_m hg73 hs_wp (by decide) (by decide))]; exact hp0)).2.2.2; omega
        refine X_goto hK 148 kd29_23.2.2.2.2.2.1 (by decide) ?_
        exact hret _ _ _ _ _ _ kd29_27.2.2.2 ⟨rfl, rfl, ⟨Ft76, at76, ot76, qt76, ns, eFt76, by omega, by omega, eat76, by omega, by omega, eot76, by omega, by omega, eqt76, by omega, by omega, ((hg73 a1 11 0 2 hs_a1 (by decide)).trans ens), by omega, by omega, [], (by obtain ⟨h8, h7, h6⟩ := kt76; have h5 := h8.resolve_left (fun q9 => by omega); rw [h5.2.1]; exact xRC.f4 (by rw [← k5]; omega) (by omega) h5.2.2), (fun h9 => by have h8 := kt76; omega), (xFr.m xFr.rf hg73 (by decide)), (xFr.m xFr.rf hg73 (by decide))⟩⟩ (Nat.le_refl _) (Nat.le_refl _)
      · refine X_iloadn hK (i := 2) 4 kd29_22.2.2.2.2.2.2.2.2.2.2.2 rfl rfl ?_
        refine X_bipush hK kd29_23.1 (by decide) ?_
        refine X_icmp_le hK 72 (by omega) (by omega) kd29_23.2.1 (by decide) (fun c77 => ?_) (fun c77 => False.elim (by omega))
        refine X_aloadn hK (i := 0) 2 kd29_23.2.2.2.2.2.2.1 rfl rfl ?_
        refine X_dup hK kd29_23.2.2.2.2.2.2.2.1 rfl ?_
        refine X_getK hK fl_X7_22_8 hs_a0 eno kd29_23.2.2.2.2.2.2.2.2.1 ?_
        refine X_iconst hK kd29_23.2.2.2.2.2.2.2.2.2.1 ?_
        refine X_iadd hK kd29_23.2.2.2.2.2.2.2.2.2.2.1 ?_
        refine X_puti hK fl_X7_22_8 hs_a0 (by decide) sl_8_3 (by omega) (by omega) kd29_23.2.2.2.2.2.2.2.2.2.2.2 (fun g78 hg78 => ?_)
        refine X_aloadn hK (i := 0) 2 kd29_24.1 rfl rfl ?_
        refine X_dup hK kd29_24.2.1 rfl ?_
        have hl79 := xTB.lt (A := xv g78 wt) (B := xv g78 wp) (tk := tk) (tl := tl) (c := cn) (a := na) (by rw [(xv_a hg78 (xne hs_wt hs_a0 (by decide))), (xv_a hg78 (xne hs_wp hs_a0 (by decide)))]; exact hp0) (by omega) (by rw [← k5]; omega)
        refine X_getK hK fl_X7_18_8 hs_a0 ((xs_k hg78 (by decide)).trans ena) kd29_24.2.2.1 ?_
        refine X_iconst hK kd29_24.2.2.2.1 ?_
        refine X_iadd hK kd29_24.2.2.2.2.1 ?_
        refine X_puti hK fl_X7_18_8 hs_a0 (by decide) sl_8_2 (by omega) (by omega) kd29_24.2.2.2.2.2.1 (fun g80 hg80 => ?_)
        refine X_iload hK (i := 4) 0 kd29_24.2.2.2.2.2.2.1 rfl ?_
        refine X_if_eq hK 109 (by omega) kd29_24.2.2.2.2.2.2.2.1 (by decide) (fun c81 => False.elim (by omega)) (fun c81 => ?_)
        refine X_aloadn hK (i := 0) 2 kd29_24.2.2.2.2.2.2.2.2.1 rfl rfl ?_
        refine X_aloadn hK (i := 1) 3 kd29_24.2.2.2.2.2.2.2.2.2.1 rfl rfl ?_
        refine X_iloadn hK (i := 3) 1 kd29_24.2.2.2.2.2.2.2.2.2.2.1 rfl rfl ?_
        refine X_bipush hK kd29_24.2.2.2.2.2.2.2.2.2.2.2 (by decide) ?_
        refine X_isub hK kd29_25.1 ?_
        refine X_callV hK [.ref a1, .int (iI (z4 - 10))] [] lk_X7_135 (m_readFact _ _ _ _ _ S g80 a0 a1 (z4 - 10) (na + 1) (no + 1) nf nq wt wp ns ws tk tl cn L b s0 7 hs_a0 hs_a1 (by omega) (by omega) (xs_s hg80) (by omega) ((xs_k hg80 (by decide)).trans (xs_s hg78)) (by omega) ((xs_k hg80 (by decide)).trans ((xs_k hg78 (by decide)).trans enf)) (by omega) ((xs_k hg80 (by decide)).trans ((xs_k hg78 (by decide)).trans enq)) ((xs_k hg80 (by decide)).trans ((xs_k hg78 (by decide)).trans ewt)) hs_wt ((xs_k hg80 (by decide)).trans ((xs_k hg78 (by decide)).trans ewp)) hs_wp (by omega) ((xs_a hg80 (xne hs_a1 hs_a0 (by decide))).trans ((xs_k hg78 (by decide)).trans ens)) ((xs_k hg80 (by decide)).trans ((xs_k hg78 (by decide)).trans ews)) hs_ws (by rw [(Eq.trans (xv_a hg80 (xne hs_wt hs_a0 (by decide))) (xv_a hg78 (xne hs_wt hs_a0 (by decide)))), (Eq.trans (xv_a hg80 (xne hs_wp hs_a0 (by decide))) (xv_a hg78 (xne hs_wp hs_a0 (by decide))))]; exact hp0) (by omega) (by omega) (by rw [(Eq.trans (xv_a hg80 (xne hs_ws hs_a0 (by decide))) (xv_a hg78 (xne hs_ws hs_a0 (by decide))))]; exact hp3) (by omega) (by omega) (by rw [show (na + 1) - 1 = na by omega, ← k5]; omega) (by omega)) hs_a0 ⟨by decide, rfl⟩ kd29_25.2.1 rfl rfl (by simp [Value.category]) (by decide) (by decide) (by decide) (by decide) (fun r82 S84 g83 pr82 qr82 hg83 => ?_)
        obtain ⟨rfl, rfl, k85⟩ := pr82
        refine X_st [] rfl ?_
        obtain ⟨Ft86, at86, ot86, qt86, nt86, eFt86, lFt86, uFt86, eat86, lat86, uat86, eot86, lot86, uot86, eqt86, lqt86, uqt86, ent86, lnt86, unt86, Lt86, kt86, stt86, fst86, ftt86⟩ := k85
        have cat86 : at86 ≤ 300 := (by omega)
        refine X_goto hK 148 kd29_25.2.2.1 (by decide) ?_
        exact hret _ _ _ _ _ _ kd29_27.2.2.2 ⟨rfl, rfl, ⟨Ft86, at86, ot86, qt86, nt86, eFt86, by omega, by omega, eat86, by omega, by omega, eot86, by omega, by omega, eqt86, by omega, by omega, ent86, by omega, by omega, Lt86, (by have h9 := kt86; rw [show na + 1 - 1 = na by omega, show no + 1 - 1 = no by omega] at h9; exact h9), stt86, (xFr.tr (xFr.t (xFr.t xFr.rf hg78 hs_a0 (by decide)) hg80 hs_a0 (by decide)) fst86), (xFr.tr (xFr.t (xFr.t xFr.rf hg78 hs_a0 (by decide)) hg80 hs_a0 (by decide)) ftt86)⟩⟩ (Nat.le_refl _) (Nat.le_refl _)

set_option maxHeartbeats 4000000 in
set_option maxRecDepth 100000 in
theorem m_readAll_7 (l : Launch) (D : va_G) (kA : Nat → ClassId) (b0 : Nat) (t0 : Nat → Nat) (S : xT) (g : xG) (a0 : Nat) (a1 : Nat) (x2 : Int) (na : Int) (no : Int) (nf : Int) (nq : Int) (wt : Nat) (wp : Nat) (ns : Int) (ws : Nat) (tk : Int → Int) (tl : Int → Int) (cn : Int) (L : List xS3) (b : Int) (s0 : Int → Int) (hs_a0 : S a0 = some (8, 0)) (hs_a1 : S a1 = some (11, 0)) (hx2 : 7 ≤ x2 ∧ x2 ≤ 7) (hna : 0 ≤ na ∧ na ≤ 300) (ena : g a0 2 = .int (iI na)) (hno : 0 ≤ no ∧ no ≤ 50) (eno : g a0 3 = .int (iI no)) (hnf : 0 ≤ nf ∧ nf ≤ 0) (enf : g a0 5 = .int (iI nf)) (hnq : 0 ≤ nq ∧ nq ≤ 300) (enq : g a0 6 = .int (iI nq)) (ewt : g a0 0 = .ref wt) (hs_wt : S wt = some (12900, 301)) (ewp : g a0 1 = .ref wp) (hs_wp : S wp = some (13000, 301)) (hns : 0 ≤ ns ∧ ns ≤ 100) (ens : g a1 2 = .int (iI ns)) (ews : g a1 7 = .ref ws) (hs_ws : S ws = some (14000, 100)) (hp0 : xTB (xv g wt) (xv g wp) tk tl cn) (hp1 : na ≤ cn) (hp2 : cn ≤ 300) (hp3 : xStq (xv g ws) s0 b ns L) (hp4 : 0 ≤ b) (hp5 : ns ≤ 2 * no) : xMt l yX7_readAll cX7_readAll 4 none 14 0 0 325 D kA b0 t0 [(8, 5), (8, 6), (8, 3), (8, 2), (14000, 0), (11, 2)] [.ref a0, .ref a1, .int (iI x2)] S g (fun (r : Option Value) (S1 : xT) (g1 : xG) => S = S1 ∧ r = none ∧ (∃ F a o q n : Int, g1 a0 5 = .int (iI F) ∧ -2147483648 ≤ F ∧ F ≤ 2147483647 ∧ g1 a0 2 = .int (iI a) ∧ 0 ≤ a ∧ a ≤ cn ∧ g1 a0 3 = .int (iI o) ∧ 0 ≤ o ∧ o ≤ 50 ∧ g1 a0 6 = .int (iI q) ∧ 0 ≤ q ∧ q ≤ 300 ∧ g1 a1 2 = .int (iI n) ∧ 0 ≤ n ∧ n ≤ 100 ∧ ∃ L1 : List xS3, xRC tk tl 1 7 na no L F a o q L1 ∧ (F = 0 → xStq (xv g1 ws) s0 b n L1) ∧ xFr 14000 S g g1 ws ∧ xFr 11 S g g1 a1)) := by
  refine xEnterV (by decide) (by simp [lg_sl, Value.category]) [(0, .ref a0), (1, .ref a1), (2, .int (iI x2))] rfl ?_
  intro K E hK hret _ _ _
  refine X_aloadn hK (i := 0) 0 kd29_0.1 rfl rfl ?_
  refine X_aloadn hK (i := 1) 1 kd29_0.2.1 rfl rfl ?_
  refine X_iloadn hK (i := 2) 2 kd29_0.2.2.1 rfl rfl ?_
  refine X_callV hK [.ref a1, .int (iI x2)] [] lk_X7_132 (m_readOne_7 _ _ _ _ _ S g a0 a1 x2 na no nf nq wt wp ns ws tk tl cn L b s0 hs_a0 hs_a1 (by omega) (by omega) ena (by omega) eno (by omega) enf (by omega) enq ewt hs_wt ewp hs_wp (by omega) ens ews hs_ws hp0 (by omega) (by omega) hp3 (by omega) (by omega)) hs_a0 ⟨by decide, rfl⟩ kd29_0.2.2.2.1 rfl rfl (by simp [Value.category]) (by decide) (by decide) (by decide) (by decide) (fun r1 S3 g2 pr1 qr1 hg2 => ?_)
  obtain ⟨rfl, rfl, k4⟩ := pr1
  refine X_st [] rfl ?_
  obtain ⟨Ft5, at5, ot5, qt5, nt5, eFt5, lFt5, uFt5, eat5, lat5, uat5, eot5, lot5, uot5, eqt5, lqt5, uqt5, ent5, lnt5, unt5, Lt5, kt5, stt5, fst5, ftt5⟩ := k4
  have cat5 : at5 ≤ 300 := (by omega)
  refine X_iconst hK kd29_0.2.2.2.2.1 ?_
  refine X_istoren hK (i := 3) [(3, .int (iI 0)), (0, .ref a0), (1, .ref a1), (2, .int (iI x2))] kd29_0.2.2.2.2.2.1 rfl (by decide) rfl ?_
  have P150 : ∀ (nP150 : Nat) (g122 : xG) (_ : xM [(14000, 0), (11, 2), (8, 5), (8, 6), (8, 3), (8, 2)] S g2 g122) (z121 : Int) (_ : 0 ≤ z121) (_ : z121 ≤ 50) (q123 : Int) (_ : 0 ≤ q123) (_ : q123 ≤ 300) (_ : g122 a0 2 = .int (iI q123)) (q124 : Int) (_ : 0 ≤ q124) (_ : q124 ≤ 50) (_ : g122 a0 3 = .int (iI q124)) (q125 : Int) (_ : (-2147483648) ≤ q125) (_ : q125 ≤ 2147483647) (_ : g122 a0 5 = .int (iI q125)) (q126 : Int) (_ : 0 ≤ q126) (_ : q126 ≤ 300) (_ : g122 a0 6 = .int (iI q126)) (q127 : Int) (_ : 0 ≤ q127) (_ : q127 ≤ 100) (_ : g122 a1 2 = .int (iI q127)) (_ : ∃ Li : List xS3, xIC tk tl 1 7 na no L q125 q123 q124 q126 Li ∧ (q125 = 0 → xStq (xv g122 ws) s0 b q127 Li ∧ q127 ≤ 2 * q124 - 1)) (_ : q125 = 0 → no + 1 + z121 ≤ q124) (_ : q123 ≤ cn) (_ : xFr 14000 S g g122 ws) (_ : xFr 11 S g g122 a1) (_ : 60 - z121 < (nP150 : Int)), X K E 8 [(3, .int (iI z121)), (0, .ref a0), (1, .ref a1), (2, .int (iI x2))] [] S g122 0 0 := by
    intro nP150
    induction nP150 with
    | zero => intro g122 hg122 z121 lz121 uz121 q123 lq123 uq123 eq123 q124 lq124 uq124 eq124 q125 lq125 uq125 eq125 q126 lq126 uq126 eq126 q127 lq127 uq127 eq127 v151 v152 v153 v154 v155 mP150; exact False.elim (by omega)
    | succ nP150 ihP150 =>
      intro g122 hg122 z121 lz121 uz121 q123 lq123 uq123 eq123 q124 lq124 uq124 eq124 q125 lq125 uq125 eq125 q126 lq126 uq126 eq126 q127 lq127 uq127 eq127 v151 v152 v153 v154 v155 mP150
      refine X_iloadn hK (i := 3) 0 kd29_0.2.2.2.2.2.2.1 rfl rfl ?_
      obtain ⟨Lij156, ij156, sj156⟩ := id v151
      have ivj156 : q125 = 0 → _ := fun h9 => (sj156 h9).1
      have nbj156 : q125 = 0 → q127 ≤ 2 * q124 - 1 := fun h9 => (sj156 h9).2
      refine X_bipush hK kd29_0.2.2.2.2.2.2.2.1 (by decide) ?_
      refine X_icmp_ge hK 60 (by omega) (by omega) kd29_0.2.2.2.2.2.2.2.2.1 (by decide) (fun c157 => ?_) (fun c157 => ?_)
      · exact hret _ _ _ _ _ _ kd29_2.2.2.2.2.2.2.2.2.2.1 ⟨rfl, rfl, ⟨q125, q123, q124, q126, q127, eq125, by omega, by omega, eq123, by omega, by omega, eq124, by omega, by omega, eq126, by omega, by omega, eq127, by omega, by omega, Lij156, (xIC.e ij156 (fun h9 => False.elim (by have h8 := v152 h9; omega))), (fun h9 => (sj156 h9).1), v154, v155⟩⟩ (Nat.le_refl _) (Nat.le_refl _)
      · refine X_aloadn hK (i := 0) 1 kd29_0.2.2.2.2.2.2.2.2.2.1 rfl rfl ?_
        refine X_getK hK fl_X7_29_8 hs_a0 eq125 kd29_0.2.2.2.2.2.2.2.2.2.2.1 ?_
        refine X_if_ne hK 60 (by omega) kd29_0.2.2.2.2.2.2.2.2.2.2.2 (by decide) (fun c158 => ?_) (fun c158 => ?_)
        · exact hret _ _ _ _ _ _ kd29_2.2.2.2.2.2.2.2.2.2.1 ⟨rfl, rfl, ⟨q125, q123, q124, q126, q127, eq125, by omega, by omega, eq123, by omega, by omega, eq124, by omega, by omega, eq126, by omega, by omega, eq127, by omega, by omega, Lij156, (xIC.e ij156 (fun h9 => False.elim (by have h8 := v152 h9; omega))), (fun h9 => (sj156 h9).1), v154, v155⟩⟩ (Nat.le_refl _) (Nat.le_refl _)
        · refine X_aloadn hK (i := 0) 1 kd29_1.1 rfl rfl ?_
          refine X_callV hK [] [] lk_X7_47 (c3_now _ _ _ _ _ S g122 a0 q123 wt wp tk tl cn hs_a0 (by omega) eq123 ((hg122 a0 8 0 0 hs_a0 (by decide)).trans ((hg2 a0 8 0 0 hs_a0 (by decide)).trans ewt)) hs_wt ((hg122 a0 8 0 1 hs_a0 (by decide)).trans ((hg2 a0 8 0 1 hs_a0 (by decide)).trans ewp)) hs_wp (by rw [(Eq.trans (xv_m hg122 hs_wt (by decide) (by decide)) (xv_m hg2 hs_wt (by decide) (by decide))), (Eq.trans (xv_m hg122 hs_wp (by decide) (by decide)) (xv_m hg2 hs_wp (by decide) (by decide)))]; exact hp0) (by omega) (by omega)) hs_a0 ⟨by decide, rfl⟩ kd29_1.2.1 rfl rfl (by simp [Value.category]) (by decide) (by decide) (by decide) (by decide) (fun r159 S161 g160 pr159 qr159 hg160 => ?_)
          obtain ⟨rfl, rfl, z162, rfl, lz162, uz162, k163⟩ := pr159
          refine X_st [.int (iI z162)] rfl ?_
          refine X_bipush hK kd29_1.2.2.1 (by decide) ?_
          refine X_icmp_ne hK 60 (by omega) (by omega) kd29_1.2.2.2.1 (by decide) (fun c164 => ?_) (fun c164 => ?_)
          · exact hret _ _ _ _ _ _ kd29_2.2.2.2.2.2.2.2.2.2.1 ⟨rfl, rfl, ⟨q125, q123, q124, q126, q127, eq125, by omega, by omega, eq123, by omega, by omega, eq124, by omega, by omega, eq126, by omega, by omega, eq127, by omega, by omega, Lij156, (xIC.e ij156 (fun h9 => Or.inl ⟨rfl, by rw [← k163]; omega⟩)), (fun h9 => (sj156 h9).1), v154, v155⟩⟩ (Nat.le_refl _) (Nat.le_refl _)
          · refine X_aloadn hK (i := 0) 1 kd29_1.2.2.2.2.1 rfl rfl ?_
            refine X_dup hK kd29_1.2.2.2.2.2.1 rfl ?_
            have hl165 := xTB.lt (A := xv g122 wt) (B := xv g122 wp) (tk := tk) (tl := tl) (c := cn) (a := q123) (by rw [(Eq.trans (xv_m hg122 hs_wt (by decide) (by decide)) (xv_m hg2 hs_wt (by decide) (by decide))), (Eq.trans (xv_m hg122 hs_wp (by decide) (by decide)) (xv_m hg2 hs_wp (by decide) (by decide)))]; exact hp0) (by omega) (by rw [← k163]; omega)
            refine X_getK hK fl_X7_18_8 hs_a0 eq123 kd29_1.2.2.2.2.2.2.1 ?_
            refine X_iconst hK kd29_1.2.2.2.2.2.2.2.1 ?_
            refine X_iadd hK kd29_1.2.2.2.2.2.2.2.2.1 ?_
            refine X_puti hK fl_X7_18_8 hs_a0 (by decide) sl_8_2 (by omega) (by omega) kd29_1.2.2.2.2.2.2.2.2.2.1 (fun g166 hg166 => ?_)
            refine X_aloadn hK (i := 0) 1 kd29_1.2.2.2.2.2.2.2.2.2.2.1 rfl rfl ?_
            refine X_aloadn hK (i := 1) 2 kd29_1.2.2.2.2.2.2.2.2.2.2.2 rfl rfl ?_
            refine X_iloadn hK (i := 2) 3 kd29_2.1 rfl rfl ?_
            refine X_callV hK [.ref a1, .int (iI x2)] [] lk_X7_132 (m_readOne_7 _ _ _ _ _ S g166 a0 a1 x2 (q123 + 1) q124 q125 q126 wt wp q127 ws tk tl cn Lij156 b s0 hs_a0 hs_a1 (by omega) (by omega) (xs_s hg166) (by omega) ((xs_k hg166 (by decide)).trans eq124) (by omega) ((xs_k hg166 (by decide)).trans eq125) (by omega) ((xs_k hg166 (by decide)).trans eq126) ((xs_k hg166 (by decide)).trans ((hg122 a0 8 0 0 hs_a0 (by decide)).trans ((hg2 a0 8 0 0 hs_a0 (by decide)).trans ewt))) hs_wt ((xs_k hg166 (by decide)).trans ((hg122 a0 8 0 1 hs_a0 (by decide)).trans ((hg2 a0 8 0 1 hs_a0 (by decide)).trans ewp))) hs_wp (by omega) ((xs_a hg166 (xne hs_a1 hs_a0 (by decide))).trans eq127) ((xs_k hg166 (by decide)).trans ((hg122 a1 11 0 7 hs_a1 (by decide)).trans ((hg2 a1 11 0 7 hs_a1 (by decide)).trans ews))) hs_ws (by rw [(Eq.trans (Eq.trans (xv_a hg166 (xne hs_wt hs_a0 (by decide))) (xv_m hg122 hs_wt (by decide) (by decide))) (xv_m hg2 hs_wt (by decide) (by decide))), (Eq.trans (Eq.trans (xv_a hg166 (xne hs_wp hs_a0 (by decide))) (xv_m hg122 hs_wp (by decide) (by decide))) (xv_m hg2 hs_wp (by decide) (by decide)))]; exact hp0) (by omega) (by omega) (by rw [(xv_a hg166 (xne hs_ws hs_a0 (by decide)))]; exact (ivj156 (by omega))) (by omega) (by omega)) hs_a0 ⟨by decide, rfl⟩ kd29_2.2.1 rfl rfl (by simp [Value.category]) (by decide) (by decide) (by decide) (by decide) (fun r167 S169 g168 pr167 qr167 hg168 => ?_)
            obtain ⟨rfl, rfl, k170⟩ := pr167
            refine X_st [] rfl ?_
            obtain ⟨Ft171, at171, ot171, qt171, nt171, eFt171, lFt171, uFt171, eat171, lat171, uat171, eot171, lot171, uot171, eqt171, lqt171, uqt171, ent171, lnt171, unt171, Lt171, kt171, stt171, fst171, ftt171⟩ := k170
            have cat171 : at171 ≤ 300 := (by omega)
            refine X_aloadn hK (i := 1) 2 kd29_2.2.2.1 rfl rfl ?_
            refine X_bipush hK kd29_2.2.2.2.1 (by decide) ?_
            refine X_iconst hK kd29_2.2.2.2.2.1 ?_
            refine X_iconst hK kd29_2.2.2.2.2.2.1 ?_
            refine X_callV hK [.int (iI 13), .int (iI 0), .int (iI 0)] [] lk_X7_129 (m_addStep _ _ _ _ _ S g168 a1 13 0 0 nt171 ws hs_a1 (by omega) (by omega) (by omega) (by omega) ent171 ((hg168 a1 11 0 7 hs_a1 (by decide)).trans ((xs_k hg166 (by decide)).trans ((hg122 a1 11 0 7 hs_a1 (by decide)).trans ((hg2 a1 11 0 7 hs_a1 (by decide)).trans ews)))) hs_ws) hs_a1 ⟨by decide, rfl⟩ kd29_2.2.2.2.2.2.2.1 rfl rfl (by simp [Value.category]) (by decide) (by decide) (by decide) (by decide) (fun r172 S174 g173 pr172 qr172 hg173 => ?_)
            obtain ⟨rfl, rfl, k175, k176, k177, k178⟩ := pr172
            refine X_st [] rfl ?_
            refine X_iinc hK (i := 3) (z := z121) (n := 1) 0 [(3, .int (iI (z121 + 1))), (0, .ref a0), (1, .ref a1), (2, .int (iI x2))] kd29_2.2.2.2.2.2.2.2.1 rfl (by decide) rfl ?_
            refine X_goto hK 8 kd29_2.2.2.2.2.2.2.2.2.1 (by decide) ?_
            exact ihP150  g173 (xM.tr (xM.tr (xM_up (xM.tr xM.rf xLe.rf hg122 (by decide)) hg166 hs_a0 (by decide) (by decide)) xLe.rf hg168 (by decide)) xLe.rf hg173 (by decide)) (z121 + 1) (by omega) (by omega) at171 (by omega) (by omega) ((hg173 a0 8 0 2 hs_a0 (by decide)).trans eat171) ot171 (by omega) (by omega) ((hg173 a0 8 0 3 hs_a0 (by decide)).trans eot171) Ft171 (by omega) (by omega) ((hg173 a0 8 0 5 hs_a0 (by decide)).trans eFt171) qt171 (by omega) (by omega) ((hg173 a0 8 0 6 hs_a0 (by decide)).trans eqt171) (if nt171 < 100 then nt171 + 1 else nt171) (by omega) (by omega) k175 ⟨Lt171 ++ [(13, 0, 0)], xIC.s (Or.inl ⟨rfl, rfl, rfl, (by rw [← k163]; omega)⟩) ij156 (by omega) kt171 (fun _ => rfl), fun h9 => by have h8 := xRC.b (by omega) kt171 h9; have h7 := (stt171 h9).1; have h6 := (sj156 (by omega)).1.1; have h5 := (sj156 (by omega)).2; exact ⟨(by have h9 := (xStq.add (x := (13, 0, 0)) (stt171 (by omega)) (by omega) (by have h4a := (k176.1 (by omega)).1; unfold xec9; (try dsimp only); omega) (k176.1 (by omega)).2); rw [if_pos (by omega)]; exact h9), by rw [if_pos (by omega)]; omega⟩⟩ (fun h9 => by have h8 := xRC.b (by omega) kt171 h9; omega) (by omega) (xFr.tr (xFr.tr (xFr.t v154 hg166 hs_a0 (by decide)) fst171) k177) (xFr.tr (xFr.tr (xFr.t v155 hg166 hs_a0 (by decide)) ftt171) k178) (by omega)
  exact P150 ((60 - 0 : Int).toNat + 1) g2 xM.rf 0 (by omega) (by omega) at5 (by omega) (by omega) eat5 ot5 (by omega) (by omega) eot5 Ft5 (by omega) (by omega) eFt5 qt5 (by omega) (by omega) eqt5 nt5 (by omega) (by omega) ent5 ⟨Lt5, xIC.z (Or.inl ⟨rfl, rfl⟩) kt5, fun h9 => ⟨stt5 h9, by have h8 := xRC.b (by omega) kt5 h9; have h7 := (stt5 h9).1; have h6 := hp3.1; omega⟩⟩ (fun h9 => by have h8 := xRC.b (by omega) kt5 h9; omega) (by omega) (xFr.tr xFr.rf fst5) (xFr.tr xFr.rf ftt5) (by omega)

set_option maxHeartbeats 4000000 in
set_option maxRecDepth 100000 in
theorem m_readCond_7 (l : Launch) (D : va_G) (kA : Nat → ClassId) (b0 : Nat) (t0 : Nat → Nat) (S : xT) (g : xG) (a0 : Nat) (a1 : Nat) (x2 : Int) (na : Int) (no : Int) (nf : Int) (nq : Int) (wt : Nat) (wp : Nat) (ns : Int) (ws : Nat) (tk : Int → Int) (tl : Int → Int) (cn : Int) (L : List xS3) (b : Int) (s0 : Int → Int) (hs_a0 : S a0 = some (8, 0)) (hs_a1 : S a1 = some (11, 0)) (hx2 : 7 ≤ x2 ∧ x2 ≤ 7) (hna : 0 ≤ na ∧ na ≤ 300) (ena : g a0 2 = .int (iI na)) (hno : 0 ≤ no ∧ no ≤ 50) (eno : g a0 3 = .int (iI no)) (hnf : 0 ≤ nf ∧ nf ≤ 0) (enf : g a0 5 = .int (iI nf)) (hnq : 0 ≤ nq ∧ nq ≤ 300) (enq : g a0 6 = .int (iI nq)) (ewt : g a0 0 = .ref wt) (hs_wt : S wt = some (12900, 301)) (ewp : g a0 1 = .ref wp) (hs_wp : S wp = some (13000, 301)) (hns : 0 ≤ ns ∧ ns ≤ 100) (ens : g a1 2 = .int (iI ns)) (ews : g a1 7 = .ref ws) (hs_ws : S ws = some (14000, 100)) (hp0 : xTB (xv g wt) (xv g wp) tk tl cn) (hp1 : na ≤ cn) (hp2 : cn ≤ 300) (hp3 : xStq (xv g ws) s0 b ns L) (hp4 : 0 ≤ b) (hp5 : ns ≤ 2 * no) : xMt l yX7_readCond cX7_readCond 4 none 15 0 0 348 D kA b0 t0 [(8, 5), (8, 6), (8, 3), (8, 2), (14000, 0), (11, 2)] [.ref a0, .ref a1, .int (iI x2)] S g (fun (r : Option Value) (S1 : xT) (g1 : xG) => S = S1 ∧ r = none ∧ (∃ F a o q n : Int, g1 a0 5 = .int (iI F) ∧ -2147483648 ≤ F ∧ F ≤ 2147483647 ∧ g1 a0 2 = .int (iI a) ∧ 0 ≤ a ∧ a ≤ cn ∧ g1 a0 3 = .int (iI o) ∧ 0 ≤ o ∧ o ≤ 50 ∧ g1 a0 6 = .int (iI q) ∧ 0 ≤ q ∧ q ≤ 300 ∧ g1 a1 2 = .int (iI n) ∧ 0 ≤ n ∧ n ≤ 100 ∧ ∃ L1 : List xS3, xRC tk tl 2 7 na no L F a o q L1 ∧ (F = 0 → xStq (xv g1 ws) s0 b n L1) ∧ xFr 14000 S g g1 ws ∧ xFr 11 S g g1 a1)) := by
  refine xEnterV (by decide) (by simp [lg_sl, Value.category]) [(0, .ref a0), (1, .ref a1), (2, .int (iI x2))] rfl ?_
  intro K E hK hret _ _ _
  refine X_aloadn hK (i := 0) 0 kd29_2.2.2.2.2.2.2.2.2.2.2.1 rfl rfl ?_
  refine X_aloadn hK (i := 1) 1 kd29_2.2.2.2.2.2.2.2.2.2.2.2 rfl rfl ?_
  refine X_iloadn hK (i := 2) 2 kd29_3.1 rfl rfl ?_
  refine X_callV hK [.ref a1, .int (iI x2)] [] lk_X7_126 (m_readAll_7 _ _ _ _ _ S g a0 a1 x2 na no nf nq wt wp ns ws tk tl cn L b s0 hs_a0 hs_a1 (by omega) (by omega) ena (by omega) eno (by omega) enf (by omega) enq ewt hs_wt ewp hs_wp (by omega) ens ews hs_ws hp0 (by omega) (by omega) hp3 (by omega) (by omega)) hs_a0 ⟨by decide, rfl⟩ kd29_3.2.1 rfl rfl (by simp [Value.category]) (by decide) (by decide) (by decide) (by decide) (fun r1 S3 g2 pr1 qr1 hg2 => ?_)
  obtain ⟨rfl, rfl, k4⟩ := pr1
  refine X_st [] rfl ?_
  obtain ⟨Ft5, at5, ot5, qt5, nt5, eFt5, lFt5, uFt5, eat5, lat5, uat5, eot5, lot5, uot5, eqt5, lqt5, uqt5, ent5, lnt5, unt5, Lt5, kt5, stt5, fst5, ftt5⟩ := k4
  have cat5 : at5 ≤ 300 := (by omega)
  refine X_iconst hK kd29_3.2.2.1 ?_
  refine X_istoren hK (i := 3) [(3, .int (iI 0)), (0, .ref a0), (1, .ref a1), (2, .int (iI x2))] kd29_3.2.2.2.1 rfl (by decide) rfl ?_
  have P150 : ∀ (nP150 : Nat) (g122 : xG) (_ : xM [(14000, 0), (11, 2), (8, 5), (8, 6), (8, 3), (8, 2)] S g2 g122) (z121 : Int) (_ : 0 ≤ z121) (_ : z121 ≤ 50) (q123 : Int) (_ : 0 ≤ q123) (_ : q123 ≤ 300) (_ : g122 a0 2 = .int (iI q123)) (q124 : Int) (_ : 0 ≤ q124) (_ : q124 ≤ 50) (_ : g122 a0 3 = .int (iI q124)) (q125 : Int) (_ : (-2147483648) ≤ q125) (_ : q125 ≤ 2147483647) (_ : g122 a0 5 = .int (iI q125)) (q126 : Int) (_ : 0 ≤ q126) (_ : q126 ≤ 300) (_ : g122 a0 6 = .int (iI q126)) (q127 : Int) (_ : 0 ≤ q127) (_ : q127 ≤ 100) (_ : g122 a1 2 = .int (iI q127)) (_ : ∃ Li : List xS3, xIC tk tl 2 7 na no L q125 q123 q124 q126 Li ∧ (q125 = 0 → xStq (xv g122 ws) s0 b q127 Li ∧ q127 ≤ 2 * q124 - 1)) (_ : q125 = 0 → no + 1 + z121 ≤ q124) (_ : q123 ≤ cn) (_ : xFr 14000 S g g122 ws) (_ : xFr 11 S g g122 a1) (_ : 60 - z121 < (nP150 : Int)), X K E 8 [(3, .int (iI z121)), (0, .ref a0), (1, .ref a1), (2, .int (iI x2))] [] S g122 0 0 := by
    intro nP150
    induction nP150 with
    | zero => intro g122 hg122 z121 lz121 uz121 q123 lq123 uq123 eq123 q124 lq124 uq124 eq124 q125 lq125 uq125 eq125 q126 lq126 uq126 eq126 q127 lq127 uq127 eq127 v151 v152 v153 v154 v155 mP150; exact False.elim (by omega)
    | succ nP150 ihP150 =>
      intro g122 hg122 z121 lz121 uz121 q123 lq123 uq123 eq123 q124 lq124 uq124 eq124 q125 lq125 uq125 eq125 q126 lq126 uq126 eq126 q127 lq127 uq127 eq127 v151 v152 v153 v154 v155 mP150
      refine X_iloadn hK (i := 3) 0 kd29_3.2.2.2.2.1 rfl rfl ?_
      obtain ⟨Lij156, ij156, sj156⟩ := id v151
      have ivj156 : q125 = 0 → _ := fun h9 => (sj156 h9).1
      have nbj156 : q125 = 0 → q127 ≤ 2 * q124 - 1 := fun h9 => (sj156 h9).2
      refine X_bipush hK kd29_3.2.2.2.2.2.1 (by decide) ?_
      refine X_icmp_ge hK 60 (by omega) (by omega) kd29_3.2.2.2.2.2.2.1 (by decide) (fun c157 => ?_) (fun c157 => ?_)
      · exact hret _ _ _ _ _ _ kd29_5.2.2.2.2.2.2.2.1 ⟨rfl, rfl, ⟨q125, q123, q124, q126, q127, eq125, by omega, by omega, eq123, by omega, by omega, eq124, by omega, by omega, eq126, by omega, by omega, eq127, by omega, by omega, Lij156, (xIC.e ij156 (fun h9 => False.elim (by have h8 := v152 h9; omega))), (fun h9 => (sj156 h9).1), v154, v155⟩⟩ (Nat.le_refl _) (Nat.le_refl _)
      · refine X_aloadn hK (i := 0) 1 kd29_3.2.2.2.2.2.2.2.1 rfl rfl ?_
        refine X_getK hK fl_X7_29_8 hs_a0 eq125 kd29_3.2.2.2.2.2.2.2.2.1 ?_
        refine X_if_ne hK 60 (by omega) kd29_3.2.2.2.2.2.2.2.2.2.1 (by decide) (fun c158 => ?_) (fun c158 => ?_)
        · exact hret _ _ _ _ _ _ kd29_5.2.2.2.2.2.2.2.1 ⟨rfl, rfl, ⟨q125, q123, q124, q126, q127, eq125, by omega, by omega, eq123, by omega, by omega, eq124, by omega, by omega, eq126, by omega, by omega, eq127, by omega, by omega, Lij156, (xIC.e ij156 (fun h9 => False.elim (by have h8 := v152 h9; omega))), (fun h9 => (sj156 h9).1), v154, v155⟩⟩ (Nat.le_refl _) (Nat.le_refl _)
        · refine X_aloadn hK (i := 0) 1 kd29_3.2.2.2.2.2.2.2.2.2.2.1 rfl rfl ?_
          refine X_callV hK [] [] lk_X7_47 (c3_now _ _ _ _ _ S g122 a0 q123 wt wp tk tl cn hs_a0 (by omega) eq123 ((hg122 a0 8 0 0 hs_a0 (by decide)).trans ((hg2 a0 8 0 0 hs_a0 (by decide)).trans ewt)) hs_wt ((hg122 a0 8 0 1 hs_a0 (by decide)).trans ((hg2 a0 8 0 1 hs_a0 (by decide)).trans ewp)) hs_wp (by rw [(Eq.trans (xv_m hg122 hs_wt (by decide) (by decide)) (xv_m hg2 hs_wt (by decide) (by decide))), (Eq.trans (xv_m hg122 hs_wp (by decide) (by decide)) (xv_m hg2 hs_wp (by decide) (by decide)))]; exact hp0) (by omega) (by omega)) hs_a0 ⟨by decide, rfl⟩ kd29_3.2.2.2.2.2.2.2.2.2.2.2 rfl rfl (by simp [Value.category]) (by decide) (by decide) (by decide) (by decide) (fun r159 S161 g160 pr159 qr159 hg160 => ?_)
          obtain ⟨rfl, rfl, z162, rfl, lz162, uz162, k163⟩ := pr159
          refine X_st [.int (iI z162)] rfl ?_
          refine X_bipush hK kd29_4.1 (by decide) ?_
          refine X_icmp_ne hK 60 (by omega) (by omega) kd29_4.2.1 (by decide) (fun c164 => ?_) (fun c164 => ?_)
          · exact hret _ _ _ _ _ _ kd29_5.2.2.2.2.2.2.2.1 ⟨rfl, rfl, ⟨q125, q123, q124, q126, q127, eq125, by omega, by omega, eq123, by omega, by omega, eq124, by omega, by omega, eq126, by omega, by omega, eq127, by omega, by omega, Lij156, (xIC.e ij156 (fun h9 => Or.inr ⟨rfl, by rw [← k163]; omega⟩)), (fun h9 => (sj156 h9).1), v154, v155⟩⟩ (Nat.le_refl _) (Nat.le_refl _)
          · refine X_aloadn hK (i := 0) 1 kd29_4.2.2.1 rfl rfl ?_
            refine X_dup hK kd29_4.2.2.2.1 rfl ?_
            have hl165 := xTB.lt (A := xv g122 wt) (B := xv g122 wp) (tk := tk) (tl := tl) (c := cn) (a := q123) (by rw [(Eq.trans (xv_m hg122 hs_wt (by decide) (by decide)) (xv_m hg2 hs_wt (by decide) (by decide))), (Eq.trans (xv_m hg122 hs_wp (by decide) (by decide)) (xv_m hg2 hs_wp (by decide) (by decide)))]; exact hp0) (by omega) (by rw [← k163]; omega)
            refine X_getK hK fl_X7_18_8 hs_a0 eq123 kd29_4.2.2.2.2.1 ?_
            refine X_iconst hK kd29_4.2.2.2.2.2.1 ?_
            refine X_iadd hK kd29_4.2.2.2.2.2.2.1 ?_
            refine X_puti hK fl_X7_18_8 hs_a0 (by decide) sl_8_2 (by omega) (by omega) kd29_4.2.2.2.2.2.2.2.1 (fun g166 hg166 => ?_)
            refine X_aloadn hK (i := 0) 1 kd29_4.2.2.2.2.2.2.2.2.1 rfl rfl ?_
            refine X_aloadn hK (i := 1) 2 kd29_4.2.2.2.2.2.2.2.2.2.1 rfl rfl ?_
            refine X_iloadn hK (i := 2) 3 kd29_4.2.2.2.2.2.2.2.2.2.2.1 rfl rfl ?_
            refine X_callV hK [.ref a1, .int (iI x2)] [] lk_X7_126 (m_readAll_7 _ _ _ _ _ S g166 a0 a1 x2 (q123 + 1) q124 q125 q126 wt wp q127 ws tk tl cn Lij156 b s0 hs_a0 hs_a1 (by omega) (by omega) (xs_s hg166) (by omega) ((xs_k hg166 (by decide)).trans eq124) (by omega) ((xs_k hg166 (by decide)).trans eq125) (by omega) ((xs_k hg166 (by decide)).trans eq126) ((xs_k hg166 (by decide)).trans ((hg122 a0 8 0 0 hs_a0 (by decide)).trans ((hg2 a0 8 0 0 hs_a0 (by decide)).trans ewt))) hs_wt ((xs_k hg166 (by decide)).trans ((hg122 a0 8 0 1 hs_a0 (by decide)).trans ((hg2 a0 8 0 1 hs_a0 (by decide)).trans ewp))) hs_wp (by omega) ((xs_a hg166 (xne hs_a1 hs_a0 (by decide))).trans eq127) ((xs_k hg166 (by decide)).trans ((hg122 a1 11 0 7 hs_a1 (by decide)).trans ((hg2 a1 11 0 7 hs_a1 (by decide)).trans ews))) hs_ws (by rw [(Eq.trans (Eq.trans (xv_a hg166 (xne hs_wt hs_a0 (by decide))) (xv_m hg122 hs_wt (by decide) (by decide))) (xv_m hg2 hs_wt (by decide) (by decide))), (Eq.trans (Eq.trans (xv_a hg166 (xne hs_wp hs_a0 (by decide))) (xv_m hg122 hs_wp (by decide) (by decide))) (xv_m hg2 hs_wp (by decide) (by decide)))]; exact hp0) (by omega) (by omega) (by rw [(xv_a hg166 (xne hs_ws hs_a0 (by decide)))]; exact (ivj156 (by omega))) (by omega) (by omega)) hs_a0 ⟨by decide, rfl⟩ kd29_4.2.2.2.2.2.2.2.2.2.2.2 rfl rfl (by simp [Value.category]) (by decide) (by decide) (by decide) (by decide) (fun r167 S169 g168 pr167 qr167 hg168 => ?_)
            obtain ⟨rfl, rfl, k170⟩ := pr167
            refine X_st [] rfl ?_
            obtain ⟨Ft171, at171, ot171, qt171, nt171, eFt171, lFt171, uFt171, eat171, lat171, uat171, eot171, lot171, uot171, eqt171, lqt171, uqt171, ent171, lnt171, unt171, Lt171, kt171, stt171, fst171, ftt171⟩ := k170
            have cat171 : at171 ≤ 300 := (by omega)
            refine X_aloadn hK (i := 1) 2 kd29_5.1 rfl rfl ?_
            refine X_bipush hK kd29_5.2.1 (by decide) ?_
            refine X_iconst hK kd29_5.2.2.1 ?_
            refine X_iconst hK kd29_5.2.2.2.1 ?_
            refine X_callV hK [.int (iI 14), .int (iI 0), .int (iI 0)] [] lk_X7_129 (m_addStep _ _ _ _ _ S g168 a1 14 0 0 nt171 ws hs_a1 (by omega) (by omega) (by omega) (by omega) ent171 ((hg168 a1 11 0 7 hs_a1 (by decide)).trans ((xs_k hg166 (by decide)).trans ((hg122 a1 11 0 7 hs_a1 (by decide)).trans ((hg2 a1 11 0 7 hs_a1 (by decide)).trans ews)))) hs_ws) hs_a1 ⟨by decide, rfl⟩ kd29_5.2.2.2.2.1 rfl rfl (by simp [Value.category]) (by decide) (by decide) (by decide) (by decide) (fun r172 S174 g173 pr172 qr172 hg173 => ?_)
            obtain ⟨rfl, rfl, k175, k176, k177, k178⟩ := pr172
            refine X_st [] rfl ?_
            refine X_iinc hK (i := 3) (z := z121) (n := 1) 0 [(3, .int (iI (z121 + 1))), (0, .ref a0), (1, .ref a1), (2, .int (iI x2))] kd29_5.2.2.2.2.2.1 rfl (by decide) rfl ?_
            refine X_goto hK 8 kd29_5.2.2.2.2.2.2.1 (by decide) ?_
            exact ihP150  g173 (xM.tr (xM.tr (xM_up (xM.tr xM.rf xLe.rf hg122 (by decide)) hg166 hs_a0 (by decide) (by decide)) xLe.rf hg168 (by decide)) xLe.rf hg173 (by decide)) (z121 + 1) (by omega) (by omega) at171 (by omega) (by omega) ((hg173 a0 8 0 2 hs_a0 (by decide)).trans eat171) ot171 (by omega) (by omega) ((hg173 a0 8 0 3 hs_a0 (by decide)).trans eot171) Ft171 (by omega) (by omega) ((hg173 a0 8 0 5 hs_a0 (by decide)).trans eFt171) qt171 (by omega) (by omega) ((hg173 a0 8 0 6 hs_a0 (by decide)).trans eqt171) (if nt171 < 100 then nt171 + 1 else nt171) (by omega) (by omega) k175 ⟨Lt171 ++ [(14, 0, 0)], xIC.s (Or.inr ⟨rfl, rfl, rfl, (by rw [← k163]; omega)⟩) ij156 (by omega) kt171 (fun _ => rfl), fun h9 => by have h8 := xRC.b (by omega) kt171 h9; have h7 := (stt171 h9).1; have h6 := (sj156 (by omega)).1.1; have h5 := (sj156 (by omega)).2; exact ⟨(by have h9 := (xStq.add (x := (14, 0, 0)) (stt171 (by omega)) (by omega) (by have h4a := (k176.1 (by omega)).1; unfold xec9; (try dsimp only); omega) (k176.1 (by omega)).2); rw [if_pos (by omega)]; exact h9), by rw [if_pos (by omega)]; omega⟩⟩ (fun h9 => by have h8 := xRC.b (by omega) kt171 h9; omega) (by omega) (xFr.tr (xFr.tr (xFr.t v154 hg166 hs_a0 (by decide)) fst171) k177) (xFr.tr (xFr.tr (xFr.t v155 hg166 hs_a0 (by decide)) ftt171) k178) (by omega)
  exact P150 ((60 - 0 : Int).toNat + 1) g2 xM.rf 0 (by omega) (by omega) at5 (by omega) (by omega) eat5 ot5 (by omega) (by omega) eot5 Ft5 (by omega) (by omega) eFt5 qt5 (by omega) (by omega) eqt5 nt5 (by omega) (by omega) ent5 ⟨Lt5, xIC.z (Or.inr ⟨rfl, rfl⟩) kt5, fun h9 => ⟨stt5 h9, by have h8 := xRC.b (by omega) kt5 h9; have h7 := (stt5 h9).1; have h6 := hp3.1; omega⟩⟩ (fun h9 => by have h8 := xRC.b (by omega) kt5 h9; omega) (by omega) (xFr.tr xFr.rf fst5) (xFr.tr xFr.rf ftt5) (by omega)

set_option maxHeartbeats 4000000 in
set_option maxRecDepth 100000 in
theorem m_readOne_6 (l : Launch) (D : va_G) (kA : Nat → ClassId) (b0 : Nat) (t0 : Nat → Nat) (S : xT) (g : xG) (a0 : Nat) (a1 : Nat) (x2 : Int) (na : Int) (no : Int) (nf : Int) (nq : Int) (wt : Nat) (wp : Nat) (ns : Int) (ws : Nat) (tk : Int → Int) (tl : Int → Int) (cn : Int) (L : List xS3) (b : Int) (s0 : Int → Int) (hs_a0 : S a0 = some (8, 0)) (hs_a1 : S a1 = some (11, 0)) (hx2 : 6 ≤ x2 ∧ x2 ≤ 6) (hna : 0 ≤ na ∧ na ≤ 300) (ena : g a0 2 = .int (iI na)) (hno : 0 ≤ no ∧ no ≤ 50) (eno : g a0 3 = .int (iI no)) (hnf : 0 ≤ nf ∧ nf ≤ 0) (enf : g a0 5 = .int (iI nf)) (hnq : 0 ≤ nq ∧ nq ≤ 300) (enq : g a0 6 = .int (iI nq)) (ewt : g a0 0 = .ref wt) (hs_wt : S wt = some (12900, 301)) (ewp : g a0 1 = .ref wp) (hs_wp : S wp = some (13000, 301)) (hns : 0 ≤ ns ∧ ns ≤ 100) (ens : g a1 2 = .int (iI ns)) (ews : g a1 7 = .ref ws) (hs_ws : S ws = some (14000, 100)) (hp0 : xTB (xv g wt) (xv g wp) tk tl cn) (hp1 : na ≤ cn) (hp2 : cn ≤ 300) (hp3 : xStq (xv g ws) s0 b ns L) (hp4 : 0 ≤ b) (hp5 : ns ≤ 2 * no) : xMt l yX7_readOne cX7_readOne 5 none 16 0 0 371 D kA b0 t0 [(8, 5), (8, 6), (8, 3), (8, 2), (14000, 0), (11, 2)] [.ref a0, .ref a1, .int (iI x2)] S g (fun (r : Option Value) (S1 : xT) (g1 : xG) => S = S1 ∧ r = none ∧ (∃ F a o q n : Int, g1 a0 5 = .int (iI F) ∧ -2147483648 ≤ F ∧ F ≤ 2147483647 ∧ g1 a0 2 = .int (iI a) ∧ 0 ≤ a ∧ a ≤ cn ∧ g1 a0 3 = .int (iI o) ∧ 0 ≤ o ∧ o ≤ 50 ∧ g1 a0 6 = .int (iI q) ∧ 0 ≤ q ∧ q ≤ 300 ∧ g1 a1 2 = .int (iI n) ∧ 0 ≤ n ∧ n ≤ 100 ∧ ∃ L1 : List xS3, xRC tk tl 0 6 na no L F a o q L1 ∧ (F = 0 → xStq (xv g1 ws) s0 b n L1) ∧ xFr 14000 S g g1 ws ∧ xFr 11 S g g1 a1)) := by
  refine xEnterV (by decide) (by simp [lg_sl, Value.category]) [(0, .ref a0), (1, .ref a1), (2, .int (iI x2))] rfl ?_
  intro K E hK hret _ _ _
  refine X_aloadn hK (i := 0) 0 kd29_20.2.2.2.2.2.2.1 rfl rfl ?_
  refine X_callV hK [] [] lk_X7_47 (c3_now _ _ _ _ _ S g a0 na wt wp tk tl cn hs_a0 (by omega) ena ewt hs_wt ewp hs_wp hp0 (by omega) (by omega)) hs_a0 ⟨by decide, rfl⟩ kd29_20.2.2.2.2.2.2.2.1 rfl rfl (by simp [Value.category]) (by decide) (by decide) (by decide) (by decide) (fun r1 S3 g2 pr1 qr1 hg2 => ?_)
  obtain ⟨rfl, rfl, z4, rfl, lz4, uz4, k5⟩ := pr1
  refine X_st [.int (iI z4)] rfl ?_
  refine X_istoren hK (i := 3) [(3, .int (iI z4)), (0, .ref a0), (1, .ref a1), (2, .int (iI x2))] kd29_20.2.2.2.2.2.2.2.2.1 rfl (by decide) rfl ?_
  refine X_iloadn hK (i := 3) 0 kd29_20.2.2.2.2.2.2.2.2.2.1 rfl rfl ?_
  refine X_bipush hK kd29_20.2.2.2.2.2.2.2.2.2.2.1 (by decide) ?_
  refine X_icmp_lt hK 21 (by omega) (by omega) kd29_20.2.2.2.2.2.2.2.2.2.2.2 (by decide) (fun c6 => ?_) (fun c6 => ?_)
  · refine X_iconst hK kd29_21.2.2.2.2.2.1 ?_
    refine X_istore hK (i := 4) [(4, .int (iI 0)), (3, .int (iI z4)), (0, .ref a0), (1, .ref a1), (2, .int (iI x2))] kd29_21.2.2.2.2.2.2.1 (by decide) rfl ?_
    refine X_iload hK (i := 4) 0 kd29_21.2.2.2.2.2.2.2.1 rfl ?_
    refine X_if_ne hK 49 (by omega) kd29_21.2.2.2.2.2.2.2.2.1 (by decide) (fun c7 => False.elim (by omega)) (fun c7 => ?_)
    refine X_iloadn hK (i := 3) 1 kd29_21.2.2.2.2.2.2.2.2.2.1 rfl rfl ?_
    refine X_bipush hK kd29_21.2.2.2.2.2.2.2.2.2.2.1 (by decide) ?_
    refine X_icmp_eq hK 49 (by omega) (by omega) kd29_21.2.2.2.2.2.2.2.2.2.2.2 (by decide) (fun c8 => ?_) (fun c8 => ?_)
    · refine X_aloadn hK (i := 0) 2 kd29_22.2.2.2.2.2.2.2.1 rfl rfl ?_
      refine X_getK hK fl_X7_22_8 hs_a0 eno kd29_22.2.2.2.2.2.2.2.2.1 ?_
      refine X_bipush hK kd29_22.2.2.2.2.2.2.2.2.2.1 (by decide) ?_
      refine X_icmp_ge hK 64 (by omega) (by omega) kd29_22.2.2.2.2.2.2.2.2.2.2.1 (by decide) (fun c9 => ?_) (fun c9 => ?_)
      · refine X_aloadn hK (i := 0) 2 kd29_23.2.2.1 rfl rfl ?_
        refine X_iconst hK kd29_23.2.2.2.1 ?_
        refine X_callV hK [.int (iI 4)] [] lk_X7_60 (c3_tell _ _ _ _ _ S g a0 4 na no nf nq wt wp tk tl cn hs_a0 (by omega) (by omega) ena (by omega) eno (by omega) enf (by omega) enq ewt hs_wt ewp hs_wp hp0 (by omega) (by omega)) hs_a0 ⟨by decide, rfl⟩ kd29_23.2.2.2.2.1 rfl rfl (by simp [Value.category]) (by decide) (by decide) (by decide) (by decide) (fun r10 S12 g11 pr10 qr10 hg11 => ?_)
        obtain ⟨rfl, rfl, k13⟩ := pr10
        refine X_st [] rfl ?_
        obtain ⟨Ft14, at14, ot14, qt14, eFt14, lFt14, uFt14, eat14, lat14, uat14, eot14, lot14, uot14, eqt14, lqt14, uqt14, kt14⟩ := k13
        have cat14 : at14 ≤ 300 := by have h9 := (show xTB (xv g11 wt) (xv g11 wp) tk tl cn from (by rw [(xv_m hg11 hs_wt (by decide) (by decide)), (xv_m hg11 hs_wp (by decide) (by decide))]; exact hp0)).2.2.2; omega
        refine X_goto hK 148 kd29_23.2.2.2.2.2.1 (by decide) ?_
        exact hret _ _ _ _ _ _ kd29_27.2.2.2 ⟨rfl, rfl, ⟨Ft14, at14, ot14, qt14, ns, eFt14, by omega, by omega, eat14, by omega, by omega, eot14, by omega, by omega, eqt14, by omega, by omega, ((hg11 a1 11 0 2 hs_a1 (by decide)).trans ens), by omega, by omega, [], (by obtain ⟨h8, h7, h6⟩ := kt14; have h5 := h8.resolve_left (fun q9 => by omega); rw [h5.2.1]; exact xRC.f4 (by rw [← k5]; omega) (by omega) h5.2.2), (fun h9 => by have h8 := kt14; omega), (xFr.m xFr.rf hg11 (by decide)), (xFr.m xFr.rf hg11 (by decide))⟩⟩ (Nat.le_refl _) (Nat.le_refl _)
      · refine X_iloadn hK (i := 2) 4 kd29_22.2.2.2.2.2.2.2.2.2.2.2 rfl rfl ?_
        refine X_bipush hK kd29_23.1 (by decide) ?_
        refine X_icmp_le hK 72 (by omega) (by omega) kd29_23.2.1 (by decide) (fun c15 => ?_) (fun c15 => False.elim (by omega))
        refine X_aloadn hK (i := 0) 2 kd29_23.2.2.2.2.2.2.1 rfl rfl ?_
        refine X_dup hK kd29_23.2.2.2.2.2.2.2.1 rfl ?_
        refine X_getK hK fl_X7_22_8 hs_a0 eno kd29_23.2.2.2.2.2.2.2.2.1 ?_
        refine X_iconst hK kd29_23.2.2.2.2.2.2.2.2.2.1 ?_
        refine X_iadd hK kd29_23.2.2.2.2.2.2.2.2.2.2.1 ?_
        refine X_puti hK fl_X7_22_8 hs_a0 (by decide) sl_8_3 (by omega) (by omega) kd29_23.2.2.2.2.2.2.2.2.2.2.2 (fun g16 hg16 => ?_)
        refine X_aloadn hK (i := 0) 2 kd29_24.1 rfl rfl ?_
        refine X_dup hK kd29_24.2.1 rfl ?_
        have hl17 := xTB.lt (A := xv g16 wt) (B := xv g16 wp) (tk := tk) (tl := tl) (c := cn) (a := na) (by rw [(xv_a hg16 (xne hs_wt hs_a0 (by decide))), (xv_a hg16 (xne hs_wp hs_a0 (by decide)))]; exact hp0) (by omega) (by rw [← k5]; omega)
        refine X_getK hK fl_X7_18_8 hs_a0 ((xs_k hg16 (by decide)).trans ena) kd29_24.2.2.1 ?_
        refine X_iconst hK kd29_24.2.2.2.1 ?_
        refine X_iadd hK kd29_24.2.2.2.2.1 ?_
        refine X_puti hK fl_X7_18_8 hs_a0 (by decide) sl_8_2 (by omega) (by omega) kd29_24.2.2.2.2.2.1 (fun g18 hg18 => ?_)
        refine X_iload hK (i := 4) 0 kd29_24.2.2.2.2.2.2.1 rfl ?_
        refine X_if_eq hK 109 (by omega) kd29_24.2.2.2.2.2.2.2.1 (by decide) (fun c19 => ?_) (fun c19 => False.elim (by omega))
        refine X_iloadn hK (i := 3) 1 kd29_25.2.2.2.1 rfl rfl ?_
        refine X_bipush hK kd29_25.2.2.2.2.1 (by decide) ?_
        refine X_icmp_ne hK 132 (by omega) (by omega) kd29_25.2.2.2.2.2.1 (by decide) (fun c20 => ?_) (fun c20 => False.elim (by omega))
        refine X_aloadn hK (i := 0) 2 kd29_26.2.2.2.2.1 rfl rfl ?_
        refine X_aloadn hK (i := 1) 3 kd29_26.2.2.2.2.2.1 rfl rfl ?_
        refine X_iloadn hK (i := 2) 4 kd29_26.2.2.2.2.2.2.1 rfl rfl ?_
        refine X_iconst hK kd29_26.2.2.2.2.2.2.2.1 ?_
        refine X_iadd hK kd29_26.2.2.2.2.2.2.2.2.1 ?_
        refine X_callV hK [.ref a1, .int (iI (x2 + 1))] [] lk_X7_132 (m_readOne_7 _ _ _ _ _ S g18 a0 a1 (x2 + 1) (na + 1) (no + 1) nf nq wt wp ns ws tk tl cn L b s0 hs_a0 hs_a1 (by omega) (by omega) (xs_s hg18) (by omega) ((xs_k hg18 (by decide)).trans (xs_s hg16)) (by omega) ((xs_k hg18 (by decide)).trans ((xs_k hg16 (by decide)).trans enf)) (by omega) ((xs_k hg18 (by decide)).trans ((xs_k hg16 (by decide)).trans enq)) ((xs_k hg18 (by decide)).trans ((xs_k hg16 (by decide)).trans ewt)) hs_wt ((xs_k hg18 (by decide)).trans ((xs_k hg16 (by decide)).trans ewp)) hs_wp (by omega) ((xs_a hg18 (xne hs_a1 hs_a0 (by decide))).trans ((xs_k hg16 (by decide)).trans ens)) ((xs_k hg18 (by decide)).trans ((xs_k hg16 (by decide)).trans ews)) hs_ws (by rw [(Eq.trans (xv_a hg18 (xne hs_wt hs_a0 (by decide))) (xv_a hg16 (xne hs_wt hs_a0 (by decide)))), (Eq.trans (xv_a hg18 (xne hs_wp hs_a0 (by decide))) (xv_a hg16 (xne hs_wp hs_a0 (by decide))))]; exact hp0) (by omega) (by omega) (by rw [(Eq.trans (xv_a hg18 (xne hs_ws hs_a0 (by decide))) (xv_a hg16 (xne hs_ws hs_a0 (by decide))))]; exact hp3) (by omega) (by omega)) hs_a0 ⟨by decide, rfl⟩ kd29_26.2.2.2.2.2.2.2.2.2.1 rfl rfl (by simp [Value.category]) (by decide) (by decide) (by decide) (by decide) (fun r21 S23 g22 pr21 qr21 hg22 => ?_)
        obtain ⟨rfl, rfl, k24⟩ := pr21
        refine X_st [] rfl ?_
        obtain ⟨Ft25, at25, ot25, qt25, nt25, eFt25, lFt25, uFt25, eat25, lat25, uat25, eot25, lot25, uot25, eqt25, lqt25, uqt25, ent25, lnt25, unt25, Lt25, kt25, stt25, fst25, ftt25⟩ := k24
        have cat25 : at25 ≤ 300 := (by omega)
        refine X_aloadn hK (i := 1) 3 kd29_26.2.2.2.2.2.2.2.2.2.2.1 rfl rfl ?_
        refine X_bipush hK kd29_26.2.2.2.2.2.2.2.2.2.2.2 (by decide) ?_
        refine X_iconst hK kd29_27.1 ?_
        refine X_iconst hK kd29_27.2.1 ?_
        refine X_callV hK [.int (iI 12), .int (iI 0), .int (iI 0)] [] lk_X7_129 (m_addStep _ _ _ _ _ S g22 a1 12 0 0 nt25 ws hs_a1 (by omega) (by omega) (by omega) (by omega) ent25 ((hg22 a1 11 0 7 hs_a1 (by decide)).trans ((xs_k hg18 (by decide)).trans ((xs_k hg16 (by decide)).trans ews))) hs_ws) hs_a1 ⟨by decide, rfl⟩ kd29_27.2.2.1 rfl rfl (by simp [Value.category]) (by decide) (by decide) (by decide) (by decide) (fun r26 S28 g27 pr26 qr26 hg27 => ?_)
        obtain ⟨rfl, rfl, k29, k30, k31, k32⟩ := pr26
        refine X_st [] rfl ?_
        exact hret _ _ _ _ _ _ kd29_27.2.2.2 ⟨rfl, rfl, ⟨Ft25, at25, ot25, qt25, (if nt25 < 100 then nt25 + 1 else nt25), ((hg27 a0 8 0 5 hs_a0 (by decide)).trans eFt25), by omega, by omega, ((hg27 a0 8 0 2 hs_a0 (by decide)).trans eat25), by omega, by omega, ((hg27 a0 8 0 3 hs_a0 (by decide)).trans eot25), by omega, by omega, ((hg27 a0 8 0 6 hs_a0 (by decide)).trans eqt25), by omega, by omega, k29, by omega, by omega, (Lt25 ++ [(12, 0, 0)]), (xRC.nt (by rw [← k5]; omega) (by omega) kt25 (fun _ => rfl)), (fun h9 => by have h6 := xRC.b (by omega) kt25 h9; have h5 := (stt25 h9).1; have h4 := hp3.1; exact (by have h9 := (xStq.add (x := (12, 0, 0)) (stt25 (by omega)) (by omega) (by have h4a := (k30.1 (by omega)).1; unfold xec9; (try dsimp only); omega) (k30.1 (by omega)).2); rw [if_pos (by omega)]; exact h9)), (xFr.tr (xFr.tr (xFr.t (xFr.t xFr.rf hg16 hs_a0 (by decide)) hg18 hs_a0 (by decide)) fst25) k31), (xFr.tr (xFr.tr (xFr.t (xFr.t xFr.rf hg16 hs_a0 (by decide)) hg18 hs_a0 (by decide)) ftt25) k32)⟩⟩ (Nat.le_refl _) (Nat.le_refl _)
    · refine X_iloadn hK (i := 3) 1 kd29_22.1 rfl rfl ?_
      refine X_bipush hK kd29_22.2.1 (by decide) ?_
      refine X_icmp_eq hK 49 (by omega) (by omega) kd29_22.2.2.1 (by decide) (fun c33 => False.elim (by omega)) (fun c33 => ?_)
      refine X_aloadn hK (i := 0) 2 kd29_22.2.2.2.1 rfl rfl ?_
      refine X_iconst hK kd29_22.2.2.2.2.1 ?_
      refine X_callV hK [.int (iI 1)] [] lk_X7_60 (c3_tell _ _ _ _ _ S g a0 1 na no nf nq wt wp tk tl cn hs_a0 (by omega) (by omega) ena (by omega) eno (by omega) enf (by omega) enq ewt hs_wt ewp hs_wp hp0 (by omega) (by omega)) hs_a0 ⟨by decide, rfl⟩ kd29_22.2.2.2.2.2.1 rfl rfl (by simp [Value.category]) (by decide) (by decide) (by decide) (by decide) (fun r34 S36 g35 pr34 qr34 hg35 => ?_)
      obtain ⟨rfl, rfl, k37⟩ := pr34
      refine X_st [] rfl ?_
      obtain ⟨Ft38, at38, ot38, qt38, eFt38, lFt38, uFt38, eat38, lat38, uat38, eot38, lot38, uot38, eqt38, lqt38, uqt38, kt38⟩ := k37
      have cat38 : at38 ≤ 300 := by have h9 := (show xTB (xv g35 wt) (xv g35 wp) tk tl cn from (by rw [(xv_m hg35 hs_wt (by decide) (by decide)), (xv_m hg35 hs_wp (by decide) (by decide))]; exact hp0)).2.2.2; omega
      refine X_goto hK 148 kd29_22.2.2.2.2.2.2.1 (by decide) ?_
      exact hret _ _ _ _ _ _ kd29_27.2.2.2 ⟨rfl, rfl, ⟨Ft38, at38, ot38, qt38, ns, eFt38, by omega, by omega, eat38, by omega, by omega, eot38, by omega, by omega, eqt38, by omega, by omega, ((hg35 a1 11 0 2 hs_a1 (by decide)).trans ens), by omega, by omega, [], (by obtain ⟨h8, h7, h6⟩ := kt38; have h5 := h8.resolve_left (fun q9 => by omega); rw [h5.2.1]; exact xRC.f1 (by rw [← k5]; omega) h5.2.2), (fun h9 => by have h8 := kt38; omega), (xFr.m xFr.rf hg35 (by decide)), (xFr.m xFr.rf hg35 (by decide))⟩⟩ (Nat.le_refl _) (Nat.le_refl _)
  · refine X_iloadn hK (i := 3) 0 kd29_21.1 rfl rfl ?_
    refine X_bipush hK kd29_21.2.1 (by decide) ?_
    refine X_icmp_ge hK 21 (by omega) (by omega) kd29_21.2.2.1 (by decide) (fun c39 => ?_) (fun c39 => ?_)
    · refine X_iconst hK kd29_21.2.2.2.2.2.1 ?_
      refine X_istore hK (i := 4) [(4, .int (iI 0)), (3, .int (iI z4)), (0, .ref a0), (1, .ref a1), (2, .int (iI x2))] kd29_21.2.2.2.2.2.2.1 (by decide) rfl ?_
      refine X_iload hK (i := 4) 0 kd29_21.2.2.2.2.2.2.2.1 rfl ?_
      refine X_if_ne hK 49 (by omega) kd29_21.2.2.2.2.2.2.2.2.1 (by decide) (fun c40 => False.elim (by omega)) (fun c40 => ?_)
      refine X_iloadn hK (i := 3) 1 kd29_21.2.2.2.2.2.2.2.2.2.1 rfl rfl ?_
      refine X_bipush hK kd29_21.2.2.2.2.2.2.2.2.2.2.1 (by decide) ?_
      refine X_icmp_eq hK 49 (by omega) (by omega) kd29_21.2.2.2.2.2.2.2.2.2.2.2 (by decide) (fun c41 => False.elim (by omega)) (fun c41 => ?_)
      refine X_iloadn hK (i := 3) 1 kd29_22.1 rfl rfl ?_
      refine X_bipush hK kd29_22.2.1 (by decide) ?_
      refine X_icmp_eq hK 49 (by omega) (by omega) kd29_22.2.2.1 (by decide) (fun c42 => ?_) (fun c42 => ?_)
      · refine X_aloadn hK (i := 0) 2 kd29_22.2.2.2.2.2.2.2.1 rfl rfl ?_
        refine X_getK hK fl_X7_22_8 hs_a0 eno kd29_22.2.2.2.2.2.2.2.2.1 ?_
        refine X_bipush hK kd29_22.2.2.2.2.2.2.2.2.2.1 (by decide) ?_
        refine X_icmp_ge hK 64 (by omega) (by omega) kd29_22.2.2.2.2.2.2.2.2.2.2.1 (by decide) (fun c43 => ?_) (fun c43 => ?_)
        · refine X_aloadn hK (i := 0) 2 kd29_23.2.2.1 rfl rfl ?_
          refine X_iconst hK kd29_23.2.2.2.1 ?_
          refine X_callV hK [.int (iI 4)] [] lk_X7_60 (c3_tell _ _ _ _ _ S g a0 4 na no nf nq wt wp tk tl cn hs_a0 (by omega) (by omega) ena (by omega) eno (by omega) enf (by omega) enq ewt hs_wt ewp hs_wp hp0 (by omega) (by omega)) hs_a0 ⟨by decide, rfl⟩ kd29_23.2.2.2.2.1 rfl rfl (by simp [Value.category]) (by decide) (by decide) (by decide) (by decide) (fun r44 S46 g45 pr44 qr44 hg45 => ?_)
          obtain ⟨rfl, rfl, k47⟩ := pr44
          refine X_st [] rfl ?_
          obtain ⟨Ft48, at48, ot48, qt48, eFt48, lFt48, uFt48, eat48, lat48, uat48, eot48, lot48, uot48, eqt48, lqt48, uqt48, kt48⟩ := k47
          have cat48 : at48 ≤ 300 := by have h9 := (show xTB (xv g45 wt) (xv g45 wp) tk tl cn from (by rw [(xv_m hg45 hs_wt (by decide) (by decide)), (xv_m hg45 hs_wp (by decide) (by decide))]; exact hp0)).2.2.2; omega
          refine X_goto hK 148 kd29_23.2.2.2.2.2.1 (by decide) ?_
          exact hret _ _ _ _ _ _ kd29_27.2.2.2 ⟨rfl, rfl, ⟨Ft48, at48, ot48, qt48, ns, eFt48, by omega, by omega, eat48, by omega, by omega, eot48, by omega, by omega, eqt48, by omega, by omega, ((hg45 a1 11 0 2 hs_a1 (by decide)).trans ens), by omega, by omega, [], (by obtain ⟨h8, h7, h6⟩ := kt48; have h5 := h8.resolve_left (fun q9 => by omega); rw [h5.2.1]; exact xRC.f4 (by rw [← k5]; omega) (by omega) h5.2.2), (fun h9 => by have h8 := kt48; omega), (xFr.m xFr.rf hg45 (by decide)), (xFr.m xFr.rf hg45 (by decide))⟩⟩ (Nat.le_refl _) (Nat.le_refl _)
        · refine X_iloadn hK (i := 2) 4 kd29_22.2.2.2.2.2.2.2.2.2.2.2 rfl rfl ?_
          refine X_bipush hK kd29_23.1 (by decide) ?_
          refine X_icmp_le hK 72 (by omega) (by omega) kd29_23.2.1 (by decide) (fun c49 => ?_) (fun c49 => False.elim (by omega))
          refine X_aloadn hK (i := 0) 2 kd29_23.2.2.2.2.2.2.1 rfl rfl ?_
          refine X_dup hK kd29_23.2.2.2.2.2.2.2.1 rfl ?_
          refine X_getK hK fl_X7_22_8 hs_a0 eno kd29_23.2.2.2.2.2.2.2.2.1 ?_
          refine X_iconst hK kd29_23.2.2.2.2.2.2.2.2.2.1 ?_
          refine X_iadd hK kd29_23.2.2.2.2.2.2.2.2.2.2.1 ?_
          refine X_puti hK fl_X7_22_8 hs_a0 (by decide) sl_8_3 (by omega) (by omega) kd29_23.2.2.2.2.2.2.2.2.2.2.2 (fun g50 hg50 => ?_)
          refine X_aloadn hK (i := 0) 2 kd29_24.1 rfl rfl ?_
          refine X_dup hK kd29_24.2.1 rfl ?_
          have hl51 := xTB.lt (A := xv g50 wt) (B := xv g50 wp) (tk := tk) (tl := tl) (c := cn) (a := na) (by rw [(xv_a hg50 (xne hs_wt hs_a0 (by decide))), (xv_a hg50 (xne hs_wp hs_a0 (by decide)))]; exact hp0) (by omega) (by rw [← k5]; omega)
          refine X_getK hK fl_X7_18_8 hs_a0 ((xs_k hg50 (by decide)).trans ena) kd29_24.2.2.1 ?_
          refine X_iconst hK kd29_24.2.2.2.1 ?_
          refine X_iadd hK kd29_24.2.2.2.2.1 ?_
          refine X_puti hK fl_X7_18_8 hs_a0 (by decide) sl_8_2 (by omega) (by omega) kd29_24.2.2.2.2.2.1 (fun g52 hg52 => ?_)
          refine X_iload hK (i := 4) 0 kd29_24.2.2.2.2.2.2.1 rfl ?_
          refine X_if_eq hK 109 (by omega) kd29_24.2.2.2.2.2.2.2.1 (by decide) (fun c53 => ?_) (fun c53 => False.elim (by omega))
          refine X_iloadn hK (i := 3) 1 kd29_25.2.2.2.1 rfl rfl ?_
          refine X_bipush hK kd29_25.2.2.2.2.1 (by decide) ?_
          refine X_icmp_ne hK 132 (by omega) (by omega) kd29_25.2.2.2.2.2.1 (by decide) (fun c54 => False.elim (by omega)) (fun c54 => ?_)
          refine X_aloadn hK (i := 0) 2 kd29_25.2.2.2.2.2.2.1 rfl rfl ?_
          refine X_aloadn hK (i := 1) 3 kd29_25.2.2.2.2.2.2.2.1 rfl rfl ?_
          refine X_iloadn hK (i := 2) 4 kd29_25.2.2.2.2.2.2.2.2.1 rfl rfl ?_
          refine X_iconst hK kd29_25.2.2.2.2.2.2.2.2.2.1 ?_
          refine X_iadd hK kd29_25.2.2.2.2.2.2.2.2.2.2.1 ?_
          refine X_callV hK [.ref a1, .int (iI (x2 + 1))] [] lk_X7_115 (m_readCond_7 _ _ _ _ _ S g52 a0 a1 (x2 + 1) (na + 1) (no + 1) nf nq wt wp ns ws tk tl cn L b s0 hs_a0 hs_a1 (by omega) (by omega) (xs_s hg52) (by omega) ((xs_k hg52 (by decide)).trans (xs_s hg50)) (by omega) ((xs_k hg52 (by decide)).trans ((xs_k hg50 (by decide)).trans enf)) (by omega) ((xs_k hg52 (by decide)).trans ((xs_k hg50 (by decide)).trans enq)) ((xs_k hg52 (by decide)).trans ((xs_k hg50 (by decide)).trans ewt)) hs_wt ((xs_k hg52 (by decide)).trans ((xs_k hg50 (by decide)).trans ewp)) hs_wp (by omega) ((xs_a hg52 (xne hs_a1 hs_a0 (by decide))).trans ((xs_k hg50 (by decide)).trans ens)) ((xs_k hg52 (by decide)).trans ((xs_k hg50 (by decide)).trans ews)) hs_ws (by rw [(Eq.trans (xv_a hg52 (xne hs_wt hs_a0 (by decide))) (xv_a hg50 (xne hs_wt hs_a0 (by decide)))), (Eq.trans (xv_a hg52 (xne hs_wp hs_a0 (by decide))) (xv_a hg50 (xne hs_wp hs_a0 (by decide))))]; exact hp0) (by omega) (by omega) (by rw [(Eq.trans (xv_a hg52 (xne hs_ws hs_a0 (by decide))) (xv_a hg50 (xne hs_ws hs_a0 (by decide))))]; exact hp3) (by omega) (by omega)) hs_a0 ⟨by decide, rfl⟩ kd29_25.2.2.2.2.2.2.2.2.2.2.2 rfl rfl (by simp [Value.category]) (by decide) (by decide) (by decide) (by decide) (fun r55 S57 g56 pr55 qr55 hg56 => ?_)
          obtain ⟨rfl, rfl, k58⟩ := pr55
          refine X_st [] rfl ?_
          obtain ⟨Ft59, at59, ot59, qt59, nt59, eFt59, lFt59, uFt59, eat59, lat59, uat59, eot59, lot59, uot59, eqt59, lqt59, uqt59, ent59, lnt59, unt59, Lt59, kt59, stt59, fst59, ftt59⟩ := k58
          have cat59 : at59 ≤ 300 := (by omega)
          refine X_aloadn hK (i := 0) 2 kd29_26.1 rfl rfl ?_
          refine X_bipush hK kd29_26.2.1 (by decide) ?_
          refine X_callV hK [.int (iI 26)] [] lk_X7_119 (c3_expect _ _ _ _ _ S g56 a0 26 at59 ot59 Ft59 qt59 wt wp tk tl cn hs_a0 (by omega) (by omega) eat59 (by omega) eot59 (by omega) eFt59 (by omega) eqt59 ((hg56 a0 8 0 0 hs_a0 (by decide)).trans ((xs_k hg52 (by decide)).trans ((xs_k hg50 (by decide)).trans ewt))) hs_wt ((hg56 a0 8 0 1 hs_a0 (by decide)).trans ((xs_k hg52 (by decide)).trans ((xs_k hg50 (by decide)).trans ewp))) hs_wp (by rw [(Eq.trans (Eq.trans (xv_m hg56 hs_wt (by decide) (by decide)) (xv_a hg52 (xne hs_wt hs_a0 (by decide)))) (xv_a hg50 (xne hs_wt hs_a0 (by decide)))), (Eq.trans (Eq.trans (xv_m hg56 hs_wp (by decide) (by decide)) (xv_a hg52 (xne hs_wp hs_a0 (by decide)))) (xv_a hg50 (xne hs_wp hs_a0 (by decide))))]; exact hp0) (by omega) (by omega)) hs_a0 ⟨by decide, rfl⟩ kd29_26.2.2.1 rfl rfl (by simp [Value.category]) (by decide) (by decide) (by decide) (by decide) (fun r60 S62 g61 pr60 qr60 hg61 => ?_)
          obtain ⟨rfl, rfl, k63⟩ := pr60
          refine X_st [] rfl ?_
          obtain ⟨Ft64, at64, ot64, qt64, eFt64, lFt64, uFt64, eat64, lat64, uat64, eot64, lot64, uot64, eqt64, lqt64, uqt64, kt64⟩ := k63
          have cat64 : at64 ≤ 300 := by have h9 := (show xTB (xv g61 wt) (xv g61 wp) tk tl cn from (by rw [(Eq.trans (Eq.trans (Eq.trans (xv_m hg61 hs_wt (by decide) (by decide)) (xv_m hg56 hs_wt (by decide) (by decide))) (xv_a hg52 (xne hs_wt hs_a0 (by decide)))) (xv_a hg50 (xne hs_wt hs_a0 (by decide)))), (Eq.trans (Eq.trans (Eq.trans (xv_m hg61 hs_wp (by decide) (by decide)) (xv_m hg56 hs_wp (by decide) (by decide))) (xv_a hg52 (xne hs_wp hs_a0 (by decide)))) (xv_a hg50 (xne hs_wp hs_a0 (by decide))))]; exact hp0)).2.2.2; omega
          refine X_goto hK 148 kd29_26.2.2.2.1 (by decide) ?_
          exact hret _ _ _ _ _ _ kd29_27.2.2.2 ⟨rfl, rfl, ⟨Ft64, at64, ot64, qt64, nt59, eFt64, by omega, by omega, eat64, by omega, by omega, eot64, by omega, by omega, eqt64, by omega, by omega, ((hg61 a1 11 0 2 hs_a1 (by decide)).trans ent59), by omega, by omega, Lt59, (by obtain ⟨h8, h7⟩ := kt64; by_cases f9 : Ft59 = 0; (rcases h8 with ⟨c1, c2, c3, c4⟩ | ⟨c1, c2, c3⟩; (rw [show Ft64 = 0 by omega, c3, h7]; exact xRC.po (by rw [← k5]; omega) (by omega) (show xRC tk tl 2 (6 + 1) (na + 1) (no + 1) L Ft59 at59 ot59 qt59 Lt59 from kt59) f9 c1); (have c4 := c3.resolve_left (fun q9 => q9.1 f9); rw [c4.2.1]; exact xRC.px (by rw [← k5]; omega) (by omega) (show xRC tk tl 2 (6 + 1) (na + 1) (no + 1) L Ft59 at59 ot59 qt59 Lt59 from kt59) f9 c1 c4.2.2)); (have h6 : Ft64 = Ft59 ∧ qt64 = qt59 := (by omega); rw [h6.1, h6.2]; exact xRC.pf (by rw [← k5]; omega) (by omega) (show xRC tk tl 2 (6 + 1) (na + 1) (no + 1) L Ft59 at59 ot59 qt59 Lt59 from kt59) f9)), (fun h9 => by have h8 := kt64; have h7 : Ft59 = 0 := (by omega); rw [(xv_m hg61 hs_ws (by decide) (by decide))]; exact stt59 h7), (xFr.m (xFr.tr (xFr.t (xFr.t xFr.rf hg50 hs_a0 (by decide)) hg52 hs_a0 (by decide)) fst59) hg61 (by decide)), (xFr.m (xFr.tr (xFr.t (xFr.t xFr.rf hg50 hs_a0 (by decide)) hg52 hs_a0 (by decide)) ftt59) hg61 (by decide))⟩⟩ (Nat.le_refl _) (Nat.le_refl _)
      · refine X_aloadn hK (i := 0) 2 kd29_22.2.2.2.1 rfl rfl ?_
        refine X_iconst hK kd29_22.2.2.2.2.1 ?_
        refine X_callV hK [.int (iI 1)] [] lk_X7_60 (c3_tell _ _ _ _ _ S g a0 1 na no nf nq wt wp tk tl cn hs_a0 (by omega) (by omega) ena (by omega) eno (by omega) enf (by omega) enq ewt hs_wt ewp hs_wp hp0 (by omega) (by omega)) hs_a0 ⟨by decide, rfl⟩ kd29_22.2.2.2.2.2.1 rfl rfl (by simp [Value.category]) (by decide) (by decide) (by decide) (by decide) (fun r65 S67 g66 pr65 qr65 hg66 => ?_)
        obtain ⟨rfl, rfl, k68⟩ := pr65
        refine X_st [] rfl ?_
        obtain ⟨Ft69, at69, ot69, qt69, eFt69, lFt69, uFt69, eat69, lat69, uat69, eot69, lot69, uot69, eqt69, lqt69, uqt69, kt69⟩ := k68
        have cat69 : at69 ≤ 300 := by have h9 := (show xTB (xv g66 wt) (xv g66 wp) tk tl cn from (by rw [(xv_m hg66 hs_wt (by decide) (by decide)), (xv_m hg66 hs_wp (by decide) (by decide))]; exact hp0)).2.2.2; omega
        refine X_goto hK 148 kd29_22.2.2.2.2.2.2.1 (by decide) ?_
        exact hret _ _ _ _ _ _ kd29_27.2.2.2 ⟨rfl, rfl, ⟨Ft69, at69, ot69, qt69, ns, eFt69, by omega, by omega, eat69, by omega, by omega, eot69, by omega, by omega, eqt69, by omega, by omega, ((hg66 a1 11 0 2 hs_a1 (by decide)).trans ens), by omega, by omega, [], (by obtain ⟨h8, h7, h6⟩ := kt69; have h5 := h8.resolve_left (fun q9 => by omega); rw [h5.2.1]; exact xRC.f1 (by rw [← k5]; omega) h5.2.2), (fun h9 => by have h8 := kt69; omega), (xFr.m xFr.rf hg66 (by decide)), (xFr.m xFr.rf hg66 (by decide))⟩⟩ (Nat.le_refl _) (Nat.le_refl _)
    · refine X_iconst hK kd29_21.2.2.2.1 ?_
      refine X_goto hK 22 kd29_21.2.2.2.2.1 (by decide) ?_
      refine X_istore hK (i := 4) [(4, .int (iI 1)), (3, .int (iI z4)), (0, .ref a0), (1, .ref a1), (2, .int (iI x2))] kd29_21.2.2.2.2.2.2.1 (by decide) rfl ?_
      refine X_iload hK (i := 4) 0 kd29_21.2.2.2.2.2.2.2.1 rfl ?_
      refine X_if_ne hK 49 (by omega) kd29_21.2.2.2.2.2.2.2.2.1 (by decide) (fun c70 => ?_) (fun c70 => False.elim (by omega))
      refine X_aloadn hK (i := 0) 2 kd29_22.2.2.2.2.2.2.2.1 rfl rfl ?_
      refine X_getK hK fl_X7_22_8 hs_a0 eno kd29_22.2.2.2.2.2.2.2.2.1 ?_
      refine X_bipush hK kd29_22.2.2.2.2.2.2.2.2.2.1 (by decide) ?_
      refine X_icmp_ge hK 64 (by omega) (by omega) kd29_22.2.2.2.2.2.2.2.2.2.2.1 (by decide) (fun c71 => ?_) (fun c71 => ?_)
      · refine X_aloadn hK (i := 0) 2 kd29_23.2.2.1 rfl rfl ?_
        refine X_iconst hK kd29_23.2.2.2.1 ?_
        refine X_callV hK [.int (iI 4)] [] lk_X7_60 (c3_tell _ _ _ _ _ S g a0 4 na no nf nq wt wp tk tl cn hs_a0 (by omega) (by omega) ena (by omega) eno (by omega) enf (by omega) enq ewt hs_wt ewp hs_wp hp0 (by omega) (by omega)) hs_a0 ⟨by decide, rfl⟩ kd29_23.2.2.2.2.1 rfl rfl (by simp [Value.category]) (by decide) (by decide) (by decide) (by decide) (fun r72 S74 g73 pr72 qr72 hg73 => ?_)
        obtain ⟨rfl, rfl, k75⟩ := pr72
        refine X_st [] rfl ?_
        obtain ⟨Ft76, at76, ot76, qt76, eFt76, lFt76, uFt76, eat76, lat76, uat76, eot76, lot76, uot76, eqt76, lqt76, uqt76, kt76⟩ := k75
        have cat76 : at76 ≤ 300 := by have h9 := (show xTB (xv g73 wt) (xv g73 wp) tk tl cn from (by rw [(xv_m hg73 hs_wt (by decide) (by decide)), (xv_m hg73 hs_wp (by decide) (by decide))]; exact hp0)).2.2.2; omega
        refine X_goto hK 148 kd29_23.2.2.2.2.2.1 (by decide) ?_
        exact hret _ _ _ _ _ _ kd29_27.2.2.2 ⟨rfl, rfl, ⟨Ft76, at76, ot76, qt76, ns, eFt76, by omega, by omega, eat76, by omega, by omega, eot76, by omega, by omega, eqt76, by omega, by omega, ((hg73 a1 11 0 2 hs_a1 (by decide)).trans ens), by omega, by omega, [], (by obtain ⟨h8, h7, h6⟩ := kt76; have h5 := h8.resolve_left (fun q9 => by omega); rw [h5.2.1]; exact xRC.f4 (by rw [← k5]; omega) (by omega) h5.2.2), (fun h9 => by have h8 := kt76; omega), (xFr.m xFr.rf hg73 (by decide)), (xFr.m xFr.rf hg73 (by decide))⟩⟩ (Nat.le_refl _) (Nat.le_refl _)
      · refine X_iloadn hK (i := 2) 4 kd29_22.2.2.2.2.2.2.2.2.2.2.2 rfl rfl ?_
        refine X_bipush hK kd29_23.1 (by decide) ?_
        refine X_icmp_le hK 72 (by omega) (by omega) kd29_23.2.1 (by decide) (fun c77 => ?_) (fun c77 => False.elim (by omega))
        refine X_aloadn hK (i := 0) 2 kd29_23.2.2.2.2.2.2.1 rfl rfl ?_
        refine X_dup hK kd29_23.2.2.2.2.2.2.2.1 rfl ?_
        refine X_getK hK fl_X7_22_8 hs_a0 eno kd29_23.2.2.2.2.2.2.2.2.1 ?_
        refine X_iconst hK kd29_23.2.2.2.2.2.2.2.2.2.1 ?_
        refine X_iadd hK kd29_23.2.2.2.2.2.2.2.2.2.2.1 ?_
        refine X_puti hK fl_X7_22_8 hs_a0 (by decide) sl_8_3 (by omega) (by omega) kd29_23.2.2.2.2.2.2.2.2.2.2.2 (fun g78 hg78 => ?_)
        refine X_aloadn hK (i := 0) 2 kd29_24.1 rfl rfl ?_
        refine X_dup hK kd29_24.2.1 rfl ?_
        have hl79 := xTB.lt (A := xv g78 wt) (B := xv g78 wp) (tk := tk) (tl := tl) (c := cn) (a := na) (by rw [(xv_a hg78 (xne hs_wt hs_a0 (by decide))), (xv_a hg78 (xne hs_wp hs_a0 (by decide)))]; exact hp0) (by omega) (by rw [← k5]; omega)
        refine X_getK hK fl_X7_18_8 hs_a0 ((xs_k hg78 (by decide)).trans ena) kd29_24.2.2.1 ?_
        refine X_iconst hK kd29_24.2.2.2.1 ?_
        refine X_iadd hK kd29_24.2.2.2.2.1 ?_
        refine X_puti hK fl_X7_18_8 hs_a0 (by decide) sl_8_2 (by omega) (by omega) kd29_24.2.2.2.2.2.1 (fun g80 hg80 => ?_)
        refine X_iload hK (i := 4) 0 kd29_24.2.2.2.2.2.2.1 rfl ?_
        refine X_if_eq hK 109 (by omega) kd29_24.2.2.2.2.2.2.2.1 (by decide) (fun c81 => False.elim (by omega)) (fun c81 => ?_)
        refine X_aloadn hK (i := 0) 2 kd29_24.2.2.2.2.2.2.2.2.1 rfl rfl ?_
        refine X_aloadn hK (i := 1) 3 kd29_24.2.2.2.2.2.2.2.2.2.1 rfl rfl ?_
        refine X_iloadn hK (i := 3) 1 kd29_24.2.2.2.2.2.2.2.2.2.2.1 rfl rfl ?_
        refine X_bipush hK kd29_24.2.2.2.2.2.2.2.2.2.2.2 (by decide) ?_
        refine X_isub hK kd29_25.1 ?_
        refine X_callV hK [.ref a1, .int (iI (z4 - 10))] [] lk_X7_135 (m_readFact _ _ _ _ _ S g80 a0 a1 (z4 - 10) (na + 1) (no + 1) nf nq wt wp ns ws tk tl cn L b s0 6 hs_a0 hs_a1 (by omega) (by omega) (xs_s hg80) (by omega) ((xs_k hg80 (by decide)).trans (xs_s hg78)) (by omega) ((xs_k hg80 (by decide)).trans ((xs_k hg78 (by decide)).trans enf)) (by omega) ((xs_k hg80 (by decide)).trans ((xs_k hg78 (by decide)).trans enq)) ((xs_k hg80 (by decide)).trans ((xs_k hg78 (by decide)).trans ewt)) hs_wt ((xs_k hg80 (by decide)).trans ((xs_k hg78 (by decide)).trans ewp)) hs_wp (by omega) ((xs_a hg80 (xne hs_a1 hs_a0 (by decide))).trans ((xs_k hg78 (by decide)).trans ens)) ((xs_k hg80 (by decide)).trans ((xs_k hg78 (by decide)).trans ews)) hs_ws (by rw [(Eq.trans (xv_a hg80 (xne hs_wt hs_a0 (by decide))) (xv_a hg78 (xne hs_wt hs_a0 (by decide)))), (Eq.trans (xv_a hg80 (xne hs_wp hs_a0 (by decide))) (xv_a hg78 (xne hs_wp hs_a0 (by decide))))]; exact hp0) (by omega) (by omega) (by rw [(Eq.trans (xv_a hg80 (xne hs_ws hs_a0 (by decide))) (xv_a hg78 (xne hs_ws hs_a0 (by decide))))]; exact hp3) (by omega) (by omega) (by rw [show (na + 1) - 1 = na by omega, ← k5]; omega) (by omega)) hs_a0 ⟨by decide, rfl⟩ kd29_25.2.1 rfl rfl (by simp [Value.category]) (by decide) (by decide) (by decide) (by decide) (fun r82 S84 g83 pr82 qr82 hg83 => ?_)
        obtain ⟨rfl, rfl, k85⟩ := pr82
        refine X_st [] rfl ?_
        obtain ⟨Ft86, at86, ot86, qt86, nt86, eFt86, lFt86, uFt86, eat86, lat86, uat86, eot86, lot86, uot86, eqt86, lqt86, uqt86, ent86, lnt86, unt86, Lt86, kt86, stt86, fst86, ftt86⟩ := k85
        have cat86 : at86 ≤ 300 := (by omega)
        refine X_goto hK 148 kd29_25.2.2.1 (by decide) ?_
        exact hret _ _ _ _ _ _ kd29_27.2.2.2 ⟨rfl, rfl, ⟨Ft86, at86, ot86, qt86, nt86, eFt86, by omega, by omega, eat86, by omega, by omega, eot86, by omega, by omega, eqt86, by omega, by omega, ent86, by omega, by omega, Lt86, (by have h9 := kt86; rw [show na + 1 - 1 = na by omega, show no + 1 - 1 = no by omega] at h9; exact h9), stt86, (xFr.tr (xFr.t (xFr.t xFr.rf hg78 hs_a0 (by decide)) hg80 hs_a0 (by decide)) fst86), (xFr.tr (xFr.t (xFr.t xFr.rf hg78 hs_a0 (by decide)) hg80 hs_a0 (by decide)) ftt86)⟩⟩ (Nat.le_refl _) (Nat.le_refl _)

set_option maxHeartbeats 4000000 in
set_option maxRecDepth 100000 in
theorem m_readAll_6 (l : Launch) (D : va_G) (kA : Nat → ClassId) (b0 : Nat) (t0 : Nat → Nat) (S : xT) (g : xG) (a0 : Nat) (a1 : Nat) (x2 : Int) (na : Int) (no : Int) (nf : Int) (nq : Int) (wt : Nat) (wp : Nat) (ns : Int) (ws : Nat) (tk : Int → Int) (tl : Int → Int) (cn : Int) (L : List xS3) (b : Int) (s0 : Int → Int) (hs_a0 : S a0 = some (8, 0)) (hs_a1 : S a1 = some (11, 0)) (hx2 : 6 ≤ x2 ∧ x2 ≤ 6) (hna : 0 ≤ na ∧ na ≤ 300) (ena : g a0 2 = .int (iI na)) (hno : 0 ≤ no ∧ no ≤ 50) (eno : g a0 3 = .int (iI no)) (hnf : 0 ≤ nf ∧ nf ≤ 0) (enf : g a0 5 = .int (iI nf)) (hnq : 0 ≤ nq ∧ nq ≤ 300) (enq : g a0 6 = .int (iI nq)) (ewt : g a0 0 = .ref wt) (hs_wt : S wt = some (12900, 301)) (ewp : g a0 1 = .ref wp) (hs_wp : S wp = some (13000, 301)) (hns : 0 ≤ ns ∧ ns ≤ 100) (ens : g a1 2 = .int (iI ns)) (ews : g a1 7 = .ref ws) (hs_ws : S ws = some (14000, 100)) (hp0 : xTB (xv g wt) (xv g wp) tk tl cn) (hp1 : na ≤ cn) (hp2 : cn ≤ 300) (hp3 : xStq (xv g ws) s0 b ns L) (hp4 : 0 ≤ b) (hp5 : ns ≤ 2 * no) : xMt l yX7_readAll cX7_readAll 4 none 17 0 0 395 D kA b0 t0 [(8, 5), (8, 6), (8, 3), (8, 2), (14000, 0), (11, 2)] [.ref a0, .ref a1, .int (iI x2)] S g (fun (r : Option Value) (S1 : xT) (g1 : xG) => S = S1 ∧ r = none ∧ (∃ F a o q n : Int, g1 a0 5 = .int (iI F) ∧ -2147483648 ≤ F ∧ F ≤ 2147483647 ∧ g1 a0 2 = .int (iI a) ∧ 0 ≤ a ∧ a ≤ cn ∧ g1 a0 3 = .int (iI o) ∧ 0 ≤ o ∧ o ≤ 50 ∧ g1 a0 6 = .int (iI q) ∧ 0 ≤ q ∧ q ≤ 300 ∧ g1 a1 2 = .int (iI n) ∧ 0 ≤ n ∧ n ≤ 100 ∧ ∃ L1 : List xS3, xRC tk tl 1 6 na no L F a o q L1 ∧ (F = 0 → xStq (xv g1 ws) s0 b n L1) ∧ xFr 14000 S g g1 ws ∧ xFr 11 S g g1 a1)) := by
  refine xEnterV (by decide) (by simp [lg_sl, Value.category]) [(0, .ref a0), (1, .ref a1), (2, .int (iI x2))] rfl ?_
  intro K E hK hret _ _ _
  refine X_aloadn hK (i := 0) 0 kd29_0.1 rfl rfl ?_
  refine X_aloadn hK (i := 1) 1 kd29_0.2.1 rfl rfl ?_
  refine X_iloadn hK (i := 2) 2 kd29_0.2.2.1 rfl rfl ?_
  refine X_callV hK [.ref a1, .int (iI x2)] [] lk_X7_132 (m_readOne_6 _ _ _ _ _ S g a0 a1 x2 na no nf nq wt wp ns ws tk tl cn L b s0 hs_a0 hs_a1 (by omega) (by omega) ena (by omega) eno (by omega) enf (by omega) enq ewt hs_wt ewp hs_wp (by omega) ens ews hs_ws hp0 (by omega) (by omega) hp3 (by omega) (by omega)) hs_a0 ⟨by decide, rfl⟩ kd29_0.2.2.2.1 rfl rfl (by simp [Value.category]) (by decide) (by decide) (by decide) (by decide) (fun r1 S3 g2 pr1 qr1 hg2 => ?_)
  obtain ⟨rfl, rfl, k4⟩ := pr1
  refine X_st [] rfl ?_
  obtain ⟨Ft5, at5, ot5, qt5, nt5, eFt5, lFt5, uFt5, eat5, lat5, uat5, eot5, lot5, uot5, eqt5, lqt5, uqt5, ent5, lnt5, unt5, Lt5, kt5, stt5, fst5, ftt5⟩ := k4
  have cat5 : at5 ≤ 300 := (by omega)
  refine X_iconst hK kd29_0.2.2.2.2.1 ?_
  refine X_istoren hK (i := 3) [(3, .int (iI 0)), (0, .ref a0), (1, .ref a1), (2, .int (iI x2))] kd29_0.2.2.2.2.2.1 rfl (by decide) rfl ?_
  have P150 : ∀ (nP150 : Nat) (g122 : xG) (_ : xM [(14000, 0), (11, 2), (8, 5), (8, 6), (8, 3), (8, 2)] S g2 g122) (z121 : Int) (_ : 0 ≤ z121) (_ : z121 ≤ 50) (q123 : Int) (_ : 0 ≤ q123) (_ : q123 ≤ 300) (_ : g122 a0 2 = .int (iI q123)) (q124 : Int) (_ : 0 ≤ q124) (_ : q124 ≤ 50) (_ : g122 a0 3 = .int (iI q124)) (q125 : Int) (_ : (-2147483648) ≤ q125) (_ : q125 ≤ 2147483647) (_ : g122 a0 5 = .int (iI q125)) (q126 : Int) (_ : 0 ≤ q126) (_ : q126 ≤ 300) (_ : g122 a0 6 = .int (iI q126)) (q127 : Int) (_ : 0 ≤ q127) (_ : q127 ≤ 100) (_ : g122 a1 2 = .int (iI q127)) (_ : ∃ Li : List xS3, xIC tk tl 1 6 na no L q125 q123 q124 q126 Li ∧ (q125 = 0 → xStq (xv g122 ws) s0 b q127 Li ∧ q127 ≤ 2 * q124 - 1)) (_ : q125 = 0 → no + 1 + z121 ≤ q124) (_ : q123 ≤ cn) (_ : xFr 14000 S g g122 ws) (_ : xFr 11 S g g122 a1) (_ : 60 - z121 < (nP150 : Int)), X K E 8 [(3, .int (iI z121)), (0, .ref a0), (1, .ref a1), (2, .int (iI x2))] [] S g122 0 0 := by
    intro nP150
    induction nP150 with
    | zero => intro g122 hg122 z121 lz121 uz121 q123 lq123 uq123 eq123 q124 lq124 uq124 eq124 q125 lq125 uq125 eq125 q126 lq126 uq126 eq126 q127 lq127 uq127 eq127 v151 v152 v153 v154 v155 mP150; exact False.elim (by omega)
    | succ nP150 ihP150 =>
      intro g122 hg122 z121 lz121 uz121 q123 lq123 uq123 eq123 q124 lq124 uq124 eq124 q125 lq125 uq125 eq125 q126 lq126 uq126 eq126 q127 lq127 uq127 eq127 v151 v152 v153 v154 v155 mP150
      refine X_iloadn hK (i := 3) 0 kd29_0.2.2.2.2.2.2.1 rfl rfl ?_
      obtain ⟨Lij156, ij156, sj156⟩ := id v151
      have ivj156 : q125 = 0 → _ := fun h9 => (sj156 h9).1
      have nbj156 : q125 = 0 → q127 ≤ 2 * q124 - 1 := fun h9 => (sj156 h9).2
      refine X_bipush hK kd29_0.2.2.2.2.2.2.2.1 (by decide) ?_
      refine X_icmp_ge hK 60 (by omega) (by omega) kd29_0.2.2.2.2.2.2.2.2.1 (by decide) (fun c157 => ?_) (fun c157 => ?_)
      · exact hret _ _ _ _ _ _ kd29_2.2.2.2.2.2.2.2.2.2.1 ⟨rfl, rfl, ⟨q125, q123, q124, q126, q127, eq125, by omega, by omega, eq123, by omega, by omega, eq124, by omega, by omega, eq126, by omega, by omega, eq127, by omega, by omega, Lij156, (xIC.e ij156 (fun h9 => False.elim (by have h8 := v152 h9; omega))), (fun h9 => (sj156 h9).1), v154, v155⟩⟩ (Nat.le_refl _) (Nat.le_refl _)
      · refine X_aloadn hK (i := 0) 1 kd29_0.2.2.2.2.2.2.2.2.2.1 rfl rfl ?_
        refine X_getK hK fl_X7_29_8 hs_a0 eq125 kd29_0.2.2.2.2.2.2.2.2.2.2.1 ?_
        refine X_if_ne hK 60 (by omega) kd29_0.2.2.2.2.2.2.2.2.2.2.2 (by decide) (fun c158 => ?_) (fun c158 => ?_)
        · exact hret _ _ _ _ _ _ kd29_2.2.2.2.2.2.2.2.2.2.1 ⟨rfl, rfl, ⟨q125, q123, q124, q126, q127, eq125, by omega, by omega, eq123, by omega, by omega, eq124, by omega, by omega, eq126, by omega, by omega, eq127, by omega, by omega, Lij156, (xIC.e ij156 (fun h9 => False.elim (by have h8 := v152 h9; omega))), (fun h9 => (sj156 h9).1), v154, v155⟩⟩ (Nat.le_refl _) (Nat.le_refl _)
        · refine X_aloadn hK (i := 0) 1 kd29_1.1 rfl rfl ?_
          refine X_callV hK [] [] lk_X7_47 (c3_now _ _ _ _ _ S g122 a0 q123 wt wp tk tl cn hs_a0 (by omega) eq123 ((hg122 a0 8 0 0 hs_a0 (by decide)).trans ((hg2 a0 8 0 0 hs_a0 (by decide)).trans ewt)) hs_wt ((hg122 a0 8 0 1 hs_a0 (by decide)).trans ((hg2 a0 8 0 1 hs_a0 (by decide)).trans ewp)) hs_wp (by rw [(Eq.trans (xv_m hg122 hs_wt (by decide) (by decide)) (xv_m hg2 hs_wt (by decide) (by decide))), (Eq.trans (xv_m hg122 hs_wp (by decide) (by decide)) (xv_m hg2 hs_wp (by decide) (by decide)))]; exact hp0) (by omega) (by omega)) hs_a0 ⟨by decide, rfl⟩ kd29_1.2.1 rfl rfl (by simp [Value.category]) (by decide) (by decide) (by decide) (by decide) (fun r159 S161 g160 pr159 qr159 hg160 => ?_)
          obtain ⟨rfl, rfl, z162, rfl, lz162, uz162, k163⟩ := pr159
          refine X_st [.int (iI z162)] rfl ?_
          refine X_bipush hK kd29_1.2.2.1 (by decide) ?_
          refine X_icmp_ne hK 60 (by omega) (by omega) kd29_1.2.2.2.1 (by decide) (fun c164 => ?_) (fun c164 => ?_)
          · exact hret _ _ _ _ _ _ kd29_2.2.2.2.2.2.2.2.2.2.1 ⟨rfl, rfl, ⟨q125, q123, q124, q126, q127, eq125, by omega, by omega, eq123, by omega, by omega, eq124, by omega, by omega, eq126, by omega, by omega, eq127, by omega, by omega, Lij156, (xIC.e ij156 (fun h9 => Or.inl ⟨rfl, by rw [← k163]; omega⟩)), (fun h9 => (sj156 h9).1), v154, v155⟩⟩ (Nat.le_refl _) (Nat.le_refl _)
          · refine X_aloadn hK (i := 0) 1 kd29_1.2.2.2.2.1 rfl rfl ?_
            refine X_dup hK kd29_1.2.2.2.2.2.1 rfl ?_
            have hl165 := xTB.lt (A := xv g122 wt) (B := xv g122 wp) (tk := tk) (tl := tl) (c := cn) (a := q123) (by rw [(Eq.trans (xv_m hg122 hs_wt (by decide) (by decide)) (xv_m hg2 hs_wt (by decide) (by decide))), (Eq.trans (xv_m hg122 hs_wp (by decide) (by decide)) (xv_m hg2 hs_wp (by decide) (by decide)))]; exact hp0) (by omega) (by rw [← k163]; omega)
            refine X_getK hK fl_X7_18_8 hs_a0 eq123 kd29_1.2.2.2.2.2.2.1 ?_
            refine X_iconst hK kd29_1.2.2.2.2.2.2.2.1 ?_
            refine X_iadd hK kd29_1.2.2.2.2.2.2.2.2.1 ?_
            refine X_puti hK fl_X7_18_8 hs_a0 (by decide) sl_8_2 (by omega) (by omega) kd29_1.2.2.2.2.2.2.2.2.2.1 (fun g166 hg166 => ?_)
            refine X_aloadn hK (i := 0) 1 kd29_1.2.2.2.2.2.2.2.2.2.2.1 rfl rfl ?_
            refine X_aloadn hK (i := 1) 2 kd29_1.2.2.2.2.2.2.2.2.2.2.2 rfl rfl ?_
            refine X_iloadn hK (i := 2) 3 kd29_2.1 rfl rfl ?_
            refine X_callV hK [.ref a1, .int (iI x2)] [] lk_X7_132 (m_readOne_6 _ _ _ _ _ S g166 a0 a1 x2 (q123 + 1) q124 q125 q126 wt wp q127 ws tk tl cn Lij156 b s0 hs_a0 hs_a1 (by omega) (by omega) (xs_s hg166) (by omega) ((xs_k hg166 (by decide)).trans eq124) (by omega) ((xs_k hg166 (by decide)).trans eq125) (by omega) ((xs_k hg166 (by decide)).trans eq126) ((xs_k hg166 (by decide)).trans ((hg122 a0 8 0 0 hs_a0 (by decide)).trans ((hg2 a0 8 0 0 hs_a0 (by decide)).trans ewt))) hs_wt ((xs_k hg166 (by decide)).trans ((hg122 a0 8 0 1 hs_a0 (by decide)).trans ((hg2 a0 8 0 1 hs_a0 (by decide)).trans ewp))) hs_wp (by omega) ((xs_a hg166 (xne hs_a1 hs_a0 (by decide))).trans eq127) ((xs_k hg166 (by decide)).trans ((hg122 a1 11 0 7 hs_a1 (by decide)).trans ((hg2 a1 11 0 7 hs_a1 (by decide)).trans ews))) hs_ws (by rw [(Eq.trans (Eq.trans (xv_a hg166 (xne hs_wt hs_a0 (by decide))) (xv_m hg122 hs_wt (by decide) (by decide))) (xv_m hg2 hs_wt (by decide) (by decide))), (Eq.trans (Eq.trans (xv_a hg166 (xne hs_wp hs_a0 (by decide))) (xv_m hg122 hs_wp (by decide) (by decide))) (xv_m hg2 hs_wp (by decide) (by decide)))]; exact hp0) (by omega) (by omega) (by rw [(xv_a hg166 (xne hs_ws hs_a0 (by decide)))]; exact (ivj156 (by omega))) (by omega) (by omega)) hs_a0 ⟨by decide, rfl⟩ kd29_2.2.1 rfl rfl (by simp [Value.category]) (by decide) (by decide) (by decide) (by decide) (fun r167 S169 g168 pr167 qr167 hg168 => ?_)
            obtain ⟨rfl, rfl, k170⟩ := pr167
            refine X_st [] rfl ?_
            obtain ⟨Ft171, at171, ot171, qt171, nt171, eFt171, lFt171, uFt171, eat171, lat171, uat171, eot171, lot171, uot171, eqt171, lqt171, uqt171, ent171, lnt171, unt171, Lt171, kt171, stt171, fst171, ftt171⟩ := k170
            have cat171 : at171 ≤ 300 := (by omega)
            refine X_aloadn hK (i := 1) 2 kd29_2.2.2.1 rfl rfl ?_
            refine X_bipush hK kd29_2.2.2.2.1 (by decide) ?_
            refine X_iconst hK kd29_2.2.2.2.2.1 ?_
            refine X_iconst hK kd29_2.2.2.2.2.2.1 ?_
            refine X_callV hK [.int (iI 13), .int (iI 0), .int (iI 0)] [] lk_X7_129 (m_addStep _ _ _ _ _ S g168 a1 13 0 0 nt171 ws hs_a1 (by omega) (by omega) (by omega) (by omega) ent171 ((hg168 a1 11 0 7 hs_a1 (by decide)).trans ((xs_k hg166 (by decide)).trans ((hg122 a1 11 0 7 hs_a1 (by decide)).trans ((hg2 a1 11 0 7 hs_a1 (by decide)).trans ews)))) hs_ws) hs_a1 ⟨by decide, rfl⟩ kd29_2.2.2.2.2.2.2.1 rfl rfl (by simp [Value.category]) (by decide) (by decide) (by decide) (by decide) (fun r172 S174 g173 pr172 qr172 hg173 => ?_)
            obtain ⟨rfl, rfl, k175, k176, k177, k178⟩ := pr172
            refine X_st [] rfl ?_
            refine X_iinc hK (i := 3) (z := z121) (n := 1) 0 [(3, .int (iI (z121 + 1))), (0, .ref a0), (1, .ref a1), (2, .int (iI x2))] kd29_2.2.2.2.2.2.2.2.1 rfl (by decide) rfl ?_
            refine X_goto hK 8 kd29_2.2.2.2.2.2.2.2.2.1 (by decide) ?_
            exact ihP150  g173 (xM.tr (xM.tr (xM_up (xM.tr xM.rf xLe.rf hg122 (by decide)) hg166 hs_a0 (by decide) (by decide)) xLe.rf hg168 (by decide)) xLe.rf hg173 (by decide)) (z121 + 1) (by omega) (by omega) at171 (by omega) (by omega) ((hg173 a0 8 0 2 hs_a0 (by decide)).trans eat171) ot171 (by omega) (by omega) ((hg173 a0 8 0 3 hs_a0 (by decide)).trans eot171) Ft171 (by omega) (by omega) ((hg173 a0 8 0 5 hs_a0 (by decide)).trans eFt171) qt171 (by omega) (by omega) ((hg173 a0 8 0 6 hs_a0 (by decide)).trans eqt171) (if nt171 < 100 then nt171 + 1 else nt171) (by omega) (by omega) k175 ⟨Lt171 ++ [(13, 0, 0)], xIC.s (Or.inl ⟨rfl, rfl, rfl, (by rw [← k163]; omega)⟩) ij156 (by omega) kt171 (fun _ => rfl), fun h9 => by have h8 := xRC.b (by omega) kt171 h9; have h7 := (stt171 h9).1; have h6 := (sj156 (by omega)).1.1; have h5 := (sj156 (by omega)).2; exact ⟨(by have h9 := (xStq.add (x := (13, 0, 0)) (stt171 (by omega)) (by omega) (by have h4a := (k176.1 (by omega)).1; unfold xec9; (try dsimp only); omega) (k176.1 (by omega)).2); rw [if_pos (by omega)]; exact h9), by rw [if_pos (by omega)]; omega⟩⟩ (fun h9 => by have h8 := xRC.b (by omega) kt171 h9; omega) (by omega) (xFr.tr (xFr.tr (xFr.t v154 hg166 hs_a0 (by decide)) fst171) k177) (xFr.tr (xFr.tr (xFr.t v155 hg166 hs_a0 (by decide)) ftt171) k178) (by omega)
  exact P150 ((60 - 0 : Int).toNat + 1) g2 xM.rf 0 (by omega) (by omega) at5 (by omega) (by omega) eat5 ot5 (by omega) (by omega) eot5 Ft5 (by omega) (by omega) eFt5 qt5 (by omega) (by omega) eqt5 nt5 (by omega) (by omega) ent5 ⟨Lt5, xIC.z (Or.inl ⟨rfl, rfl⟩) kt5, fun h9 => ⟨stt5 h9, by have h8 := xRC.b (by omega) kt5 h9; have h7 := (stt5 h9).1; have h6 := hp3.1; omega⟩⟩ (fun h9 => by have h8 := xRC.b (by omega) kt5 h9; omega) (by omega) (xFr.tr xFr.rf fst5) (xFr.tr xFr.rf ftt5) (by omega)

set_option maxHeartbeats 4000000 in
set_option maxRecDepth 100000 in
theorem m_readCond_6 (l : Launch) (D : va_G) (kA : Nat → ClassId) (b0 : Nat) (t0 : Nat → Nat) (S : xT) (g : xG) (a0 : Nat) (a1 : Nat) (x2 : Int) (na : Int) (no : Int) (nf : Int) (nq : Int) (wt : Nat) (wp : Nat) (ns : Int) (ws : Nat) (tk : Int → Int) (tl : Int → Int) (cn : Int) (L : List xS3) (b : Int) (s0 : Int → Int) (hs_a0 : S a0 = some (8, 0)) (hs_a1 : S a1 = some (11, 0)) (hx2 : 6 ≤ x2 ∧ x2 ≤ 6) (hna : 0 ≤ na ∧ na ≤ 300) (ena : g a0 2 = .int (iI na)) (hno : 0 ≤ no ∧ no ≤ 50) (eno : g a0 3 = .int (iI no)) (hnf : 0 ≤ nf ∧ nf ≤ 0) (enf : g a0 5 = .int (iI nf)) (hnq : 0 ≤ nq ∧ nq ≤ 300) (enq : g a0 6 = .int (iI nq)) (ewt : g a0 0 = .ref wt) (hs_wt : S wt = some (12900, 301)) (ewp : g a0 1 = .ref wp) (hs_wp : S wp = some (13000, 301)) (hns : 0 ≤ ns ∧ ns ≤ 100) (ens : g a1 2 = .int (iI ns)) (ews : g a1 7 = .ref ws) (hs_ws : S ws = some (14000, 100)) (hp0 : xTB (xv g wt) (xv g wp) tk tl cn) (hp1 : na ≤ cn) (hp2 : cn ≤ 300) (hp3 : xStq (xv g ws) s0 b ns L) (hp4 : 0 ≤ b) (hp5 : ns ≤ 2 * no) : xMt l yX7_readCond cX7_readCond 4 none 18 0 0 418 D kA b0 t0 [(8, 5), (8, 6), (8, 3), (8, 2), (14000, 0), (11, 2)] [.ref a0, .ref a1, .int (iI x2)] S g (fun (r : Option Value) (S1 : xT) (g1 : xG) => S = S1 ∧ r = none ∧ (∃ F a o q n : Int, g1 a0 5 = .int (iI F) ∧ -2147483648 ≤ F ∧ F ≤ 2147483647 ∧ g1 a0 2 = .int (iI a) ∧ 0 ≤ a ∧ a ≤ cn ∧ g1 a0 3 = .int (iI o) ∧ 0 ≤ o ∧ o ≤ 50 ∧ g1 a0 6 = .int (iI q) ∧ 0 ≤ q ∧ q ≤ 300 ∧ g1 a1 2 = .int (iI n) ∧ 0 ≤ n ∧ n ≤ 100 ∧ ∃ L1 : List xS3, xRC tk tl 2 6 na no L F a o q L1 ∧ (F = 0 → xStq (xv g1 ws) s0 b n L1) ∧ xFr 14000 S g g1 ws ∧ xFr 11 S g g1 a1)) := by
  refine xEnterV (by decide) (by simp [lg_sl, Value.category]) [(0, .ref a0), (1, .ref a1), (2, .int (iI x2))] rfl ?_
  intro K E hK hret _ _ _
  refine X_aloadn hK (i := 0) 0 kd29_2.2.2.2.2.2.2.2.2.2.2.1 rfl rfl ?_
  refine X_aloadn hK (i := 1) 1 kd29_2.2.2.2.2.2.2.2.2.2.2.2 rfl rfl ?_
  refine X_iloadn hK (i := 2) 2 kd29_3.1 rfl rfl ?_
  refine X_callV hK [.ref a1, .int (iI x2)] [] lk_X7_126 (m_readAll_6 _ _ _ _ _ S g a0 a1 x2 na no nf nq wt wp ns ws tk tl cn L b s0 hs_a0 hs_a1 (by omega) (by omega) ena (by omega) eno (by omega) enf (by omega) enq ewt hs_wt ewp hs_wp (by omega) ens ews hs_ws hp0 (by omega) (by omega) hp3 (by omega) (by omega)) hs_a0 ⟨by decide, rfl⟩ kd29_3.2.1 rfl rfl (by simp [Value.category]) (by decide) (by decide) (by decide) (by decide) (fun r1 S3 g2 pr1 qr1 hg2 => ?_)
  obtain ⟨rfl, rfl, k4⟩ := pr1
  refine X_st [] rfl ?_
  obtain ⟨Ft5, at5, ot5, qt5, nt5, eFt5, lFt5, uFt5, eat5, lat5, uat5, eot5, lot5, uot5, eqt5, lqt5, uqt5, ent5, lnt5, unt5, Lt5, kt5, stt5, fst5, ftt5⟩ := k4
  have cat5 : at5 ≤ 300 := (by omega)
  refine X_iconst hK kd29_3.2.2.1 ?_
  refine X_istoren hK (i := 3) [(3, .int (iI 0)), (0, .ref a0), (1, .ref a1), (2, .int (iI x2))] kd29_3.2.2.2.1 rfl (by decide) rfl ?_
  have P150 : ∀ (nP150 : Nat) (g122 : xG) (_ : xM [(14000, 0), (11, 2), (8, 5), (8, 6), (8, 3), (8, 2)] S g2 g122) (z121 : Int) (_ : 0 ≤ z121) (_ : z121 ≤ 50) (q123 : Int) (_ : 0 ≤ q123) (_ : q123 ≤ 300) (_ : g122 a0 2 = .int (iI q123)) (q124 : Int) (_ : 0 ≤ q124) (_ : q124 ≤ 50) (_ : g122 a0 3 = .int (iI q124)) (q125 : Int) (_ : (-2147483648) ≤ q125) (_ : q125 ≤ 2147483647) (_ : g122 a0 5 = .int (iI q125)) (q126 : Int) (_ : 0 ≤ q126) (_ : q126 ≤ 300) (_ : g122 a0 6 = .int (iI q126)) (q127 : Int) (_ : 0 ≤ q127) (_ : q127 ≤ 100) (_ : g122 a1 2 = .int (iI q127)) (_ : ∃ Li : List xS3, xIC tk tl 2 6 na no L q125 q123 q124 q126 Li ∧ (q125 = 0 → xStq (xv g122 ws) s0 b q127 Li ∧ q127 ≤ 2 * q124 - 1)) (_ : q125 = 0 → no + 1 + z121 ≤ q124) (_ : q123 ≤ cn) (_ : xFr 14000 S g g122 ws) (_ : xFr 11 S g g122 a1) (_ : 60 - z121 < (nP150 : Int)), X K E 8 [(3, .int (iI z121)), (0, .ref a0), (1, .ref a1), (2, .int (iI x2))] [] S g122 0 0 := by
    intro nP150
    induction nP150 with
    | zero => intro g122 hg122 z121 lz121 uz121 q123 lq123 uq123 eq123 q124 lq124 uq124 eq124 q125 lq125 uq125 eq125 q126 lq126 uq126 eq126 q127 lq127 uq127 eq127 v151 v152 v153 v154 v155 mP150; exact False.elim (by omega)
    | succ nP150 ihP150 =>
      intro g122 hg122 z121 lz121 uz121 q123 lq123 uq123 eq123 q124 lq124 uq124 eq124 q125 lq125 uq125 eq125 q126 lq126 uq126 eq126 q127 lq127 uq127 eq127 v151 v152 v153 v154 v155 mP150
      refine X_iloadn hK (i := 3) 0 kd29_3.2.2.2.2.1 rfl rfl ?_
      obtain ⟨Lij156, ij156, sj156⟩ := id v151
      have ivj156 : q125 = 0 → _ := fun h9 => (sj156 h9).1
      have nbj156 : q125 = 0 → q127 ≤ 2 * q124 - 1 := fun h9 => (sj156 h9).2
      refine X_bipush hK kd29_3.2.2.2.2.2.1 (by decide) ?_
      refine X_icmp_ge hK 60 (by omega) (by omega) kd29_3.2.2.2.2.2.2.1 (by decide) (fun c157 => ?_) (fun c157 => ?_)
      · exact hret _ _ _ _ _ _ kd29_5.2.2.2.2.2.2.2.1 ⟨rfl, rfl, ⟨q125, q123, q124, q126, q127, eq125, by omega, by omega, eq123, by omega, by omega, eq124, by omega, by omega, eq126, by omega, by omega, eq127, by omega, by omega, Lij156, (xIC.e ij156 (fun h9 => False.elim (by have h8 := v152 h9; omega))), (fun h9 => (sj156 h9).1), v154, v155⟩⟩ (Nat.le_refl _) (Nat.le_refl _)
      · refine X_aloadn hK (i := 0) 1 kd29_3.2.2.2.2.2.2.2.1 rfl rfl ?_
        refine X_getK hK fl_X7_29_8 hs_a0 eq125 kd29_3.2.2.2.2.2.2.2.2.1 ?_
        refine X_if_ne hK 60 (by omega) kd29_3.2.2.2.2.2.2.2.2.2.1 (by decide) (fun c158 => ?_) (fun c158 => ?_)
        · exact hret _ _ _ _ _ _ kd29_5.2.2.2.2.2.2.2.1 ⟨rfl, rfl, ⟨q125, q123, q124, q126, q127, eq125, by omega, by omega, eq123, by omega, by omega, eq124, by omega, by omega, eq126, by omega, by omega, eq127, by omega, by omega, Lij156, (xIC.e ij156 (fun h9 => False.elim (by have h8 := v152 h9; omega))), (fun h9 => (sj156 h9).1), v154, v155⟩⟩ (Nat.le_refl _) (Nat.le_refl _)
        · refine X_aloadn hK (i := 0) 1 kd29_3.2.2.2.2.2.2.2.2.2.2.1 rfl rfl ?_
          refine X_callV hK [] [] lk_X7_47 (c3_now _ _ _ _ _ S g122 a0 q123 wt wp tk tl cn hs_a0 (by omega) eq123 ((hg122 a0 8 0 0 hs_a0 (by decide)).trans ((hg2 a0 8 0 0 hs_a0 (by decide)).trans ewt)) hs_wt ((hg122 a0 8 0 1 hs_a0 (by decide)).trans ((hg2 a0 8 0 1 hs_a0 (by decide)).trans ewp)) hs_wp (by rw [(Eq.trans (xv_m hg122 hs_wt (by decide) (by decide)) (xv_m hg2 hs_wt (by decide) (by decide))), (Eq.trans (xv_m hg122 hs_wp (by decide) (by decide)) (xv_m hg2 hs_wp (by decide) (by decide)))]; exact hp0) (by omega) (by omega)) hs_a0 ⟨by decide, rfl⟩ kd29_3.2.2.2.2.2.2.2.2.2.2.2 rfl rfl (by simp [Value.category]) (by decide) (by decide) (by decide) (by decide) (fun r159 S161 g160 pr159 qr159 hg160 => ?_)
          obtain ⟨rfl, rfl, z162, rfl, lz162, uz162, k163⟩ := pr159
          refine X_st [.int (iI z162)] rfl ?_
          refine X_bipush hK kd29_4.1 (by decide) ?_
          refine X_icmp_ne hK 60 (by omega) (by omega) kd29_4.2.1 (by decide) (fun c164 => ?_) (fun c164 => ?_)
          · exact hret _ _ _ _ _ _ kd29_5.2.2.2.2.2.2.2.1 ⟨rfl, rfl, ⟨q125, q123, q124, q126, q127, eq125, by omega, by omega, eq123, by omega, by omega, eq124, by omega, by omega, eq126, by omega, by omega, eq127, by omega, by omega, Lij156, (xIC.e ij156 (fun h9 => Or.inr ⟨rfl, by rw [← k163]; omega⟩)), (fun h9 => (sj156 h9).1), v154, v155⟩⟩ (Nat.le_refl _) (Nat.le_refl _)
          · refine X_aloadn hK (i := 0) 1 kd29_4.2.2.1 rfl rfl ?_
            refine X_dup hK kd29_4.2.2.2.1 rfl ?_
            have hl165 := xTB.lt (A := xv g122 wt) (B := xv g122 wp) (tk := tk) (tl := tl) (c := cn) (a := q123) (by rw [(Eq.trans (xv_m hg122 hs_wt (by decide) (by decide)) (xv_m hg2 hs_wt (by decide) (by decide))), (Eq.trans (xv_m hg122 hs_wp (by decide) (by decide)) (xv_m hg2 hs_wp (by decide) (by decide)))]; exact hp0) (by omega) (by rw [← k163]; omega)
            refine X_getK hK fl_X7_18_8 hs_a0 eq123 kd29_4.2.2.2.2.1 ?_
            refine X_iconst hK kd29_4.2.2.2.2.2.1 ?_
            refine X_iadd hK kd29_4.2.2.2.2.2.2.1 ?_
            refine X_puti hK fl_X7_18_8 hs_a0 (by decide) sl_8_2 (by omega) (by omega) kd29_4.2.2.2.2.2.2.2.1 (fun g166 hg166 => ?_)
            refine X_aloadn hK (i := 0) 1 kd29_4.2.2.2.2.2.2.2.2.1 rfl rfl ?_
            refine X_aloadn hK (i := 1) 2 kd29_4.2.2.2.2.2.2.2.2.2.1 rfl rfl ?_
            refine X_iloadn hK (i := 2) 3 kd29_4.2.2.2.2.2.2.2.2.2.2.1 rfl rfl ?_
            refine X_callV hK [.ref a1, .int (iI x2)] [] lk_X7_126 (m_readAll_6 _ _ _ _ _ S g166 a0 a1 x2 (q123 + 1) q124 q125 q126 wt wp q127 ws tk tl cn Lij156 b s0 hs_a0 hs_a1 (by omega) (by omega) (xs_s hg166) (by omega) ((xs_k hg166 (by decide)).trans eq124) (by omega) ((xs_k hg166 (by decide)).trans eq125) (by omega) ((xs_k hg166 (by decide)).trans eq126) ((xs_k hg166 (by decide)).trans ((hg122 a0 8 0 0 hs_a0 (by decide)).trans ((hg2 a0 8 0 0 hs_a0 (by decide)).trans ewt))) hs_wt ((xs_k hg166 (by decide)).trans ((hg122 a0 8 0 1 hs_a0 (by decide)).trans ((hg2 a0 8 0 1 hs_a0 (by decide)).trans ewp))) hs_wp (by omega) ((xs_a hg166 (xne hs_a1 hs_a0 (by decide))).trans eq127) ((xs_k hg166 (by decide)).trans ((hg122 a1 11 0 7 hs_a1 (by decide)).trans ((hg2 a1 11 0 7 hs_a1 (by decide)).trans ews))) hs_ws (by rw [(Eq.trans (Eq.trans (xv_a hg166 (xne hs_wt hs_a0 (by decide))) (xv_m hg122 hs_wt (by decide) (by decide))) (xv_m hg2 hs_wt (by decide) (by decide))), (Eq.trans (Eq.trans (xv_a hg166 (xne hs_wp hs_a0 (by decide))) (xv_m hg122 hs_wp (by decide) (by decide))) (xv_m hg2 hs_wp (by decide) (by decide)))]; exact hp0) (by omega) (by omega) (by rw [(xv_a hg166 (xne hs_ws hs_a0 (by decide)))]; exact (ivj156 (by omega))) (by omega) (by omega)) hs_a0 ⟨by decide, rfl⟩ kd29_4.2.2.2.2.2.2.2.2.2.2.2 rfl rfl (by simp [Value.category]) (by decide) (by decide) (by decide) (by decide) (fun r167 S169 g168 pr167 qr167 hg168 => ?_)
            obtain ⟨rfl, rfl, k170⟩ := pr167
            refine X_st [] rfl ?_
            obtain ⟨Ft171, at171, ot171, qt171, nt171, eFt171, lFt171, uFt171, eat171, lat171, uat171, eot171, lot171, uot171, eqt171, lqt171, uqt171, ent171, lnt171, unt171, Lt171, kt171, stt171, fst171, ftt171⟩ := k170
            have cat171 : at171 ≤ 300 := (by omega)
            refine X_aloadn hK (i := 1) 2 kd29_5.1 rfl rfl ?_
            refine X_bipush hK kd29_5.2.1 (by decide) ?_
            refine X_iconst hK kd29_5.2.2.1 ?_
            refine X_iconst hK kd29_5.2.2.2.1 ?_
            refine X_callV hK [.int (iI 14), .int (iI 0), .int (iI 0)] [] lk_X7_129 (m_addStep _ _ _ _ _ S g168 a1 14 0 0 nt171 ws hs_a1 (by omega) (by omega) (by omega) (by omega) ent171 ((hg168 a1 11 0 7 hs_a1 (by decide)).trans ((xs_k hg166 (by decide)).trans ((hg122 a1 11 0 7 hs_a1 (by decide)).trans ((hg2 a1 11 0 7 hs_a1 (by decide)).trans ews)))) hs_ws) hs_a1 ⟨by decide, rfl⟩ kd29_5.2.2.2.2.1 rfl rfl (by simp [Value.category]) (by decide) (by decide) (by decide) (by decide) (fun r172 S174 g173 pr172 qr172 hg173 => ?_)
            obtain ⟨rfl, rfl, k175, k176, k177, k178⟩ := pr172
            refine X_st [] rfl ?_
            refine X_iinc hK (i := 3) (z := z121) (n := 1) 0 [(3, .int (iI (z121 + 1))), (0, .ref a0), (1, .ref a1), (2, .int (iI x2))] kd29_5.2.2.2.2.2.1 rfl (by decide) rfl ?_
            refine X_goto hK 8 kd29_5.2.2.2.2.2.2.1 (by decide) ?_
            exact ihP150  g173 (xM.tr (xM.tr (xM_up (xM.tr xM.rf xLe.rf hg122 (by decide)) hg166 hs_a0 (by decide) (by decide)) xLe.rf hg168 (by decide)) xLe.rf hg173 (by decide)) (z121 + 1) (by omega) (by omega) at171 (by omega) (by omega) ((hg173 a0 8 0 2 hs_a0 (by decide)).trans eat171) ot171 (by omega) (by omega) ((hg173 a0 8 0 3 hs_a0 (by decide)).trans eot171) Ft171 (by omega) (by omega) ((hg173 a0 8 0 5 hs_a0 (by decide)).trans eFt171) qt171 (by omega) (by omega) ((hg173 a0 8 0 6 hs_a0 (by decide)).trans eqt171) (if nt171 < 100 then nt171 + 1 else nt171) (by omega) (by omega) k175 ⟨Lt171 ++ [(14, 0, 0)], xIC.s (Or.inr ⟨rfl, rfl, rfl, (by rw [← k163]; omega)⟩) ij156 (by omega) kt171 (fun _ => rfl), fun h9 => by have h8 := xRC.b (by omega) kt171 h9; have h7 := (stt171 h9).1; have h6 := (sj156 (by omega)).1.1; have h5 := (sj156 (by omega)).2; exact ⟨(by have h9 := (xStq.add (x := (14, 0, 0)) (stt171 (by omega)) (by omega) (by have h4a := (k176.1 (by omega)).1; unfold xec9; (try dsimp only); omega) (k176.1 (by omega)).2); rw [if_pos (by omega)]; exact h9), by rw [if_pos (by omega)]; omega⟩⟩ (fun h9 => by have h8 := xRC.b (by omega) kt171 h9; omega) (by omega) (xFr.tr (xFr.tr (xFr.t v154 hg166 hs_a0 (by decide)) fst171) k177) (xFr.tr (xFr.tr (xFr.t v155 hg166 hs_a0 (by decide)) ftt171) k178) (by omega)
  exact P150 ((60 - 0 : Int).toNat + 1) g2 xM.rf 0 (by omega) (by omega) at5 (by omega) (by omega) eat5 ot5 (by omega) (by omega) eot5 Ft5 (by omega) (by omega) eFt5 qt5 (by omega) (by omega) eqt5 nt5 (by omega) (by omega) ent5 ⟨Lt5, xIC.z (Or.inr ⟨rfl, rfl⟩) kt5, fun h9 => ⟨stt5 h9, by have h8 := xRC.b (by omega) kt5 h9; have h7 := (stt5 h9).1; have h6 := hp3.1; omega⟩⟩ (fun h9 => by have h8 := xRC.b (by omega) kt5 h9; omega) (by omega) (xFr.tr xFr.rf fst5) (xFr.tr xFr.rf ftt5) (by omega)

set_option maxHeartbeats 4000000 in
set_option maxRecDepth 100000 in
theorem m_readOne_5 (l : Launch) (D : va_G) (kA : Nat → ClassId) (b0 : Nat) (t0 : Nat → Nat) (S : xT) (g : xG) (a0 : Nat) (a1 : Nat) (x2 : Int) (na : Int) (no : Int) (nf : Int) (nq : Int) (wt : Nat) (wp : Nat) (ns : Int) (ws : Nat) (tk : Int → Int) (tl : Int → Int) (cn : Int) (L : List xS3) (b : Int) (s0 : Int → Int) (hs_a0 : S a0 = some (8, 0)) (hs_a1 : S a1 = some (11, 0)) (hx2 : 5 ≤ x2 ∧ x2 ≤ 5) (hna : 0 ≤ na ∧ na ≤ 300) (ena : g a0 2 = .int (iI na)) (hno : 0 ≤ no ∧ no ≤ 50) (eno : g a0 3 = .int (iI no)) (hnf : 0 ≤ nf ∧ nf ≤ 0) (enf : g a0 5 = .int (iI nf)) (hnq : 0 ≤ nq ∧ nq ≤ 300) (enq : g a0 6 = .int (iI nq)) (ewt : g a0 0 = .ref wt) (hs_wt : S wt = some (12900, 301)) (ewp : g a0 1 = .ref wp) (hs_wp : S wp = some (13000, 301)) (hns : 0 ≤ ns ∧ ns ≤ 100) (ens : g a1 2 = .int (iI ns)) (ews : g a1 7 = .ref ws) (hs_ws : S ws = some (14000, 100)) (hp0 : xTB (xv g wt) (xv g wp) tk tl cn) (hp1 : na ≤ cn) (hp2 : cn ≤ 300) (hp3 : xStq (xv g ws) s0 b ns L) (hp4 : 0 ≤ b) (hp5 : ns ≤ 2 * no) : xMt l yX7_readOne cX7_readOne 5 none 19 0 0 441 D kA b0 t0 [(8, 5), (8, 6), (8, 3), (8, 2), (14000, 0), (11, 2)] [.ref a0, .ref a1, .int (iI x2)] S g (fun (r : Option Value) (S1 : xT) (g1 : xG) => S = S1 ∧ r = none ∧ (∃ F a o q n : Int, g1 a0 5 = .int (iI F) ∧ -2147483648 ≤ F ∧ F ≤ 2147483647 ∧ g1 a0 2 = .int (iI a) ∧ 0 ≤ a ∧ a ≤ cn ∧ g1 a0 3 = .int (iI o) ∧ 0 ≤ o ∧ o ≤ 50 ∧ g1 a0 6 = .int (iI q) ∧ 0 ≤ q ∧ q ≤ 300 ∧ g1 a1 2 = .int (iI n) ∧ 0 ≤ n ∧ n ≤ 100 ∧ ∃ L1 : List xS3, xRC tk tl 0 5 na no L F a o q L1 ∧ (F = 0 → xStq (xv g1 ws) s0 b n L1) ∧ xFr 14000 S g g1 ws ∧ xFr 11 S g g1 a1)) := by
  refine xEnterV (by decide) (by simp [lg_sl, Value.category]) [(0, .ref a0), (1, .ref a1), (2, .int (iI x2))] rfl ?_
  intro K E hK hret _ _ _
  refine X_aloadn hK (i := 0) 0 kd29_20.2.2.2.2.2.2.1 rfl rfl ?_
  refine X_callV hK [] [] lk_X7_47 (c3_now _ _ _ _ _ S g a0 na wt wp tk tl cn hs_a0 (by omega) ena ewt hs_wt ewp hs_wp hp0 (by omega) (by omega)) hs_a0 ⟨by decide, rfl⟩ kd29_20.2.2.2.2.2.2.2.1 rfl rfl (by simp [Value.category]) (by decide) (by decide) (by decide) (by decide) (fun r1 S3 g2 pr1 qr1 hg2 => ?_)
  obtain ⟨rfl, rfl, z4, rfl, lz4, uz4, k5⟩ := pr1
  refine X_st [.int (iI z4)] rfl ?_
  refine X_istoren hK (i := 3) [(3, .int (iI z4)), (0, .ref a0), (1, .ref a1), (2, .int (iI x2))] kd29_20.2.2.2.2.2.2.2.2.1 rfl (by decide) rfl ?_
  refine X_iloadn hK (i := 3) 0 kd29_20.2.2.2.2.2.2.2.2.2.1 rfl rfl ?_
  refine X_bipush hK kd29_20.2.2.2.2.2.2.2.2.2.2.1 (by decide) ?_
  refine X_icmp_lt hK 21 (by omega) (by omega) kd29_20.2.2.2.2.2.2.2.2.2.2.2 (by decide) (fun c6 => ?_) (fun c6 => ?_)
  · refine X_iconst hK kd29_21.2.2.2.2.2.1 ?_
    refine X_istore hK (i := 4) [(4, .int (iI 0)), (3, .int (iI z4)), (0, .ref a0), (1, .ref a1), (2, .int (iI x2))] kd29_21.2.2.2.2.2.2.1 (by decide) rfl ?_
    refine X_iload hK (i := 4) 0 kd29_21.2.2.2.2.2.2.2.1 rfl ?_
    refine X_if_ne hK 49 (by omega) kd29_21.2.2.2.2.2.2.2.2.1 (by decide) (fun c7 => False.elim (by omega)) (fun c7 => ?_)
    refine X_iloadn hK (i := 3) 1 kd29_21.2.2.2.2.2.2.2.2.2.1 rfl rfl ?_
    refine X_bipush hK kd29_21.2.2.2.2.2.2.2.2.2.2.1 (by decide) ?_
    refine X_icmp_eq hK 49 (by omega) (by omega) kd29_21.2.2.2.2.2.2.2.2.2.2.2 (by decide) (fun c8 => ?_) (fun c8 => ?_)
    · refine X_aloadn hK (i := 0) 2 kd29_22.2.2.2.2.2.2.2.1 rfl rfl ?_
      refine X_getK hK fl_X7_22_8 hs_a0 eno kd29_22.2.2.2.2.2.2.2.2.1 ?_
      refine X_bipush hK kd29_22.2.2.2.2.2.2.2.2.2.1 (by decide) ?_
      refine X_icmp_ge hK 64 (by omega) (by omega) kd29_22.2.2.2.2.2.2.2.2.2.2.1 (by decide) (fun c9 => ?_) (fun c9 => ?_)
      · refine X_aloadn hK (i := 0) 2 kd29_23.2.2.1 rfl rfl ?_
        refine X_iconst hK kd29_23.2.2.2.1 ?_
        refine X_callV hK [.int (iI 4)] [] lk_X7_60 (c3_tell _ _ _ _ _ S g a0 4 na no nf nq wt wp tk tl cn hs_a0 (by omega) (by omega) ena (by omega) eno (by omega) enf (by omega) enq ewt hs_wt ewp hs_wp hp0 (by omega) (by omega)) hs_a0 ⟨by decide, rfl⟩ kd29_23.2.2.2.2.1 rfl rfl (by simp [Value.category]) (by decide) (by decide) (by decide) (by decide) (fun r10 S12 g11 pr10 qr10 hg11 => ?_)
        obtain ⟨rfl, rfl, k13⟩ := pr10
        refine X_st [] rfl ?_
        obtain ⟨Ft14, at14, ot14, qt14, eFt14, lFt14, uFt14, eat14, lat14, uat14, eot14, lot14, uot14, eqt14, lqt14, uqt14, kt14⟩ := k13
        have cat14 : at14 ≤ 300 := by have h9 := (show xTB (xv g11 wt) (xv g11 wp) tk tl cn from (by rw [(xv_m hg11 hs_wt (by decide) (by decide)), (xv_m hg11 hs_wp (by decide) (by decide))]; exact hp0)).2.2.2; omega
        refine X_goto hK 148 kd29_23.2.2.2.2.2.1 (by decide) ?_
        exact hret _ _ _ _ _ _ kd29_27.2.2.2 ⟨rfl, rfl, ⟨Ft14, at14, ot14, qt14, ns, eFt14, by omega, by omega, eat14, by omega, by omega, eot14, by omega, by omega, eqt14, by omega, by omega, ((hg11 a1 11 0 2 hs_a1 (by decide)).trans ens), by omega, by omega, [], (by obtain ⟨h8, h7, h6⟩ := kt14; have h5 := h8.resolve_left (fun q9 => by omega); rw [h5.2.1]; exact xRC.f4 (by rw [← k5]; omega) (by omega) h5.2.2), (fun h9 => by have h8 := kt14; omega), (xFr.m xFr.rf hg11 (by decide)), (xFr.m xFr.rf hg11 (by decide))⟩⟩ (Nat.le_refl _) (Nat.le_refl _)
      · refine X_iloadn hK (i := 2) 4 kd29_22.2.2.2.2.2.2.2.2.2.2.2 rfl rfl ?_
        refine X_bipush hK kd29_23.1 (by decide) ?_
        refine X_icmp_le hK 72 (by omega) (by omega) kd29_23.2.1 (by decide) (fun c15 => ?_) (fun c15 => False.elim (by omega))
        refine X_aloadn hK (i := 0) 2 kd29_23.2.2.2.2.2.2.1 rfl rfl ?_
        refine X_dup hK kd29_23.2.2.2.2.2.2.2.1 rfl ?_
        refine X_getK hK fl_X7_22_8 hs_a0 eno kd29_23.2.2.2.2.2.2.2.2.1 ?_
        refine X_iconst hK kd29_23.2.2.2.2.2.2.2.2.2.1 ?_
        refine X_iadd hK kd29_23.2.2.2.2.2.2.2.2.2.2.1 ?_
        refine X_puti hK fl_X7_22_8 hs_a0 (by decide) sl_8_3 (by omega) (by omega) kd29_23.2.2.2.2.2.2.2.2.2.2.2 (fun g16 hg16 => ?_)
        refine X_aloadn hK (i := 0) 2 kd29_24.1 rfl rfl ?_
        refine X_dup hK kd29_24.2.1 rfl ?_
        have hl17 := xTB.lt (A := xv g16 wt) (B := xv g16 wp) (tk := tk) (tl := tl) (c := cn) (a := na) (by rw [(xv_a hg16 (xne hs_wt hs_a0 (by decide))), (xv_a hg16 (xne hs_wp hs_a0 (by decide)))]; exact hp0) (by omega) (by rw [← k5]; omega)
        refine X_getK hK fl_X7_18_8 hs_a0 ((xs_k hg16 (by decide)).trans ena) kd29_24.2.2.1 ?_
        refine X_iconst hK kd29_24.2.2.2.1 ?_
        refine X_iadd hK kd29_24.2.2.2.2.1 ?_
        refine X_puti hK fl_X7_18_8 hs_a0 (by decide) sl_8_2 (by omega) (by omega) kd29_24.2.2.2.2.2.1 (fun g18 hg18 => ?_)
        refine X_iload hK (i := 4) 0 kd29_24.2.2.2.2.2.2.1 rfl ?_
        refine X_if_eq hK 109 (by omega) kd29_24.2.2.2.2.2.2.2.1 (by decide) (fun c19 => ?_) (fun c19 => False.elim (by omega))
        refine X_iloadn hK (i := 3) 1 kd29_25.2.2.2.1 rfl rfl ?_
        refine X_bipush hK kd29_25.2.2.2.2.1 (by decide) ?_
        refine X_icmp_ne hK 132 (by omega) (by omega) kd29_25.2.2.2.2.2.1 (by decide) (fun c20 => ?_) (fun c20 => False.elim (by omega))
        refine X_aloadn hK (i := 0) 2 kd29_26.2.2.2.2.1 rfl rfl ?_
        refine X_aloadn hK (i := 1) 3 kd29_26.2.2.2.2.2.1 rfl rfl ?_
        refine X_iloadn hK (i := 2) 4 kd29_26.2.2.2.2.2.2.1 rfl rfl ?_
        refine X_iconst hK kd29_26.2.2.2.2.2.2.2.1 ?_
        refine X_iadd hK kd29_26.2.2.2.2.2.2.2.2.1 ?_
        refine X_callV hK [.ref a1, .int (iI (x2 + 1))] [] lk_X7_132 (m_readOne_6 _ _ _ _ _ S g18 a0 a1 (x2 + 1) (na + 1) (no + 1) nf nq wt wp ns ws tk tl cn L b s0 hs_a0 hs_a1 (by omega) (by omega) (xs_s hg18) (by omega) ((xs_k hg18 (by decide)).trans (xs_s hg16)) (by omega) ((xs_k hg18 (by decide)).trans ((xs_k hg16 (by decide)).trans enf)) (by omega) ((xs_k hg18 (by decide)).trans ((xs_k hg16 (by decide)).trans enq)) ((xs_k hg18 (by decide)).trans ((xs_k hg16 (by decide)).trans ewt)) hs_wt ((xs_k hg18 (by decide)).trans ((xs_k hg16 (by decide)).trans ewp)) hs_wp (by omega) ((xs_a hg18 (xne hs_a1 hs_a0 (by decide))).trans ((xs_k hg16 (by decide)).trans ens)) ((xs_k hg18 (by decide)).trans ((xs_k hg16 (by decide)).trans ews)) hs_ws (by rw [(Eq.trans (xv_a hg18 (xne hs_wt hs_a0 (by decide))) (xv_a hg16 (xne hs_wt hs_a0 (by decide)))), (Eq.trans (xv_a hg18 (xne hs_wp hs_a0 (by decide))) (xv_a hg16 (xne hs_wp hs_a0 (by decide))))]; exact hp0) (by omega) (by omega) (by rw [(Eq.trans (xv_a hg18 (xne hs_ws hs_a0 (by decide))) (xv_a hg16 (xne hs_ws hs_a0 (by decide))))]; exact hp3) (by omega) (by omega)) hs_a0 ⟨by decide, rfl⟩ kd29_26.2.2.2.2.2.2.2.2.2.1 rfl rfl (by simp [Value.category]) (by decide) (by decide) (by decide) (by decide) (fun r21 S23 g22 pr21 qr21 hg22 => ?_)
        obtain ⟨rfl, rfl, k24⟩ := pr21
        refine X_st [] rfl ?_
        obtain ⟨Ft25, at25, ot25, qt25, nt25, eFt25, lFt25, uFt25, eat25, lat25, uat25, eot25, lot25, uot25, eqt25, lqt25, uqt25, ent25, lnt25, unt25, Lt25, kt25, stt25, fst25, ftt25⟩ := k24
        have cat25 : at25 ≤ 300 := (by omega)
        refine X_aloadn hK (i := 1) 3 kd29_26.2.2.2.2.2.2.2.2.2.2.1 rfl rfl ?_
        refine X_bipush hK kd29_26.2.2.2.2.2.2.2.2.2.2.2 (by decide) ?_
        refine X_iconst hK kd29_27.1 ?_
        refine X_iconst hK kd29_27.2.1 ?_
        refine X_callV hK [.int (iI 12), .int (iI 0), .int (iI 0)] [] lk_X7_129 (m_addStep _ _ _ _ _ S g22 a1 12 0 0 nt25 ws hs_a1 (by omega) (by omega) (by omega) (by omega) ent25 ((hg22 a1 11 0 7 hs_a1 (by decide)).trans ((xs_k hg18 (by decide)).trans ((xs_k hg16 (by decide)).trans ews))) hs_ws) hs_a1 ⟨by decide, rfl⟩ kd29_27.2.2.1 rfl rfl (by simp [Value.category]) (by decide) (by decide) (by decide) (by decide) (fun r26 S28 g27 pr26 qr26 hg27 => ?_)
        obtain ⟨rfl, rfl, k29, k30, k31, k32⟩ := pr26
        refine X_st [] rfl ?_
        exact hret _ _ _ _ _ _ kd29_27.2.2.2 ⟨rfl, rfl, ⟨Ft25, at25, ot25, qt25, (if nt25 < 100 then nt25 + 1 else nt25), ((hg27 a0 8 0 5 hs_a0 (by decide)).trans eFt25), by omega, by omega, ((hg27 a0 8 0 2 hs_a0 (by decide)).trans eat25), by omega, by omega, ((hg27 a0 8 0 3 hs_a0 (by decide)).trans eot25), by omega, by omega, ((hg27 a0 8 0 6 hs_a0 (by decide)).trans eqt25), by omega, by omega, k29, by omega, by omega, (Lt25 ++ [(12, 0, 0)]), (xRC.nt (by rw [← k5]; omega) (by omega) kt25 (fun _ => rfl)), (fun h9 => by have h6 := xRC.b (by omega) kt25 h9; have h5 := (stt25 h9).1; have h4 := hp3.1; exact (by have h9 := (xStq.add (x := (12, 0, 0)) (stt25 (by omega)) (by omega) (by have h4a := (k30.1 (by omega)).1; unfold xec9; (try dsimp only); omega) (k30.1 (by omega)).2); rw [if_pos (by omega)]; exact h9)), (xFr.tr (xFr.tr (xFr.t (xFr.t xFr.rf hg16 hs_a0 (by decide)) hg18 hs_a0 (by decide)) fst25) k31), (xFr.tr (xFr.tr (xFr.t (xFr.t xFr.rf hg16 hs_a0 (by decide)) hg18 hs_a0 (by decide)) ftt25) k32)⟩⟩ (Nat.le_refl _) (Nat.le_refl _)
    · refine X_iloadn hK (i := 3) 1 kd29_22.1 rfl rfl ?_
      refine X_bipush hK kd29_22.2.1 (by decide) ?_
      refine X_icmp_eq hK 49 (by omega) (by omega) kd29_22.2.2.1 (by decide) (fun c33 => False.elim (by omega)) (fun c33 => ?_)
      refine X_aloadn hK (i := 0) 2 kd29_22.2.2.2.1 rfl rfl ?_
      refine X_iconst hK kd29_22.2.2.2.2.1 ?_
      refine X_callV hK [.int (iI 1)] [] lk_X7_60 (c3_tell _ _ _ _ _ S g a0 1 na no nf nq wt wp tk tl cn hs_a0 (by omega) (by omega) ena (by omega) eno (by omega) enf (by omega) enq ewt hs_wt ewp hs_wp hp0 (by omega) (by omega)) hs_a0 ⟨by decide, rfl⟩ kd29_22.2.2.2.2.2.1 rfl rfl (by simp [Value.category]) (by decide) (by decide) (by decide) (by decide) (fun r34 S36 g35 pr34 qr34 hg35 => ?_)
      obtain ⟨rfl, rfl, k37⟩ := pr34
      refine X_st [] rfl ?_
      obtain ⟨Ft38, at38, ot38, qt38, eFt38, lFt38, uFt38, eat38, lat38, uat38, eot38, lot38, uot38, eqt38, lqt38, uqt38, kt38⟩ := k37
      have cat38 : at38 ≤ 300 := by have h9 := (show xTB (xv g35 wt) (xv g35 wp) tk tl cn from (by rw [(xv_m hg35 hs_wt (by decide) (by decide)), (xv_m hg35 hs_wp (by decide) (by decide))]; exact hp0)).2.2.2; omega
      refine X_goto hK 148 kd29_22.2.2.2.2.2.2.1 (by decide) ?_
      exact hret _ _ _ _ _ _ kd29_27.2.2.2 ⟨rfl, rfl, ⟨Ft38, at38, ot38, qt38, ns, eFt38, by omega, by omega, eat38, by omega, by omega, eot38, by omega, by omega, eqt38, by omega, by omega, ((hg35 a1 11 0 2 hs_a1 (by decide)).trans ens), by omega, by omega, [], (by obtain ⟨h8, h7, h6⟩ := kt38; have h5 := h8.resolve_left (fun q9 => by omega); rw [h5.2.1]; exact xRC.f1 (by rw [← k5]; omega) h5.2.2), (fun h9 => by have h8 := kt38; omega), (xFr.m xFr.rf hg35 (by decide)), (xFr.m xFr.rf hg35 (by decide))⟩⟩ (Nat.le_refl _) (Nat.le_refl _)
  · refine X_iloadn hK (i := 3) 0 kd29_21.1 rfl rfl ?_
    refine X_bipush hK kd29_21.2.1 (by decide) ?_
    refine X_icmp_ge hK 21 (by omega) (by omega) kd29_21.2.2.1 (by decide) (fun c39 => ?_) (fun c39 => ?_)
    · refine X_iconst hK kd29_21.2.2.2.2.2.1 ?_
      refine X_istore hK (i := 4) [(4, .int (iI 0)), (3, .int (iI z4)), (0, .ref a0), (1, .ref a1), (2, .int (iI x2))] kd29_21.2.2.2.2.2.2.1 (by decide) rfl ?_
      refine X_iload hK (i := 4) 0 kd29_21.2.2.2.2.2.2.2.1 rfl ?_
      refine X_if_ne hK 49 (by omega) kd29_21.2.2.2.2.2.2.2.2.1 (by decide) (fun c40 => False.elim (by omega)) (fun c40 => ?_)
      refine X_iloadn hK (i := 3) 1 kd29_21.2.2.2.2.2.2.2.2.2.1 rfl rfl ?_
      refine X_bipush hK kd29_21.2.2.2.2.2.2.2.2.2.2.1 (by decide) ?_
      refine X_icmp_eq hK 49 (by omega) (by omega) kd29_21.2.2.2.2.2.2.2.2.2.2.2 (by decide) (fun c41 => False.elim (by omega)) (fun c41 => ?_)
      refine X_iloadn hK (i := 3) 1 kd29_22.1 rfl rfl ?_
      refine X_bipush hK kd29_22.2.1 (by decide) ?_
      refine X_icmp_eq hK 49 (by omega) (by omega) kd29_22.2.2.1 (by decide) (fun c42 => ?_) (fun c42 => ?_)
      · refine X_aloadn hK (i := 0) 2 kd29_22.2.2.2.2.2.2.2.1 rfl rfl ?_
        refine X_getK hK fl_X7_22_8 hs_a0 eno kd29_22.2.2.2.2.2.2.2.2.1 ?_
        refine X_bipush hK kd29_22.2.2.2.2.2.2.2.2.2.1 (by decide) ?_
        refine X_icmp_ge hK 64 (by omega) (by omega) kd29_22.2.2.2.2.2.2.2.2.2.2.1 (by decide) (fun c43 => ?_) (fun c43 => ?_)
        · refine X_aloadn hK (i := 0) 2 kd29_23.2.2.1 rfl rfl ?_
          refine X_iconst hK kd29_23.2.2.2.1 ?_
          refine X_callV hK [.int (iI 4)] [] lk_X7_60 (c3_tell _ _ _ _ _ S g a0 4 na no nf nq wt wp tk tl cn hs_a0 (by omega) (by omega) ena (by omega) eno (by omega) enf (by omega) enq ewt hs_wt ewp hs_wp hp0 (by omega) (by omega)) hs_a0 ⟨by decide, rfl⟩ kd29_23.2.2.2.2.1 rfl rfl (by simp [Value.category]) (by decide) (by decide) (by decide) (by decide) (fun r44 S46 g45 pr44 qr44 hg45 => ?_)
          obtain ⟨rfl, rfl, k47⟩ := pr44
          refine X_st [] rfl ?_
          obtain ⟨Ft48, at48, ot48, qt48, eFt48, lFt48, uFt48, eat48, lat48, uat48, eot48, lot48, uot48, eqt48, lqt48, uqt48, kt48⟩ := k47
          have cat48 : at48 ≤ 300 := by have h9 := (show xTB (xv g45 wt) (xv g45 wp) tk tl cn from (by rw [(xv_m hg45 hs_wt (by decide) (by decide)), (xv_m hg45 hs_wp (by decide) (by decide))]; exact hp0)).2.2.2; omega
          refine X_goto hK 148 kd29_23.2.2.2.2.2.1 (by decide) ?_
          exact hret _ _ _ _ _ _ kd29_27.2.2.2 ⟨rfl, rfl, ⟨Ft48, at48, ot48, qt48, ns, eFt48, by omega, by omega, eat48, by omega, by omega, eot48, by omega, by omega, eqt48, by omega, by omega, ((hg45 a1 11 0 2 hs_a1 (by decide)).trans ens), by omega, by omega, [], (by obtain ⟨h8, h7, h6⟩ := kt48; have h5 := h8.resolve_left (fun q9 => by omega); rw [h5.2.1]; exact xRC.f4 (by rw [← k5]; omega) (by omega) h5.2.2), (fun h9 => by have h8 := kt48; omega), (xFr.m xFr.rf hg45 (by decide)), (xFr.m xFr.rf hg45 (by decide))⟩⟩ (Nat.le_refl _) (Nat.le_refl _)
        · refine X_iloadn hK (i := 2) 4 kd29_22.2.2.2.2.2.2.2.2.2.2.2 rfl rfl ?_
          refine X_bipush hK kd29_23.1 (by decide) ?_
          refine X_icmp_le hK 72 (by omega) (by omega) kd29_23.2.1 (by decide) (fun c49 => ?_) (fun c49 => False.elim (by omega))
          refine X_aloadn hK (i := 0) 2 kd29_23.2.2.2.2.2.2.1 rfl rfl ?_
          refine X_dup hK kd29_23.2.2.2.2.2.2.2.1 rfl ?_
          refine X_getK hK fl_X7_22_8 hs_a0 eno kd29_23.2.2.2.2.2.2.2.2.1 ?_
          refine X_iconst hK kd29_23.2.2.2.2.2.2.2.2.2.1 ?_
          refine X_iadd hK kd29_23.2.2.2.2.2.2.2.2.2.2.1 ?_
          refine X_puti hK fl_X7_22_8 hs_a0 (by decide) sl_8_3 (by omega) (by omega) kd29_23.2.2.2.2.2.2.2.2.2.2.2 (fun g50 hg50 => ?_)
          refine X_aloadn hK (i := 0) 2 kd29_24.1 rfl rfl ?_
          refine X_dup hK kd29_24.2.1 rfl ?_
          have hl51 := xTB.lt (A := xv g50 wt) (B := xv g50 wp) (tk := tk) (tl := tl) (c := cn) (a := na) (by rw [(xv_a hg50 (xne hs_wt hs_a0 (by decide))), (xv_a hg50 (xne hs_wp hs_a0 (by decide)))]; exact hp0) (by omega) (by rw [← k5]; omega)
          refine X_getK hK fl_X7_18_8 hs_a0 ((xs_k hg50 (by decide)).trans ena) kd29_24.2.2.1 ?_
          refine X_iconst hK kd29_24.2.2.2.1 ?_
          refine X_iadd hK kd29_24.2.2.2.2.1 ?_
          refine X_puti hK fl_X7_18_8 hs_a0 (by decide) sl_8_2 (by omega) (by omega) kd29_24.2.2.2.2.2.1 (fun g52 hg52 => ?_)
          refine X_iload hK (i := 4) 0 kd29_24.2.2.2.2.2.2.1 rfl ?_
          refine X_if_eq hK 109 (by omega) kd29_24.2.2.2.2.2.2.2.1 (by decide) (fun c53 => ?_) (fun c53 => False.elim (by omega))
          refine X_iloadn hK (i := 3) 1 kd29_25.2.2.2.1 rfl rfl ?_
          refine X_bipush hK kd29_25.2.2.2.2.1 (by decide) ?_
          refine X_icmp_ne hK 132 (by omega) (by omega) kd29_25.2.2.2.2.2.1 (by decide) (fun c54 => False.elim (by omega)) (fun c54 => ?_)
          refine X_aloadn hK (i := 0) 2 kd29_25.2.2.2.2.2.2.1 rfl rfl ?_
          refine X_aloadn hK (i := 1) 3 kd29_25.2.2.2.2.2.2.2.1 rfl rfl ?_
          refine X_iloadn hK (i := 2) 4 kd29_25.2.2.2.2.2.2.2.2.1 rfl rfl ?_
          refine X_iconst hK kd29_25.2.2.2.2.2.2.2.2.2.1 ?_
          refine X_iadd hK kd29_25.2.2.2.2.2.2.2.2.2.2.1 ?_
          refine X_callV hK [.ref a1, .int (iI (x2 + 1))] [] lk_X7_115 (m_readCond_6 _ _ _ _ _ S g52 a0 a1 (x2 + 1) (na + 1) (no + 1) nf nq wt wp ns ws tk tl cn L b s0 hs_a0 hs_a1 (by omega) (by omega) (xs_s hg52) (by omega) ((xs_k hg52 (by decide)).trans (xs_s hg50)) (by omega) ((xs_k hg52 (by decide)).trans ((xs_k hg50 (by decide)).trans enf)) (by omega) ((xs_k hg52 (by decide)).trans ((xs_k hg50 (by decide)).trans enq)) ((xs_k hg52 (by decide)).trans ((xs_k hg50 (by decide)).trans ewt)) hs_wt ((xs_k hg52 (by decide)).trans ((xs_k hg50 (by decide)).trans ewp)) hs_wp (by omega) ((xs_a hg52 (xne hs_a1 hs_a0 (by decide))).trans ((xs_k hg50 (by decide)).trans ens)) ((xs_k hg52 (by decide)).trans ((xs_k hg50 (by decide)).trans ews)) hs_ws (by rw [(Eq.trans (xv_a hg52 (xne hs_wt hs_a0 (by decide))) (xv_a hg50 (xne hs_wt hs_a0 (by decide)))), (Eq.trans (xv_a hg52 (xne hs_wp hs_a0 (by decide))) (xv_a hg50 (xne hs_wp hs_a0 (by decide))))]; exact hp0) (by omega) (by omega) (by rw [(Eq.trans (xv_a hg52 (xne hs_ws hs_a0 (by decide))) (xv_a hg50 (xne hs_ws hs_a0 (by decide))))]; exact hp3) (by omega) (by omega)) hs_a0 ⟨by decide, rfl⟩ kd29_25.2.2.2.2.2.2.2.2.2.2.2 rfl rfl (by simp [Value.category]) (by decide) (by decide) (by decide) (by decide) (fun r55 S57 g56 pr55 qr55 hg56 => ?_)
          obtain ⟨rfl, rfl, k58⟩ := pr55
          refine X_st [] rfl ?_
          obtain ⟨Ft59, at59, ot59, qt59, nt59, eFt59, lFt59, uFt59, eat59, lat59, uat59, eot59, lot59, uot59, eqt59, lqt59, uqt59, ent59, lnt59, unt59, Lt59, kt59, stt59, fst59, ftt59⟩ := k58
          have cat59 : at59 ≤ 300 := (by omega)
          refine X_aloadn hK (i := 0) 2 kd29_26.1 rfl rfl ?_
          refine X_bipush hK kd29_26.2.1 (by decide) ?_
          refine X_callV hK [.int (iI 26)] [] lk_X7_119 (c3_expect _ _ _ _ _ S g56 a0 26 at59 ot59 Ft59 qt59 wt wp tk tl cn hs_a0 (by omega) (by omega) eat59 (by omega) eot59 (by omega) eFt59 (by omega) eqt59 ((hg56 a0 8 0 0 hs_a0 (by decide)).trans ((xs_k hg52 (by decide)).trans ((xs_k hg50 (by decide)).trans ewt))) hs_wt ((hg56 a0 8 0 1 hs_a0 (by decide)).trans ((xs_k hg52 (by decide)).trans ((xs_k hg50 (by decide)).trans ewp))) hs_wp (by rw [(Eq.trans (Eq.trans (xv_m hg56 hs_wt (by decide) (by decide)) (xv_a hg52 (xne hs_wt hs_a0 (by decide)))) (xv_a hg50 (xne hs_wt hs_a0 (by decide)))), (Eq.trans (Eq.trans (xv_m hg56 hs_wp (by decide) (by decide)) (xv_a hg52 (xne hs_wp hs_a0 (by decide)))) (xv_a hg50 (xne hs_wp hs_a0 (by decide))))]; exact hp0) (by omega) (by omega)) hs_a0 ⟨by decide, rfl⟩ kd29_26.2.2.1 rfl rfl (by simp [Value.category]) (by decide) (by decide) (by decide) (by decide) (fun r60 S62 g61 pr60 qr60 hg61 => ?_)
          obtain ⟨rfl, rfl, k63⟩ := pr60
          refine X_st [] rfl ?_
          obtain ⟨Ft64, at64, ot64, qt64, eFt64, lFt64, uFt64, eat64, lat64, uat64, eot64, lot64, uot64, eqt64, lqt64, uqt64, kt64⟩ := k63
          have cat64 : at64 ≤ 300 := by have h9 := (show xTB (xv g61 wt) (xv g61 wp) tk tl cn from (by rw [(Eq.trans (Eq.trans (Eq.trans (xv_m hg61 hs_wt (by decide) (by decide)) (xv_m hg56 hs_wt (by decide) (by decide))) (xv_a hg52 (xne hs_wt hs_a0 (by decide)))) (xv_a hg50 (xne hs_wt hs_a0 (by decide)))), (Eq.trans (Eq.trans (Eq.trans (xv_m hg61 hs_wp (by decide) (by decide)) (xv_m hg56 hs_wp (by decide) (by decide))) (xv_a hg52 (xne hs_wp hs_a0 (by decide)))) (xv_a hg50 (xne hs_wp hs_a0 (by decide))))]; exact hp0)).2.2.2; omega
          refine X_goto hK 148 kd29_26.2.2.2.1 (by decide) ?_
          exact hret _ _ _ _ _ _ kd29_27.2.2.2 ⟨rfl, rfl, ⟨Ft64, at64, ot64, qt64, nt59, eFt64, by omega, by omega, eat64, by omega, by omega, eot64, by omega, by omega, eqt64, by omega, by omega, ((hg61 a1 11 0 2 hs_a1 (by decide)).trans ent59), by omega, by omega, Lt59, (by obtain ⟨h8, h7⟩ := kt64; by_cases f9 : Ft59 = 0; (rcases h8 with ⟨c1, c2, c3, c4⟩ | ⟨c1, c2, c3⟩; (rw [show Ft64 = 0 by omega, c3, h7]; exact xRC.po (by rw [← k5]; omega) (by omega) (show xRC tk tl 2 (5 + 1) (na + 1) (no + 1) L Ft59 at59 ot59 qt59 Lt59 from kt59) f9 c1); (have c4 := c3.resolve_left (fun q9 => q9.1 f9); rw [c4.2.1]; exact xRC.px (by rw [← k5]; omega) (by omega) (show xRC tk tl 2 (5 + 1) (na + 1) (no + 1) L Ft59 at59 ot59 qt59 Lt59 from kt59) f9 c1 c4.2.2)); (have h6 : Ft64 = Ft59 ∧ qt64 = qt59 := (by omega); rw [h6.1, h6.2]; exact xRC.pf (by rw [← k5]; omega) (by omega) (show xRC tk tl 2 (5 + 1) (na + 1) (no + 1) L Ft59 at59 ot59 qt59 Lt59 from kt59) f9)), (fun h9 => by have h8 := kt64; have h7 : Ft59 = 0 := (by omega); rw [(xv_m hg61 hs_ws (by decide) (by decide))]; exact stt59 h7), (xFr.m (xFr.tr (xFr.t (xFr.t xFr.rf hg50 hs_a0 (by decide)) hg52 hs_a0 (by decide)) fst59) hg61 (by decide)), (xFr.m (xFr.tr (xFr.t (xFr.t xFr.rf hg50 hs_a0 (by decide)) hg52 hs_a0 (by decide)) ftt59) hg61 (by decide))⟩⟩ (Nat.le_refl _) (Nat.le_refl _)
      · refine X_aloadn hK (i := 0) 2 kd29_22.2.2.2.1 rfl rfl ?_
        refine X_iconst hK kd29_22.2.2.2.2.1 ?_
        refine X_callV hK [.int (iI 1)] [] lk_X7_60 (c3_tell _ _ _ _ _ S g a0 1 na no nf nq wt wp tk tl cn hs_a0 (by omega) (by omega) ena (by omega) eno (by omega) enf (by omega) enq ewt hs_wt ewp hs_wp hp0 (by omega) (by omega)) hs_a0 ⟨by decide, rfl⟩ kd29_22.2.2.2.2.2.1 rfl rfl (by simp [Value.category]) (by decide) (by decide) (by decide) (by decide) (fun r65 S67 g66 pr65 qr65 hg66 => ?_)
        obtain ⟨rfl, rfl, k68⟩ := pr65
        refine X_st [] rfl ?_
        obtain ⟨Ft69, at69, ot69, qt69, eFt69, lFt69, uFt69, eat69, lat69, uat69, eot69, lot69, uot69, eqt69, lqt69, uqt69, kt69⟩ := k68
        have cat69 : at69 ≤ 300 := by have h9 := (show xTB (xv g66 wt) (xv g66 wp) tk tl cn from (by rw [(xv_m hg66 hs_wt (by decide) (by decide)), (xv_m hg66 hs_wp (by decide) (by decide))]; exact hp0)).2.2.2; omega
        refine X_goto hK 148 kd29_22.2.2.2.2.2.2.1 (by decide) ?_
        exact hret _ _ _ _ _ _ kd29_27.2.2.2 ⟨rfl, rfl, ⟨Ft69, at69, ot69, qt69, ns, eFt69, by omega, by omega, eat69, by omega, by omega, eot69, by omega, by omega, eqt69, by omega, by omega, ((hg66 a1 11 0 2 hs_a1 (by decide)).trans ens), by omega, by omega, [], (by obtain ⟨h8, h7, h6⟩ := kt69; have h5 := h8.resolve_left (fun q9 => by omega); rw [h5.2.1]; exact xRC.f1 (by rw [← k5]; omega) h5.2.2), (fun h9 => by have h8 := kt69; omega), (xFr.m xFr.rf hg66 (by decide)), (xFr.m xFr.rf hg66 (by decide))⟩⟩ (Nat.le_refl _) (Nat.le_refl _)
    · refine X_iconst hK kd29_21.2.2.2.1 ?_
      refine X_goto hK 22 kd29_21.2.2.2.2.1 (by decide) ?_
      refine X_istore hK (i := 4) [(4, .int (iI 1)), (3, .int (iI z4)), (0, .ref a0), (1, .ref a1), (2, .int (iI x2))] kd29_21.2.2.2.2.2.2.1 (by decide) rfl ?_
      refine X_iload hK (i := 4) 0 kd29_21.2.2.2.2.2.2.2.1 rfl ?_
      refine X_if_ne hK 49 (by omega) kd29_21.2.2.2.2.2.2.2.2.1 (by decide) (fun c70 => ?_) (fun c70 => False.elim (by omega))
      refine X_aloadn hK (i := 0) 2 kd29_22.2.2.2.2.2.2.2.1 rfl rfl ?_
      refine X_getK hK fl_X7_22_8 hs_a0 eno kd29_22.2.2.2.2.2.2.2.2.1 ?_
      refine X_bipush hK kd29_22.2.2.2.2.2.2.2.2.2.1 (by decide) ?_
      refine X_icmp_ge hK 64 (by omega) (by omega) kd29_22.2.2.2.2.2.2.2.2.2.2.1 (by decide) (fun c71 => ?_) (fun c71 => ?_)
      · refine X_aloadn hK (i := 0) 2 kd29_23.2.2.1 rfl rfl ?_
        refine X_iconst hK kd29_23.2.2.2.1 ?_
        refine X_callV hK [.int (iI 4)] [] lk_X7_60 (c3_tell _ _ _ _ _ S g a0 4 na no nf nq wt wp tk tl cn hs_a0 (by omega) (by omega) ena (by omega) eno (by omega) enf (by omega) enq ewt hs_wt ewp hs_wp hp0 (by omega) (by omega)) hs_a0 ⟨by decide, rfl⟩ kd29_23.2.2.2.2.1 rfl rfl (by simp [Value.category]) (by decide) (by decide) (by decide) (by decide) (fun r72 S74 g73 pr72 qr72 hg73 => ?_)
        obtain ⟨rfl, rfl, k75⟩ := pr72
        refine X_st [] rfl ?_
        obtain ⟨Ft76, at76, ot76, qt76, eFt76, lFt76, uFt76, eat76, lat76, uat76, eot76, lot76, uot76, eqt76, lqt76, uqt76, kt76⟩ := k75
        have cat76 : at76 ≤ 300 := by have h9 := (show xTB (xv g73 wt) (xv g73 wp) tk tl cn from (by rw [(xv_m hg73 hs_wt (by decide) (by decide)), (xv_m hg73 hs_wp (by decide) (by decide))]; exact hp0)).2.2.2; omega
        refine X_goto hK 148 kd29_23.2.2.2.2.2.1 (by decide) ?_
        exact hret _ _ _ _ _ _ kd29_27.2.2.2 ⟨rfl, rfl, ⟨Ft76, at76, ot76, qt76, ns, eFt76, by omega, by omega, eat76, by omega, by omega, eot76, by omega, by omega, eqt76, by omega, by omega, ((hg73 a1 11 0 2 hs_a1 (by decide)).trans ens), by omega, by omega, [], (by obtain ⟨h8, h7, h6⟩ := kt76; have h5 := h8.resolve_left (fun q9 => by omega); rw [h5.2.1]; exact xRC.f4 (by rw [← k5]; omega) (by omega) h5.2.2), (fun h9 => by have h8 := kt76; omega), (xFr.m xFr.rf hg73 (by decide)), (xFr.m xFr.rf hg73 (by decide))⟩⟩ (Nat.le_refl _) (Nat.le_refl _)
      · refine X_iloadn hK (i := 2) 4 kd29_22.2.2.2.2.2.2.2.2.2.2.2 rfl rfl ?_
        refine X_bipush hK kd29_23.1 (by decide) ?_
        refine X_icmp_le hK 72 (by omega) (by omega) kd29_23.2.1 (by decide) (fun c77 => ?_) (fun c77 => False.elim (by omega))
        refine X_aloadn hK (i := 0) 2 kd29_23.2.2.2.2.2.2.1 rfl rfl ?_
        refine X_dup hK kd29_23.2.2.2.2.2.2.2.1 rfl ?_
        refine X_getK hK fl_X7_22_8 hs_a0 eno kd29_23.2.2.2.2.2.2.2.2.1 ?_
        refine X_iconst hK kd29_23.2.2.2.2.2.2.2.2.2.1 ?_
        refine X_iadd hK kd29_23.2.2.2.2.2.2.2.2.2.2.1 ?_
        refine X_puti hK fl_X7_22_8 hs_a0 (by decide) sl_8_3 (by omega) (by omega) kd29_23.2.2.2.2.2.2.2.2.2.2.2 (fun g78 hg78 => ?_)
        refine X_aloadn hK (i := 0) 2 kd29_24.1 rfl rfl ?_
        refine X_dup hK kd29_24.2.1 rfl ?_
        have hl79 := xTB.lt (A := xv g78 wt) (B := xv g78 wp) (tk := tk) (tl := tl) (c := cn) (a := na) (by rw [(xv_a hg78 (xne hs_wt hs_a0 (by decide))), (xv_a hg78 (xne hs_wp hs_a0 (by decide)))]; exact hp0) (by omega) (by rw [← k5]; omega)
        refine X_getK hK fl_X7_18_8 hs_a0 ((xs_k hg78 (by decide)).trans ena) kd29_24.2.2.1 ?_
        refine X_iconst hK kd29_24.2.2.2.1 ?_
        refine X_iadd hK kd29_24.2.2.2.2.1 ?_
        refine X_puti hK fl_X7_18_8 hs_a0 (by decide) sl_8_2 (by omega) (by omega) kd29_24.2.2.2.2.2.1 (fun g80 hg80 => ?_)
        refine X_iload hK (i := 4) 0 kd29_24.2.2.2.2.2.2.1 rfl ?_
        refine X_if_eq hK 109 (by omega) kd29_24.2.2.2.2.2.2.2.1 (by decide) (fun c81 => False.elim (by omega)) (fun c81 => ?_)
        refine X_aloadn hK (i := 0) 2 kd29_24.2.2.2.2.2.2.2.2.1 rfl rfl ?_
        refine X_aloadn hK (i := 1) 3 kd29_24.2.2.2.2.2.2.2.2.2.1 rfl rfl ?_
        refine X_iloadn hK (i := 3) 1 kd29_24.2.2.2.2.2.2.2.2.2.2.1 rfl rfl ?_
        refine X_bipush hK kd29_24.2.2.2.2.2.2.2.2.2.2.2 (by decide) ?_
        refine X_isub hK kd29_25.1 ?_
        refine X_callV hK [.ref a1, .int (iI (z4 - 10))] [] lk_X7_135 (m_readFact _ _ _ _ _ S g80 a0 a1 (z4 - 10) (na + 1) (no + 1) nf nq wt wp ns ws tk tl cn L b s0 5 hs_a0 hs_a1 (by omega) (by omega) (xs_s hg80) (by omega) ((xs_k hg80 (by decide)).trans (xs_s hg78)) (by omega) ((xs_k hg80 (by decide)).trans ((xs_k hg78 (by decide)).trans enf)) (by omega) ((xs_k hg80 (by decide)).trans ((xs_k hg78 (by decide)).trans enq)) ((xs_k hg80 (by decide)).trans ((xs_k hg78 (by decide)).trans ewt)) hs_wt ((xs_k hg80 (by decide)).trans ((xs_k hg78 (by decide)).trans ewp)) hs_wp (by omega) ((xs_a hg80 (xne hs_a1 hs_a0 (by decide))).trans ((xs_k hg78 (by decide)).trans ens)) ((xs_k hg80 (by decide)).trans ((xs_k hg78 (by decide)).trans ews)) hs_ws (by rw [(Eq.trans (xv_a hg80 (xne hs_wt hs_a0 (by decide))) (xv_a hg78 (xne hs_wt hs_a0 (by decide)))), (Eq.trans (xv_a hg80 (xne hs_wp hs_a0 (by decide))) (xv_a hg78 (xne hs_wp hs_a0 (by decide))))]; exact hp0) (by omega) (by omega) (by rw [(Eq.trans (xv_a hg80 (xne hs_ws hs_a0 (by decide))) (xv_a hg78 (xne hs_ws hs_a0 (by decide))))]; exact hp3) (by omega) (by omega) (by rw [show (na + 1) - 1 = na by omega, ← k5]; omega) (by omega)) hs_a0 ⟨by decide, rfl⟩ kd29_25.2.1 rfl rfl (by simp [Value.category]) (by decide) (by decide) (by decide) (by decide) (fun r82 S84 g83 pr82 qr82 hg83 => ?_)
        obtain ⟨rfl, rfl, k85⟩ := pr82
        refine X_st [] rfl ?_
        obtain ⟨Ft86, at86, ot86, qt86, nt86, eFt86, lFt86, uFt86, eat86, lat86, uat86, eot86, lot86, uot86, eqt86, lqt86, uqt86, ent86, lnt86, unt86, Lt86, kt86, stt86, fst86, ftt86⟩ := k85
        have cat86 : at86 ≤ 300 := (by omega)
        refine X_goto hK 148 kd29_25.2.2.1 (by decide) ?_
        exact hret _ _ _ _ _ _ kd29_27.2.2.2 ⟨rfl, rfl, ⟨Ft86, at86, ot86, qt86, nt86, eFt86, by omega, by omega, eat86, by omega, by omega, eot86, by omega, by omega, eqt86, by omega, by omega, ent86, by omega, by omega, Lt86, (by have h9 := kt86; rw [show na + 1 - 1 = na by omega, show no + 1 - 1 = no by omega] at h9; exact h9), stt86, (xFr.tr (xFr.t (xFr.t xFr.rf hg78 hs_a0 (by decide)) hg80 hs_a0 (by decide)) fst86), (xFr.tr (xFr.t (xFr.t xFr.rf hg78 hs_a0 (by decide)) hg80 hs_a0 (by decide)) ftt86)⟩⟩ (Nat.le_refl _) (Nat.le_refl _)

set_option maxHeartbeats 4000000 in
set_option maxRecDepth 100000 in
theorem m_readAll_5 (l : Launch) (D : va_G) (kA : Nat → ClassId) (b0 : Nat) (t0 : Nat → Nat) (S : xT) (g : xG) (a0 : Nat) (a1 : Nat) (x2 : Int) (na : Int) (no : Int) (nf : Int) (nq : Int) (wt : Nat) (wp : Nat) (ns : Int) (ws : Nat) (tk : Int → Int) (tl : Int → Int) (cn : Int) (L : List xS3) (b : Int) (s0 : Int → Int) (hs_a0 : S a0 = some (8, 0)) (hs_a1 : S a1 = some (11, 0)) (hx2 : 5 ≤ x2 ∧ x2 ≤ 5) (hna : 0 ≤ na ∧ na ≤ 300) (ena : g a0 2 = .int (iI na)) (hno : 0 ≤ no ∧ no ≤ 50) (eno : g a0 3 = .int (iI no)) (hnf : 0 ≤ nf ∧ nf ≤ 0) (enf : g a0 5 = .int (iI nf)) (hnq : 0 ≤ nq ∧ nq ≤ 300) (enq : g a0 6 = .int (iI nq)) (ewt : g a0 0 = .ref wt) (hs_wt : S wt = some (12900, 301)) (ewp : g a0 1 = .ref wp) (hs_wp : S wp = some (13000, 301)) (hns : 0 ≤ ns ∧ ns ≤ 100) (ens : g a1 2 = .int (iI ns)) (ews : g a1 7 = .ref ws) (hs_ws : S ws = some (14000, 100)) (hp0 : xTB (xv g wt) (xv g wp) tk tl cn) (hp1 : na ≤ cn) (hp2 : cn ≤ 300) (hp3 : xStq (xv g ws) s0 b ns L) (hp4 : 0 ≤ b) (hp5 : ns ≤ 2 * no) : xMt l yX7_readAll cX7_readAll 4 none 20 0 0 465 D kA b0 t0 [(8, 5), (8, 6), (8, 3), (8, 2), (14000, 0), (11, 2)] [.ref a0, .ref a1, .int (iI x2)] S g (fun (r : Option Value) (S1 : xT) (g1 : xG) => S = S1 ∧ r = none ∧ (∃ F a o q n : Int, g1 a0 5 = .int (iI F) ∧ -2147483648 ≤ F ∧ F ≤ 2147483647 ∧ g1 a0 2 = .int (iI a) ∧ 0 ≤ a ∧ a ≤ cn ∧ g1 a0 3 = .int (iI o) ∧ 0 ≤ o ∧ o ≤ 50 ∧ g1 a0 6 = .int (iI q) ∧ 0 ≤ q ∧ q ≤ 300 ∧ g1 a1 2 = .int (iI n) ∧ 0 ≤ n ∧ n ≤ 100 ∧ ∃ L1 : List xS3, xRC tk tl 1 5 na no L F a o q L1 ∧ (F = 0 → xStq (xv g1 ws) s0 b n L1) ∧ xFr 14000 S g g1 ws ∧ xFr 11 S g g1 a1)) := by
  refine xEnterV (by decide) (by simp [lg_sl, Value.category]) [(0, .ref a0), (1, .ref a1), (2, .int (iI x2))] rfl ?_
  intro K E hK hret _ _ _
  refine X_aloadn hK (i := 0) 0 kd29_0.1 rfl rfl ?_
  refine X_aloadn hK (i := 1) 1 kd29_0.2.1 rfl rfl ?_
  refine X_iloadn hK (i := 2) 2 kd29_0.2.2.1 rfl rfl ?_
  refine X_callV hK [.ref a1, .int (iI x2)] [] lk_X7_132 (m_readOne_5 _ _ _ _ _ S g a0 a1 x2 na no nf nq wt wp ns ws tk tl cn L b s0 hs_a0 hs_a1 (by omega) (by omega) ena (by omega) eno (by omega) enf (by omega) enq ewt hs_wt ewp hs_wp (by omega) ens ews hs_ws hp0 (by omega) (by omega) hp3 (by omega) (by omega)) hs_a0 ⟨by decide, rfl⟩ kd29_0.2.2.2.1 rfl rfl (by simp [Value.category]) (by decide) (by decide) (by decide) (by decide) (fun r1 S3 g2 pr1 qr1 hg2 => ?_)
  obtain ⟨rfl, rfl, k4⟩ := pr1
  refine X_st [] rfl ?_
  obtain ⟨Ft5, at5, ot5, qt5, nt5, eFt5, lFt5, uFt5, eat5, lat5, uat5, eot5, lot5, uot5, eqt5, lqt5, uqt5, ent5, lnt5, unt5, Lt5, kt5, stt5, fst5, ftt5⟩ := k4
  have cat5 : at5 ≤ 300 := (by omega)
  refine X_iconst hK kd29_0.2.2.2.2.1 ?_
  refine X_istoren hK (i := 3) [(3, .int (iI 0)), (0, .ref a0), (1, .ref a1), (2, .int (iI x2))] kd29_0.2.2.2.2.2.1 rfl (by decide) rfl ?_
  have P150 : ∀ (nP150 : Nat) (g122 : xG) (_ : xM [(14000, 0), (11, 2), (8, 5), (8, 6), (8, 3), (8, 2)] S g2 g122) (z121 : Int) (_ : 0 ≤ z121) (_ : z121 ≤ 50) (q123 : Int) (_ : 0 ≤ q123) (_ : q123 ≤ 300) (_ : g122 a0 2 = .int (iI q123)) (q124 : Int) (_ : 0 ≤ q124) (_ : q124 ≤ 50) (_ : g122 a0 3 = .int (iI q124)) (q125 : Int) (_ : (-2147483648) ≤ q125) (_ : q125 ≤ 2147483647) (_ : g122 a0 5 = .int (iI q125)) (q126 : Int) (_ : 0 ≤ q126) (_ : q126 ≤ 300) (_ : g122 a0 6 = .int (iI q126)) (q127 : Int) (_ : 0 ≤ q127) (_ : q127 ≤ 100) (_ : g122 a1 2 = .int (iI q127)) (_ : ∃ Li : List xS3, xIC tk tl 1 5 na no L q125 q123 q124 q126 Li ∧ (q125 = 0 → xStq (xv g122 ws) s0 b q127 Li ∧ q127 ≤ 2 * q124 - 1)) (_ : q125 = 0 → no + 1 + z121 ≤ q124) (_ : q123 ≤ cn) (_ : xFr 14000 S g g122 ws) (_ : xFr 11 S g g122 a1) (_ : 60 - z121 < (nP150 : Int)), X K E 8 [(3, .int (iI z121)), (0, .ref a0), (1, .ref a1), (2, .int (iI x2))] [] S g122 0 0 := by
    intro nP150
    induction nP150 with
    | zero => intro g122 hg122 z121 lz121 uz121 q123 lq123 uq123 eq123 q124 lq124 uq124 eq124 q125 lq125 uq125 eq125 q126 lq126 uq126 eq126 q127 lq127 uq127 eq127 v151 v152 v153 v154 v155 mP150; exact False.elim (by omega)
    | succ nP150 ihP150 =>
      intro g122 hg122 z121 lz121 uz121 q123 lq123 uq123 eq123 q124 lq124 uq124 eq124 q125 lq125 uq125 eq125 q126 lq126 uq126 eq126 q127 lq127 uq127 eq127 v151 v152 v153 v154 v155 mP150
      refine X_iloadn hK (i := 3) 0 kd29_0.2.2.2.2.2.2.1 rfl rfl ?_
      obtain ⟨Lij156, ij156, sj156⟩ := id v151
      have ivj156 : q125 = 0 → _ := fun h9 => (sj156 h9).1
      have nbj156 : q125 = 0 → q127 ≤ 2 * q124 - 1 := fun h9 => (sj156 h9).2
      refine X_bipush hK kd29_0.2.2.2.2.2.2.2.1 (by decide) ?_
      refine X_icmp_ge hK 60 (by omega) (by omega) kd29_0.2.2.2.2.2.2.2.2.1 (by decide) (fun c157 => ?_) (fun c157 => ?_)
      · exact hret _ _ _ _ _ _ kd29_2.2.2.2.2.2.2.2.2.2.1 ⟨rfl, rfl, ⟨q125, q123, q124, q126, q127, eq125, by omega, by omega, eq123, by omega, by omega, eq124, by omega, by omega, eq126, by omega, by omega, eq127, by omega, by omega, Lij156, (xIC.e ij156 (fun h9 => False.elim (by have h8 := v152 h9; omega))), (fun h9 => (sj156 h9).1), v154, v155⟩⟩ (Nat.le_refl _) (Nat.le_refl _)
      · refine X_aloadn hK (i := 0) 1 kd29_0.2.2.2.2.2.2.2.2.2.1 rfl rfl ?_
        refine X_getK hK fl_X7_29_8 hs_a0 eq125 kd29_0.2.2.2.2.2.2.2.2.2.2.1 ?_
        refine X_if_ne hK 60 (by omega) kd29_0.2.2.2.2.2.2.2.2.2.2.2 (by decide) (fun c158 => ?_) (fun c158 => ?_)
        · exact hret _ _ _ _ _ _ kd29_2.2.2.2.2.2.2.2.2.2.1 ⟨rfl, rfl, ⟨q125, q123, q124, q126, q127, eq125, by omega, by omega, eq123, by omega, by omega, eq124, by omega, by omega, eq126, by omega, by omega, eq127, by omega, by omega, Lij156, (xIC.e ij156 (fun h9 => False.elim (by have h8 := v152 h9; omega))), (fun h9 => (sj156 h9).1), v154, v155⟩⟩ (Nat.le_refl _) (Nat.le_refl _)
        · refine X_aloadn hK (i := 0) 1 kd29_1.1 rfl rfl ?_
          refine X_callV hK [] [] lk_X7_47 (c3_now _ _ _ _ _ S g122 a0 q123 wt wp tk tl cn hs_a0 (by omega) eq123 ((hg122 a0 8 0 0 hs_a0 (by decide)).trans ((hg2 a0 8 0 0 hs_a0 (by decide)).trans ewt)) hs_wt ((hg122 a0 8 0 1 hs_a0 (by decide)).trans ((hg2 a0 8 0 1 hs_a0 (by decide)).trans ewp)) hs_wp (by rw [(Eq.trans (xv_m hg122 hs_wt (by decide) (by decide)) (xv_m hg2 hs_wt (by decide) (by decide))), (Eq.trans (xv_m hg122 hs_wp (by decide) (by decide)) (xv_m hg2 hs_wp (by decide) (by decide)))]; exact hp0) (by omega) (by omega)) hs_a0 ⟨by decide, rfl⟩ kd29_1.2.1 rfl rfl (by simp [Value.category]) (by decide) (by decide) (by decide) (by decide) (fun r159 S161 g160 pr159 qr159 hg160 => ?_)
          obtain ⟨rfl, rfl, z162, rfl, lz162, uz162, k163⟩ := pr159
          refine X_st [.int (iI z162)] rfl ?_
          refine X_bipush hK kd29_1.2.2.1 (by decide) ?_
          refine X_icmp_ne hK 60 (by omega) (by omega) kd29_1.2.2.2.1 (by decide) (fun c164 => ?_) (fun c164 => ?_)
          · exact hret _ _ _ _ _ _ kd29_2.2.2.2.2.2.2.2.2.2.1 ⟨rfl, rfl, ⟨q125, q123, q124, q126, q127, eq125, by omega, by omega, eq123, by omega, by omega, eq124, by omega, by omega, eq126, by omega, by omega, eq127, by omega, by omega, Lij156, (xIC.e ij156 (fun h9 => Or.inl ⟨rfl, by rw [← k163]; omega⟩)), (fun h9 => (sj156 h9).1), v154, v155⟩⟩ (Nat.le_refl _) (Nat.le_refl _)
          · refine X_aloadn hK (i := 0) 1 kd29_1.2.2.2.2.1 rfl rfl ?_
            refine X_dup hK kd29_1.2.2.2.2.2.1 rfl ?_
            have hl165 := xTB.lt (A := xv g122 wt) (B := xv g122 wp) (tk := tk) (tl := tl) (c := cn) (a := q123) (by rw [(Eq.trans (xv_m hg122 hs_wt (by decide) (by decide)) (xv_m hg2 hs_wt (by decide) (by decide))), (Eq.trans (xv_m hg122 hs_wp (by decide) (by decide)) (xv_m hg2 hs_wp (by decide) (by decide)))]; exact hp0) (by omega) (by rw [← k163]; omega)
            refine X_getK hK fl_X7_18_8 hs_a0 eq123 kd29_1.2.2.2.2.2.2.1 ?_
            refine X_iconst hK kd29_1.2.2.2.2.2.2.2.1 ?_
            refine X_iadd hK kd29_1.2.2.2.2.2.2.2.2.1 ?_
            refine X_puti hK fl_X7_18_8 hs_a0 (by decide) sl_8_2 (by omega) (by omega) kd29_1.2.2.2.2.2.2.2.2.2.1 (fun g166 hg166 => ?_)
            refine X_aloadn hK (i := 0) 1 kd29_1.2.2.2.2.2.2.2.2.2.2.1 rfl rfl ?_
            refine X_aloadn hK (i := 1) 2 kd29_1.2.2.2.2.2.2.2.2.2.2.2 rfl rfl ?_
            refine X_iloadn hK (i := 2) 3 kd29_2.1 rfl rfl ?_
            refine X_callV hK [.ref a1, .int (iI x2)] [] lk_X7_132 (m_readOne_5 _ _ _ _ _ S g166 a0 a1 x2 (q123 + 1) q124 q125 q126 wt wp q127 ws tk tl cn Lij156 b s0 hs_a0 hs_a1 (by omega) (by omega) (xs_s hg166) (by omega) ((xs_k hg166 (by decide)).trans eq124) (by omega) ((xs_k hg166 (by decide)).trans eq125) (by omega) ((xs_k hg166 (by decide)).trans eq126) ((xs_k hg166 (by decide)).trans ((hg122 a0 8 0 0 hs_a0 (by decide)).trans ((hg2 a0 8 0 0 hs_a0 (by decide)).trans ewt))) hs_wt ((xs_k hg166 (by decide)).trans ((hg122 a0 8 0 1 hs_a0 (by decide)).trans ((hg2 a0 8 0 1 hs_a0 (by decide)).trans ewp))) hs_wp (by omega) ((xs_a hg166 (xne hs_a1 hs_a0 (by decide))).trans eq127) ((xs_k hg166 (by decide)).trans ((hg122 a1 11 0 7 hs_a1 (by decide)).trans ((hg2 a1 11 0 7 hs_a1 (by decide)).trans ews))) hs_ws (by rw [(Eq.trans (Eq.trans (xv_a hg166 (xne hs_wt hs_a0 (by decide))) (xv_m hg122 hs_wt (by decide) (by decide))) (xv_m hg2 hs_wt (by decide) (by decide))), (Eq.trans (Eq.trans (xv_a hg166 (xne hs_wp hs_a0 (by decide))) (xv_m hg122 hs_wp (by decide) (by decide))) (xv_m hg2 hs_wp (by decide) (by decide)))]; exact hp0) (by omega) (by omega) (by rw [(xv_a hg166 (xne hs_ws hs_a0 (by decide)))]; exact (ivj156 (by omega))) (by omega) (by omega)) hs_a0 ⟨by decide, rfl⟩ kd29_2.2.1 rfl rfl (by simp [Value.category]) (by decide) (by decide) (by decide) (by decide) (fun r167 S169 g168 pr167 qr167 hg168 => ?_)
            obtain ⟨rfl, rfl, k170⟩ := pr167
            refine X_st [] rfl ?_
            obtain ⟨Ft171, at171, ot171, qt171, nt171, eFt171, lFt171, uFt171, eat171, lat171, uat171, eot171, lot171, uot171, eqt171, lqt171, uqt171, ent171, lnt171, unt171, Lt171, kt171, stt171, fst171, ftt171⟩ := k170
            have cat171 : at171 ≤ 300 := (by omega)
            refine X_aloadn hK (i := 1) 2 kd29_2.2.2.1 rfl rfl ?_
            refine X_bipush hK kd29_2.2.2.2.1 (by decide) ?_
            refine X_iconst hK kd29_2.2.2.2.2.1 ?_
            refine X_iconst hK kd29_2.2.2.2.2.2.1 ?_
            refine X_callV hK [.int (iI 13), .int (iI 0), .int (iI 0)] [] lk_X7_129 (m_addStep _ _ _ _ _ S g168 a1 13 0 0 nt171 ws hs_a1 (by omega) (by omega) (by omega) (by omega) ent171 ((hg168 a1 11 0 7 hs_a1 (by decide)).trans ((xs_k hg166 (by decide)).trans ((hg122 a1 11 0 7 hs_a1 (by decide)).trans ((hg2 a1 11 0 7 hs_a1 (by decide)).trans ews)))) hs_ws) hs_a1 ⟨by decide, rfl⟩ kd29_2.2.2.2.2.2.2.1 rfl rfl (by simp [Value.category]) (by decide) (by decide) (by decide) (by decide) (fun r172 S174 g173 pr172 qr172 hg173 => ?_)
            obtain ⟨rfl, rfl, k175, k176, k177, k178⟩ := pr172
            refine X_st [] rfl ?_
            refine X_iinc hK (i := 3) (z := z121) (n := 1) 0 [(3, .int (iI (z121 + 1))), (0, .ref a0), (1, .ref a1), (2, .int (iI x2))] kd29_2.2.2.2.2.2.2.2.1 rfl (by decide) rfl ?_
            refine X_goto hK 8 kd29_2.2.2.2.2.2.2.2.2.1 (by decide) ?_
            exact ihP150  g173 (xM.tr (xM.tr (xM_up (xM.tr xM.rf xLe.rf hg122 (by decide)) hg166 hs_a0 (by decide) (by decide)) xLe.rf hg168 (by decide)) xLe.rf hg173 (by decide)) (z121 + 1) (by omega) (by omega) at171 (by omega) (by omega) ((hg173 a0 8 0 2 hs_a0 (by decide)).trans eat171) ot171 (by omega) (by omega) ((hg173 a0 8 0 3 hs_a0 (by decide)).trans eot171) Ft171 (by omega) (by omega) ((hg173 a0 8 0 5 hs_a0 (by decide)).trans eFt171) qt171 (by omega) (by omega) ((hg173 a0 8 0 6 hs_a0 (by decide)).trans eqt171) (if nt171 < 100 then nt171 + 1 else nt171) (by omega) (by omega) k175 ⟨Lt171 ++ [(13, 0, 0)], xIC.s (Or.inl ⟨rfl, rfl, rfl, (by rw [← k163]; omega)⟩) ij156 (by omega) kt171 (fun _ => rfl), fun h9 => by have h8 := xRC.b (by omega) kt171 h9; have h7 := (stt171 h9).1; have h6 := (sj156 (by omega)).1.1; have h5 := (sj156 (by omega)).2; exact ⟨(by have h9 := (xStq.add (x := (13, 0, 0)) (stt171 (by omega)) (by omega) (by have h4a := (k176.1 (by omega)).1; unfold xec9; (try dsimp only); omega) (k176.1 (by omega)).2); rw [if_pos (by omega)]; exact h9), by rw [if_pos (by omega)]; omega⟩⟩ (fun h9 => by have h8 := xRC.b (by omega) kt171 h9; omega) (by omega) (xFr.tr (xFr.tr (xFr.t v154 hg166 hs_a0 (by decide)) fst171) k177) (xFr.tr (xFr.tr (xFr.t v155 hg166 hs_a0 (by decide)) ftt171) k178) (by omega)
  exact P150 ((60 - 0 : Int).toNat + 1) g2 xM.rf 0 (by omega) (by omega) at5 (by omega) (by omega) eat5 ot5 (by omega) (by omega) eot5 Ft5 (by omega) (by omega) eFt5 qt5 (by omega) (by omega) eqt5 nt5 (by omega) (by omega) ent5 ⟨Lt5, xIC.z (Or.inl ⟨rfl, rfl⟩) kt5, fun h9 => ⟨stt5 h9, by have h8 := xRC.b (by omega) kt5 h9; have h7 := (stt5 h9).1; have h6 := hp3.1; omega⟩⟩ (fun h9 => by have h8 := xRC.b (by omega) kt5 h9; omega) (by omega) (xFr.tr xFr.rf fst5) (xFr.tr xFr.rf ftt5) (by omega)

set_option maxHeartbeats 4000000 in
set_option maxRecDepth 100000 in
theorem m_readCond_5 (l : Launch) (D : va_G) (kA : Nat → ClassId) (b0 : Nat) (t0 : Nat → Nat) (S : xT) (g : xG) (a0 : Nat) (a1 : Nat) (x2 : Int) (na : Int) (no : Int) (nf : Int) (nq : Int) (wt : Nat) (wp : Nat) (ns : Int) (ws : Nat) (tk : Int → Int) (tl : Int → Int) (cn : Int) (L : List xS3) (b : Int) (s0 : Int → Int) (hs_a0 : S a0 = some (8, 0)) (hs_a1 : S a1 = some (11, 0)) (hx2 : 5 ≤ x2 ∧ x2 ≤ 5) (hna : 0 ≤ na ∧ na ≤ 300) (ena : g a0 2 = .int (iI na)) (hno : 0 ≤ no ∧ no ≤ 50) (eno : g a0 3 = .int (iI no)) (hnf : 0 ≤ nf ∧ nf ≤ 0) (enf : g a0 5 = .int (iI nf)) (hnq : 0 ≤ nq ∧ nq ≤ 300) (enq : g a0 6 = .int (iI nq)) (ewt : g a0 0 = .ref wt) (hs_wt : S wt = some (12900, 301)) (ewp : g a0 1 = .ref wp) (hs_wp : S wp = some (13000, 301)) (hns : 0 ≤ ns ∧ ns ≤ 100) (ens : g a1 2 = .int (iI ns)) (ews : g a1 7 = .ref ws) (hs_ws : S ws = some (14000, 100)) (hp0 : xTB (xv g wt) (xv g wp) tk tl cn) (hp1 : na ≤ cn) (hp2 : cn ≤ 300) (hp3 : xStq (xv g ws) s0 b ns L) (hp4 : 0 ≤ b) (hp5 : ns ≤ 2 * no) : xMt l yX7_readCond cX7_readCond 4 none 21 0 0 488 D kA b0 t0 [(8, 5), (8, 6), (8, 3), (8, 2), (14000, 0), (11, 2)] [.ref a0, .ref a1, .int (iI x2)] S g (fun (r : Option Value) (S1 : xT) (g1 : xG) => S = S1 ∧ r = none ∧ (∃ F a o q n : Int, g1 a0 5 = .int (iI F) ∧ -2147483648 ≤ F ∧ F ≤ 2147483647 ∧ g1 a0 2 = .int (iI a) ∧ 0 ≤ a ∧ a ≤ cn ∧ g1 a0 3 = .int (iI o) ∧ 0 ≤ o ∧ o ≤ 50 ∧ g1 a0 6 = .int (iI q) ∧ 0 ≤ q ∧ q ≤ 300 ∧ g1 a1 2 = .int (iI n) ∧ 0 ≤ n ∧ n ≤ 100 ∧ ∃ L1 : List xS3, xRC tk tl 2 5 na no L F a o q L1 ∧ (F = 0 → xStq (xv g1 ws) s0 b n L1) ∧ xFr 14000 S g g1 ws ∧ xFr 11 S g g1 a1)) := by
  refine xEnterV (by decide) (by simp [lg_sl, Value.category]) [(0, .ref a0), (1, .ref a1), (2, .int (iI x2))] rfl ?_
  intro K E hK hret _ _ _
  refine X_aloadn hK (i := 0) 0 kd29_2.2.2.2.2.2.2.2.2.2.2.1 rfl rfl ?_
  refine X_aloadn hK (i := 1) 1 kd29_2.2.2.2.2.2.2.2.2.2.2.2 rfl rfl ?_
  refine X_iloadn hK (i := 2) 2 kd29_3.1 rfl rfl ?_
  refine X_callV hK [.ref a1, .int (iI x2)] [] lk_X7_126 (m_readAll_5 _ _ _ _ _ S g a0 a1 x2 na no nf nq wt wp ns ws tk tl cn L b s0 hs_a0 hs_a1 (by omega) (by omega) ena (by omega) eno (by omega) enf (by omega) enq ewt hs_wt ewp hs_wp (by omega) ens ews hs_ws hp0 (by omega) (by omega) hp3 (by omega) (by omega)) hs_a0 ⟨by decide, rfl⟩ kd29_3.2.1 rfl rfl (by simp [Value.category]) (by decide) (by decide) (by decide) (by decide) (fun r1 S3 g2 pr1 qr1 hg2 => ?_)
  obtain ⟨rfl, rfl, k4⟩ := pr1
  refine X_st [] rfl ?_
  obtain ⟨Ft5, at5, ot5, qt5, nt5, eFt5, lFt5, uFt5, eat5, lat5, uat5, eot5, lot5, uot5, eqt5, lqt5, uqt5, ent5, lnt5, unt5, Lt5, kt5, stt5, fst5, ftt5⟩ := k4
  have cat5 : at5 ≤ 300 := (by omega)
  refine X_iconst hK kd29_3.2.2.1 ?_
  refine X_istoren hK (i := 3) [(3, .int (iI 0)), (0, .ref a0), (1, .ref a1), (2, .int (iI x2))] kd29_3.2.2.2.1 rfl (by decide) rfl ?_
  have P150 : ∀ (nP150 : Nat) (g122 : xG) (_ : xM [(14000, 0), (11, 2), (8, 5), (8, 6), (8, 3), (8, 2)] S g2 g122) (z121 : Int) (_ : 0 ≤ z121) (_ : z121 ≤ 50) (q123 : Int) (_ : 0 ≤ q123) (_ : q123 ≤ 300) (_ : g122 a0 2 = .int (iI q123)) (q124 : Int) (_ : 0 ≤ q124) (_ : q124 ≤ 50) (_ : g122 a0 3 = .int (iI q124)) (q125 : Int) (_ : (-2147483648) ≤ q125) (_ : q125 ≤ 2147483647) (_ : g122 a0 5 = .int (iI q125)) (q126 : Int) (_ : 0 ≤ q126) (_ : q126 ≤ 300) (_ : g122 a0 6 = .int (iI q126)) (q127 : Int) (_ : 0 ≤ q127) (_ : q127 ≤ 100) (_ : g122 a1 2 = .int (iI q127)) (_ : ∃ Li : List xS3, xIC tk tl 2 5 na no L q125 q123 q124 q126 Li ∧ (q125 = 0 → xStq (xv g122 ws) s0 b q127 Li ∧ q127 ≤ 2 * q124 - 1)) (_ : q125 = 0 → no + 1 + z121 ≤ q124) (_ : q123 ≤ cn) (_ : xFr 14000 S g g122 ws) (_ : xFr 11 S g g122 a1) (_ : 60 - z121 < (nP150 : Int)), X K E 8 [(3, .int (iI z121)), (0, .ref a0), (1, .ref a1), (2, .int (iI x2))] [] S g122 0 0 := by
    intro nP150
    induction nP150 with
    | zero => intro g122 hg122 z121 lz121 uz121 q123 lq123 uq123 eq123 q124 lq124 uq124 eq124 q125 lq125 uq125 eq125 q126 lq126 uq126 eq126 q127 lq127 uq127 eq127 v151 v152 v153 v154 v155 mP150; exact False.elim (by omega)
    | succ nP150 ihP150 =>
      intro g122 hg122 z121 lz121 uz121 q123 lq123 uq123 eq123 q124 lq124 uq124 eq124 q125 lq125 uq125 eq125 q126 lq126 uq126 eq126 q127 lq127 uq127 eq127 v151 v152 v153 v154 v155 mP150
      refine X_iloadn hK (i := 3) 0 kd29_3.2.2.2.2.1 rfl rfl ?_
      obtain ⟨Lij156, ij156, sj156⟩ := id v151
      have ivj156 : q125 = 0 → _ := fun h9 => (sj156 h9).1
      have nbj156 : q125 = 0 → q127 ≤ 2 * q124 - 1 := fun h9 => (sj156 h9).2
      refine X_bipush hK kd29_3.2.2.2.2.2.1 (by decide) ?_
      refine X_icmp_ge hK 60 (by omega) (by omega) kd29_3.2.2.2.2.2.2.1 (by decide) (fun c157 => ?_) (fun c157 => ?_)
      · exact hret _ _ _ _ _ _ kd29_5.2.2.2.2.2.2.2.1 ⟨rfl, rfl, ⟨q125, q123, q124, q126, q127, eq125, by omega, by omega, eq123, by omega, by omega, eq124, by omega, by omega, eq126, by omega, by omega, eq127, by omega, by omega, Lij156, (xIC.e ij156 (fun h9 => False.elim (by have h8 := v152 h9; omega))), (fun h9 => (sj156 h9).1), v154, v155⟩⟩ (Nat.le_refl _) (Nat.le_refl _)
      · refine X_aloadn hK (i := 0) 1 kd29_3.2.2.2.2.2.2.2.1 rfl rfl ?_
        refine X_getK hK fl_X7_29_8 hs_a0 eq125 kd29_3.2.2.2.2.2.2.2.2.1 ?_
        refine X_if_ne hK 60 (by omega) kd29_3.2.2.2.2.2.2.2.2.2.1 (by decide) (fun c158 => ?_) (fun c158 => ?_)
        · exact hret _ _ _ _ _ _ kd29_5.2.2.2.2.2.2.2.1 ⟨rfl, rfl, ⟨q125, q123, q124, q126, q127, eq125, by omega, by omega, eq123, by omega, by omega, eq124, by omega, by omega, eq126, by omega, by omega, eq127, by omega, by omega, Lij156, (xIC.e ij156 (fun h9 => False.elim (by have h8 := v152 h9; omega))), (fun h9 => (sj156 h9).1), v154, v155⟩⟩ (Nat.le_refl _) (Nat.le_refl _)
        · refine X_aloadn hK (i := 0) 1 kd29_3.2.2.2.2.2.2.2.2.2.2.1 rfl rfl ?_
          refine X_callV hK [] [] lk_X7_47 (c3_now _ _ _ _ _ S g122 a0 q123 wt wp tk tl cn hs_a0 (by omega) eq123 ((hg122 a0 8 0 0 hs_a0 (by decide)).trans ((hg2 a0 8 0 0 hs_a0 (by decide)).trans ewt)) hs_wt ((hg122 a0 8 0 1 hs_a0 (by decide)).trans ((hg2 a0 8 0 1 hs_a0 (by decide)).trans ewp)) hs_wp (by rw [(Eq.trans (xv_m hg122 hs_wt (by decide) (by decide)) (xv_m hg2 hs_wt (by decide) (by decide))), (Eq.trans (xv_m hg122 hs_wp (by decide) (by decide)) (xv_m hg2 hs_wp (by decide) (by decide)))]; exact hp0) (by omega) (by omega)) hs_a0 ⟨by decide, rfl⟩ kd29_3.2.2.2.2.2.2.2.2.2.2.2 rfl rfl (by simp [Value.category]) (by decide) (by decide) (by decide) (by decide) (fun r159 S161 g160 pr159 qr159 hg160 => ?_)
          obtain ⟨rfl, rfl, z162, rfl, lz162, uz162, k163⟩ := pr159
          refine X_st [.int (iI z162)] rfl ?_
          refine X_bipush hK kd29_4.1 (by decide) ?_
          refine X_icmp_ne hK 60 (by omega) (by omega) kd29_4.2.1 (by decide) (fun c164 => ?_) (fun c164 => ?_)
          · exact hret _ _ _ _ _ _ kd29_5.2.2.2.2.2.2.2.1 ⟨rfl, rfl, ⟨q125, q123, q124, q126, q127, eq125, by omega, by omega, eq123, by omega, by omega, eq124, by omega, by omega, eq126, by omega, by omega, eq127, by omega, by omega, Lij156, (xIC.e ij156 (fun h9 => Or.inr ⟨rfl, by rw [← k163]; omega⟩)), (fun h9 => (sj156 h9).1), v154, v155⟩⟩ (Nat.le_refl _) (Nat.le_refl _)
          · refine X_aloadn hK (i := 0) 1 kd29_4.2.2.1 rfl rfl ?_
            refine X_dup hK kd29_4.2.2.2.1 rfl ?_
            have hl165 := xTB.lt (A := xv g122 wt) (B := xv g122 wp) (tk := tk) (tl := tl) (c := cn) (a := q123) (by rw [(Eq.trans (xv_m hg122 hs_wt (by decide) (by decide)) (xv_m hg2 hs_wt (by decide) (by decide))), (Eq.trans (xv_m hg122 hs_wp (by decide) (by decide)) (xv_m hg2 hs_wp (by decide) (by decide)))]; exact hp0) (by omega) (by rw [← k163]; omega)
            refine X_getK hK fl_X7_18_8 hs_a0 eq123 kd29_4.2.2.2.2.1 ?_
            refine X_iconst hK kd29_4.2.2.2.2.2.1 ?_
            refine X_iadd hK kd29_4.2.2.2.2.2.2.1 ?_
            refine X_puti hK fl_X7_18_8 hs_a0 (by decide) sl_8_2 (by omega) (by omega) kd29_4.2.2.2.2.2.2.2.1 (fun g166 hg166 => ?_)
            refine X_aloadn hK (i := 0) 1 kd29_4.2.2.2.2.2.2.2.2.1 rfl rfl ?_
            refine X_aloadn hK (i := 1) 2 kd29_4.2.2.2.2.2.2.2.2.2.1 rfl rfl ?_
            refine X_iloadn hK (i := 2) 3 kd29_4.2.2.2.2.2.2.2.2.2.2.1 rfl rfl ?_
            refine X_callV hK [.ref a1, .int (iI x2)] [] lk_X7_126 (m_readAll_5 _ _ _ _ _ S g166 a0 a1 x2 (q123 + 1) q124 q125 q126 wt wp q127 ws tk tl cn Lij156 b s0 hs_a0 hs_a1 (by omega) (by omega) (xs_s hg166) (by omega) ((xs_k hg166 (by decide)).trans eq124) (by omega) ((xs_k hg166 (by decide)).trans eq125) (by omega) ((xs_k hg166 (by decide)).trans eq126) ((xs_k hg166 (by decide)).trans ((hg122 a0 8 0 0 hs_a0 (by decide)).trans ((hg2 a0 8 0 0 hs_a0 (by decide)).trans ewt))) hs_wt ((xs_k hg166 (by decide)).trans ((hg122 a0 8 0 1 hs_a0 (by decide)).trans ((hg2 a0 8 0 1 hs_a0 (by decide)).trans ewp))) hs_wp (by omega) ((xs_a hg166 (xne hs_a1 hs_a0 (by decide))).trans eq127) ((xs_k hg166 (by decide)).trans ((hg122 a1 11 0 7 hs_a1 (by decide)).trans ((hg2 a1 11 0 7 hs_a1 (by decide)).trans ews))) hs_ws (by rw [(Eq.trans (Eq.trans (xv_a hg166 (xne hs_wt hs_a0 (by decide))) (xv_m hg122 hs_wt (by decide) (by decide))) (xv_m hg2 hs_wt (by decide) (by decide))), (Eq.trans (Eq.trans (xv_a hg166 (xne hs_wp hs_a0 (by decide))) (xv_m hg122 hs_wp (by decide) (by decide))) (xv_m hg2 hs_wp (by decide) (by decide)))]; exact hp0) (by omega) (by omega) (by rw [(xv_a hg166 (xne hs_ws hs_a0 (by decide)))]; exact (ivj156 (by omega))) (by omega) (by omega)) hs_a0 ⟨by decide, rfl⟩ kd29_4.2.2.2.2.2.2.2.2.2.2.2 rfl rfl (by simp [Value.category]) (by decide) (by decide) (by decide) (by decide) (fun r167 S169 g168 pr167 qr167 hg168 => ?_)
            obtain ⟨rfl, rfl, k170⟩ := pr167
            refine X_st [] rfl ?_
            obtain ⟨Ft171, at171, ot171, qt171, nt171, eFt171, lFt171, uFt171, eat171, lat171, uat171, eot171, lot171, uot171, eqt171, lqt171, uqt171, ent171, lnt171, unt171, Lt171, kt171, stt171, fst171, ftt171⟩ := k170
            have cat171 : at171 ≤ 300 := (by omega)
            refine X_aloadn hK (i := 1) 2 kd29_5.1 rfl rfl ?_
            refine X_bipush hK kd29_5.2.1 (by decide) ?_
            refine X_iconst hK kd29_5.2.2.1 ?_
            refine X_iconst hK kd29_5.2.2.2.1 ?_
            refine X_callV hK [.int (iI 14), .int (iI 0), .int (iI 0)] [] lk_X7_129 (m_addStep _ _ _ _ _ S g168 a1 14 0 0 nt171 ws hs_a1 (by omega) (by omega) (by omega) (by omega) ent171 ((hg168 a1 11 0 7 hs_a1 (by decide)).trans ((xs_k hg166 (by decide)).trans ((hg122 a1 11 0 7 hs_a1 (by decide)).trans ((hg2 a1 11 0 7 hs_a1 (by decide)).trans ews)))) hs_ws) hs_a1 ⟨by decide, rfl⟩ kd29_5.2.2.2.2.1 rfl rfl (by simp [Value.category]) (by decide) (by decide) (by decide) (by decide) (fun r172 S174 g173 pr172 qr172 hg173 => ?_)
            obtain ⟨rfl, rfl, k175, k176, k177, k178⟩ := pr172
            refine X_st [] rfl ?_
            refine X_iinc hK (i := 3) (z := z121) (n := 1) 0 [(3, .int (iI (z121 + 1))), (0, .ref a0), (1, .ref a1), (2, .int (iI x2))] kd29_5.2.2.2.2.2.1 rfl (by decide) rfl ?_
            refine X_goto hK 8 kd29_5.2.2.2.2.2.2.1 (by decide) ?_
            exact ihP150  g173 (xM.tr (xM.tr (xM_up (xM.tr xM.rf xLe.rf hg122 (by decide)) hg166 hs_a0 (by decide) (by decide)) xLe.rf hg168 (by decide)) xLe.rf hg173 (by decide)) (z121 + 1) (by omega) (by omega) at171 (by omega) (by omega) ((hg173 a0 8 0 2 hs_a0 (by decide)).trans eat171) ot171 (by omega) (by omega) ((hg173 a0 8 0 3 hs_a0 (by decide)).trans eot171) Ft171 (by omega) (by omega) ((hg173 a0 8 0 5 hs_a0 (by decide)).trans eFt171) qt171 (by omega) (by omega) ((hg173 a0 8 0 6 hs_a0 (by decide)).trans eqt171) (if nt171 < 100 then nt171 + 1 else nt171) (by omega) (by omega) k175 ⟨Lt171 ++ [(14, 0, 0)], xIC.s (Or.inr ⟨rfl, rfl, rfl, (by rw [← k163]; omega)⟩) ij156 (by omega) kt171 (fun _ => rfl), fun h9 => by have h8 := xRC.b (by omega) kt171 h9; have h7 := (stt171 h9).1; have h6 := (sj156 (by omega)).1.1; have h5 := (sj156 (by omega)).2; exact ⟨(by have h9 := (xStq.add (x := (14, 0, 0)) (stt171 (by omega)) (by omega) (by have h4a := (k176.1 (by omega)).1; unfold xec9; (try dsimp only); omega) (k176.1 (by omega)).2); rw [if_pos (by omega)]; exact h9), by rw [if_pos (by omega)]; omega⟩⟩ (fun h9 => by have h8 := xRC.b (by omega) kt171 h9; omega) (by omega) (xFr.tr (xFr.tr (xFr.t v154 hg166 hs_a0 (by decide)) fst171) k177) (xFr.tr (xFr.tr (xFr.t v155 hg166 hs_a0 (by decide)) ftt171) k178) (by omega)
  exact P150 ((60 - 0 : Int).toNat + 1) g2 xM.rf 0 (by omega) (by omega) at5 (by omega) (by omega) eat5 ot5 (by omega) (by omega) eot5 Ft5 (by omega) (by omega) eFt5 qt5 (by omega) (by omega) eqt5 nt5 (by omega) (by omega) ent5 ⟨Lt5, xIC.z (Or.inr ⟨rfl, rfl⟩) kt5, fun h9 => ⟨stt5 h9, by have h8 := xRC.b (by omega) kt5 h9; have h7 := (stt5 h9).1; have h6 := hp3.1; omega⟩⟩ (fun h9 => by have h8 := xRC.b (by omega) kt5 h9; omega) (by omega) (xFr.tr xFr.rf fst5) (xFr.tr xFr.rf ftt5) (by omega)

set_option maxHeartbeats 4000000 in
set_option maxRecDepth 100000 in
theorem m_readOne_4 (l : Launch) (D : va_G) (kA : Nat → ClassId) (b0 : Nat) (t0 : Nat → Nat) (S : xT) (g : xG) (a0 : Nat) (a1 : Nat) (x2 : Int) (na : Int) (no : Int) (nf : Int) (nq : Int) (wt : Nat) (wp : Nat) (ns : Int) (ws : Nat) (tk : Int → Int) (tl : Int → Int) (cn : Int) (L : List xS3) (b : Int) (s0 : Int → Int) (hs_a0 : S a0 = some (8, 0)) (hs_a1 : S a1 = some (11, 0)) (hx2 : 4 ≤ x2 ∧ x2 ≤ 4) (hna : 0 ≤ na ∧ na ≤ 300) (ena : g a0 2 = .int (iI na)) (hno : 0 ≤ no ∧ no ≤ 50) (eno : g a0 3 = .int (iI no)) (hnf : 0 ≤ nf ∧ nf ≤ 0) (enf : g a0 5 = .int (iI nf)) (hnq : 0 ≤ nq ∧ nq ≤ 300) (enq : g a0 6 = .int (iI nq)) (ewt : g a0 0 = .ref wt) (hs_wt : S wt = some (12900, 301)) (ewp : g a0 1 = .ref wp) (hs_wp : S wp = some (13000, 301)) (hns : 0 ≤ ns ∧ ns ≤ 100) (ens : g a1 2 = .int (iI ns)) (ews : g a1 7 = .ref ws) (hs_ws : S ws = some (14000, 100)) (hp0 : xTB (xv g wt) (xv g wp) tk tl cn) (hp1 : na ≤ cn) (hp2 : cn ≤ 300) (hp3 : xStq (xv g ws) s0 b ns L) (hp4 : 0 ≤ b) (hp5 : ns ≤ 2 * no) : xMt l yX7_readOne cX7_readOne 5 none 22 0 0 511 D kA b0 t0 [(8, 5), (8, 6), (8, 3), (8, 2), (14000, 0), (11, 2)] [.ref a0, .ref a1, .int (iI x2)] S g (fun (r : Option Value) (S1 : xT) (g1 : xG) => S = S1 ∧ r = none ∧ (∃ F a o q n : Int, g1 a0 5 = .int (iI F) ∧ -2147483648 ≤ F ∧ F ≤ 2147483647 ∧ g1 a0 2 = .int (iI a) ∧ 0 ≤ a ∧ a ≤ cn ∧ g1 a0 3 = .int (iI o) ∧ 0 ≤ o ∧ o ≤ 50 ∧ g1 a0 6 = .int (iI q) ∧ 0 ≤ q ∧ q ≤ 300 ∧ g1 a1 2 = .int (iI n) ∧ 0 ≤ n ∧ n ≤ 100 ∧ ∃ L1 : List xS3, xRC tk tl 0 4 na no L F a o q L1 ∧ (F = 0 → xStq (xv g1 ws) s0 b n L1) ∧ xFr 14000 S g g1 ws ∧ xFr 11 S g g1 a1)) := by
  refine xEnterV (by decide) (by simp [lg_sl, Value.category]) [(0, .ref a0), (1, .ref a1), (2, .int (iI x2))] rfl ?_
  intro K E hK hret _ _ _
  refine X_aloadn hK (i := 0) 0 kd29_20.2.2.2.2.2.2.1 rfl rfl ?_
  refine X_callV hK [] [] lk_X7_47 (c3_now _ _ _ _ _ S g a0 na wt wp tk tl cn hs_a0 (by omega) ena ewt hs_wt ewp hs_wp hp0 (by omega) (by omega)) hs_a0 ⟨by decide, rfl⟩ kd29_20.2.2.2.2.2.2.2.1 rfl rfl (by simp [Value.category]) (by decide) (by decide) (by decide) (by decide) (fun r1 S3 g2 pr1 qr1 hg2 => ?_)
  obtain ⟨rfl, rfl, z4, rfl, lz4, uz4, k5⟩ := pr1
  refine X_st [.int (iI z4)] rfl ?_
  refine X_istoren hK (i := 3) [(3, .int (iI z4)), (0, .ref a0), (1, .ref a1), (2, .int (iI x2))] kd29_20.2.2.2.2.2.2.2.2.1 rfl (by decide) rfl ?_
  refine X_iloadn hK (i := 3) 0 kd29_20.2.2.2.2.2.2.2.2.2.1 rfl rfl ?_
  refine X_bipush hK kd29_20.2.2.2.2.2.2.2.2.2.2.1 (by decide) ?_
  refine X_icmp_lt hK 21 (by omega) (by omega) kd29_20.2.2.2.2.2.2.2.2.2.2.2 (by decide) (fun c6 => ?_) (fun c6 => ?_)
  · refine X_iconst hK kd29_21.2.2.2.2.2.1 ?_
    refine X_istore hK (i := 4) [(4, .int (iI 0)), (3, .int (iI z4)), (0, .ref a0), (1, .ref a1), (2, .int (iI x2))] kd29_21.2.2.2.2.2.2.1 (by decide) rfl ?_
    refine X_iload hK (i := 4) 0 kd29_21.2.2.2.2.2.2.2.1 rfl ?_
    refine X_if_ne hK 49 (by omega) kd29_21.2.2.2.2.2.2.2.2.1 (by decide) (fun c7 => False.elim (by omega)) (fun c7 => ?_)
    refine X_iloadn hK (i := 3) 1 kd29_21.2.2.2.2.2.2.2.2.2.1 rfl rfl ?_
    refine X_bipush hK kd29_21.2.2.2.2.2.2.2.2.2.2.1 (by decide) ?_
    refine X_icmp_eq hK 49 (by omega) (by omega) kd29_21.2.2.2.2.2.2.2.2.2.2.2 (by decide) (fun c8 => ?_) (fun c8 => ?_)
    · refine X_aloadn hK (i := 0) 2 kd29_22.2.2.2.2.2.2.2.1 rfl rfl ?_
      refine X_getK hK fl_X7_22_8 hs_a0 eno kd29_22.2.2.2.2.2.2.2.2.1 ?_
      refine X_bipush hK kd29_22.2.2.2.2.2.2.2.2.2.1 (by decide) ?_
      refine X_icmp_ge hK 64 (by omega) (by omega) kd29_22.2.2.2.2.2.2.2.2.2.2.1 (by decide) (fun c9 => ?_) (fun c9 => ?_)
      · refine X_aloadn hK (i := 0) 2 kd29_23.2.2.1 rfl rfl ?_
        refine X_iconst hK kd29_23.2.2.2.1 ?_
        refine X_callV hK [.int (iI 4)] [] lk_X7_60 (c3_tell _ _ _ _ _ S g a0 4 na no nf nq wt wp tk tl cn hs_a0 (by omega) (by omega) ena (by omega) eno (by omega) enf (by omega) enq ewt hs_wt ewp hs_wp hp0 (by omega) (by omega)) hs_a0 ⟨by decide, rfl⟩ kd29_23.2.2.2.2.1 rfl rfl (by simp [Value.category]) (by decide) (by decide) (by decide) (by decide) (fun r10 S12 g11 pr10 qr10 hg11 => ?_)
        obtain ⟨rfl, rfl, k13⟩ := pr10
        refine X_st [] rfl ?_
        obtain ⟨Ft14, at14, ot14, qt14, eFt14, lFt14, uFt14, eat14, lat14, uat14, eot14, lot14, uot14, eqt14, lqt14, uqt14, kt14⟩ := k13
        have cat14 : at14 ≤ 300 := by have h9 := (show xTB (xv g11 wt) (xv g11 wp) tk tl cn from (by rw [(xv_m hg11 hs_wt (by decide) (by decide)), (xv_m hg11 hs_wp (by decide) (by decide))]; exact hp0)).2.2.2; omega
        refine X_goto hK 148 kd29_23.2.2.2.2.2.1 (by decide) ?_
        exact hret _ _ _ _ _ _ kd29_27.2.2.2 ⟨rfl, rfl, ⟨Ft14, at14, ot14, qt14, ns, eFt14, by omega, by omega, eat14, by omega, by omega, eot14, by omega, by omega, eqt14, by omega, by omega, ((hg11 a1 11 0 2 hs_a1 (by decide)).trans ens), by omega, by omega, [], (by obtain ⟨h8, h7, h6⟩ := kt14; have h5 := h8.resolve_left (fun q9 => by omega); rw [h5.2.1]; exact xRC.f4 (by rw [← k5]; omega) (by omega) h5.2.2), (fun h9 => by have h8 := kt14; omega), (xFr.m xFr.rf hg11 (by decide)), (xFr.m xFr.rf hg11 (by decide))⟩⟩ (Nat.le_refl _) (Nat.le_refl _)
      · refine X_iloadn hK (i := 2) 4 kd29_22.2.2.2.2.2.2.2.2.2.2.2 rfl rfl ?_
        refine X_bipush hK kd29_23.1 (by decide) ?_
        refine X_icmp_le hK 72 (by omega) (by omega) kd29_23.2.1 (by decide) (fun c15 => ?_) (fun c15 => False.elim (by omega))
        refine X_aloadn hK (i := 0) 2 kd29_23.2.2.2.2.2.2.1 rfl rfl ?_
        refine X_dup hK kd29_23.2.2.2.2.2.2.2.1 rfl ?_
        refine X_getK hK fl_X7_22_8 hs_a0 eno kd29_23.2.2.2.2.2.2.2.2.1 ?_
        refine X_iconst hK kd29_23.2.2.2.2.2.2.2.2.2.1 ?_
        refine X_iadd hK kd29_23.2.2.2.2.2.2.2.2.2.2.1 ?_
        refine X_puti hK fl_X7_22_8 hs_a0 (by decide) sl_8_3 (by omega) (by omega) kd29_23.2.2.2.2.2.2.2.2.2.2.2 (fun g16 hg16 => ?_)
        refine X_aloadn hK (i := 0) 2 kd29_24.1 rfl rfl ?_
        refine X_dup hK kd29_24.2.1 rfl ?_
        have hl17 := xTB.lt (A := xv g16 wt) (B := xv g16 wp) (tk := tk) (tl := tl) (c := cn) (a := na) (by rw [(xv_a hg16 (xne hs_wt hs_a0 (by decide))), (xv_a hg16 (xne hs_wp hs_a0 (by decide)))]; exact hp0) (by omega) (by rw [← k5]; omega)
        refine X_getK hK fl_X7_18_8 hs_a0 ((xs_k hg16 (by decide)).trans ena) kd29_24.2.2.1 ?_
        refine X_iconst hK kd29_24.2.2.2.1 ?_
        refine X_iadd hK kd29_24.2.2.2.2.1 ?_
        refine X_puti hK fl_X7_18_8 hs_a0 (by decide) sl_8_2 (by omega) (by omega) kd29_24.2.2.2.2.2.1 (fun g18 hg18 => ?_)
        refine X_iload hK (i := 4) 0 kd29_24.2.2.2.2.2.2.1 rfl ?_
        refine X_if_eq hK 109 (by omega) kd29_24.2.2.2.2.2.2.2.1 (by decide) (fun c19 => ?_) (fun c19 => False.elim (by omega))
        refine X_iloadn hK (i := 3) 1 kd29_25.2.2.2.1 rfl rfl ?_
        refine X_bipush hK kd29_25.2.2.2.2.1 (by decide) ?_
        refine X_icmp_ne hK 132 (by omega) (by omega) kd29_25.2.2.2.2.2.1 (by decide) (fun c20 => ?_) (fun c20 => False.elim (by omega))
        refine X_aloadn hK (i := 0) 2 kd29_26.2.2.2.2.1 rfl rfl ?_
        refine X_aloadn hK (i := 1) 3 kd29_26.2.2.2.2.2.1 rfl rfl ?_
        refine X_iloadn hK (i := 2) 4 kd29_26.2.2.2.2.2.2.1 rfl rfl ?_
        refine X_iconst hK kd29_26.2.2.2.2.2.2.2.1 ?_
        refine X_iadd hK kd29_26.2.2.2.2.2.2.2.2.1 ?_
        refine X_callV hK [.ref a1, .int (iI (x2 + 1))] [] lk_X7_132 (m_readOne_5 _ _ _ _ _ S g18 a0 a1 (x2 + 1) (na + 1) (no + 1) nf nq wt wp ns ws tk tl cn L b s0 hs_a0 hs_a1 (by omega) (by omega) (xs_s hg18) (by omega) ((xs_k hg18 (by decide)).trans (xs_s hg16)) (by omega) ((xs_k hg18 (by decide)).trans ((xs_k hg16 (by decide)).trans enf)) (by omega) ((xs_k hg18 (by decide)).trans ((xs_k hg16 (by decide)).trans enq)) ((xs_k hg18 (by decide)).trans ((xs_k hg16 (by decide)).trans ewt)) hs_wt ((xs_k hg18 (by decide)).trans ((xs_k hg16 (by decide)).trans ewp)) hs_wp (by omega) ((xs_a hg18 (xne hs_a1 hs_a0 (by decide))).trans ((xs_k hg16 (by decide)).trans ens)) ((xs_k hg18 (by decide)).trans ((xs_k hg16 (by decide)).trans ews)) hs_ws (by rw [(Eq.trans (xv_a hg18 (xne hs_wt hs_a0 (by decide))) (xv_a hg16 (xne hs_wt hs_a0 (by decide)))), (Eq.trans (xv_a hg18 (xne hs_wp hs_a0 (by decide))) (xv_a hg16 (xne hs_wp hs_a0 (by decide))))]; exact hp0) (by omega) (by omega) (by rw [(Eq.trans (xv_a hg18 (xne hs_ws hs_a0 (by decide))) (xv_a hg16 (xne hs_ws hs_a0 (by decide))))]; exact hp3) (by omega) (by omega)) hs_a0 ⟨by decide, rfl⟩ kd29_26.2.2.2.2.2.2.2.2.2.1 rfl rfl (by simp [Value.category]) (by decide) (by decide) (by decide) (by decide) (fun r21 S23 g22 pr21 qr21 hg22 => ?_)
        obtain ⟨rfl, rfl, k24⟩ := pr21
        refine X_st [] rfl ?_
        obtain ⟨Ft25, at25, ot25, qt25, nt25, eFt25, lFt25, uFt25, eat25, lat25, uat25, eot25, lot25, uot25, eqt25, lqt25, uqt25, ent25, lnt25, unt25, Lt25, kt25, stt25, fst25, ftt25⟩ := k24
        have cat25 : at25 ≤ 300 := (by omega)
        refine X_aloadn hK (i := 1) 3 kd29_26.2.2.2.2.2.2.2.2.2.2.1 rfl rfl ?_
        refine X_bipush hK kd29_26.2.2.2.2.2.2.2.2.2.2.2 (by decide) ?_
        refine X_iconst hK kd29_27.1 ?_
        refine X_iconst hK kd29_27.2.1 ?_
        refine X_callV hK [.int (iI 12), .int (iI 0), .int (iI 0)] [] lk_X7_129 (m_addStep _ _ _ _ _ S g22 a1 12 0 0 nt25 ws hs_a1 (by omega) (by omega) (by omega) (by omega) ent25 ((hg22 a1 11 0 7 hs_a1 (by decide)).trans ((xs_k hg18 (by decide)).trans ((xs_k hg16 (by decide)).trans ews))) hs_ws) hs_a1 ⟨by decide, rfl⟩ kd29_27.2.2.1 rfl rfl (by simp [Value.category]) (by decide) (by decide) (by decide) (by decide) (fun r26 S28 g27 pr26 qr26 hg27 => ?_)
        obtain ⟨rfl, rfl, k29, k30, k31, k32⟩ := pr26
        refine X_st [] rfl ?_
        exact hret _ _ _ _ _ _ kd29_27.2.2.2 ⟨rfl, rfl, ⟨Ft25, at25, ot25, qt25, (if nt25 < 100 then nt25 + 1 else nt25), ((hg27 a0 8 0 5 hs_a0 (by decide)).trans eFt25), by omega, by omega, ((hg27 a0 8 0 2 hs_a0 (by decide)).trans eat25), by omega, by omega, ((hg27 a0 8 0 3 hs_a0 (by decide)).trans eot25), by omega, by omega, ((hg27 a0 8 0 6 hs_a0 (by decide)).trans eqt25), by omega, by omega, k29, by omega, by omega, (Lt25 ++ [(12, 0, 0)]), (xRC.nt (by rw [← k5]; omega) (by omega) kt25 (fun _ => rfl)), (fun h9 => by have h6 := xRC.b (by omega) kt25 h9; have h5 := (stt25 h9).1; have h4 := hp3.1; exact (by have h9 := (xStq.add (x := (12, 0, 0)) (stt25 (by omega)) (by omega) (by have h4a := (k30.1 (by omega)).1; unfold xec9; (try dsimp only); omega) (k30.1 (by omega)).2); rw [if_pos (by omega)]; exact h9)), (xFr.tr (xFr.tr (xFr.t (xFr.t xFr.rf hg16 hs_a0 (by decide)) hg18 hs_a0 (by decide)) fst25) k31), (xFr.tr (xFr.tr (xFr.t (xFr.t xFr.rf hg16 hs_a0 (by decide)) hg18 hs_a0 (by decide)) ftt25) k32)⟩⟩ (Nat.le_refl _) (Nat.le_refl _)
    · refine X_iloadn hK (i := 3) 1 kd29_22.1 rfl rfl ?_
      refine X_bipush hK kd29_22.2.1 (by decide) ?_
      refine X_icmp_eq hK 49 (by omega) (by omega) kd29_22.2.2.1 (by decide) (fun c33 => False.elim (by omega)) (fun c33 => ?_)
      refine X_aloadn hK (i := 0) 2 kd29_22.2.2.2.1 rfl rfl ?_
      refine X_iconst hK kd29_22.2.2.2.2.1 ?_
      refine X_callV hK [.int (iI 1)] [] lk_X7_60 (c3_tell _ _ _ _ _ S g a0 1 na no nf nq wt wp tk tl cn hs_a0 (by omega) (by omega) ena (by omega) eno (by omega) enf (by omega) enq ewt hs_wt ewp hs_wp hp0 (by omega) (by omega)) hs_a0 ⟨by decide, rfl⟩ kd29_22.2.2.2.2.2.1 rfl rfl (by simp [Value.category]) (by decide) (by decide) (by decide) (by decide) (fun r34 S36 g35 pr34 qr34 hg35 => ?_)
      obtain ⟨rfl, rfl, k37⟩ := pr34
      refine X_st [] rfl ?_
      obtain ⟨Ft38, at38, ot38, qt38, eFt38, lFt38, uFt38, eat38, lat38, uat38, eot38, lot38, uot38, eqt38, lqt38, uqt38, kt38⟩ := k37
      have cat38 : at38 ≤ 300 := by have h9 := (show xTB (xv g35 wt) (xv g35 wp) tk tl cn from (by rw [(xv_m hg35 hs_wt (by decide) (by decide)), (xv_m hg35 hs_wp (by decide) (by decide))]; exact hp0)).2.2.2; omega
      refine X_goto hK 148 kd29_22.2.2.2.2.2.2.1 (by decide) ?_
      exact hret _ _ _ _ _ _ kd29_27.2.2.2 ⟨rfl, rfl, ⟨Ft38, at38, ot38, qt38, ns, eFt38, by omega, by omega, eat38, by omega, by omega, eot38, by omega, by omega, eqt38, by omega, by omega, ((hg35 a1 11 0 2 hs_a1 (by decide)).trans ens), by omega, by omega, [], (by obtain ⟨h8, h7, h6⟩ := kt38; have h5 := h8.resolve_left (fun q9 => by omega); rw [h5.2.1]; exact xRC.f1 (by rw [← k5]; omega) h5.2.2), (fun h9 => by have h8 := kt38; omega), (xFr.m xFr.rf hg35 (by decide)), (xFr.m xFr.rf hg35 (by decide))⟩⟩ (Nat.le_refl _) (Nat.le_refl _)
  · refine X_iloadn hK (i := 3) 0 kd29_21.1 rfl rfl ?_
    refine X_bipush hK kd29_21.2.1 (by decide) ?_
    refine X_icmp_ge hK 21 (by omega) (by omega) kd29_21.2.2.1 (by decide) (fun c39 => ?_) (fun c39 => ?_)
    · refine X_iconst hK kd29_21.2.2.2.2.2.1 ?_
      refine X_istore hK (i := 4) [(4, .int (iI 0)), (3, .int (iI z4)), (0, .ref a0), (1, .ref a1), (2, .int (iI x2))] kd29_21.2.2.2.2.2.2.1 (by decide) rfl ?_
      refine X_iload hK (i := 4) 0 kd29_21.2.2.2.2.2.2.2.1 rfl ?_
      refine X_if_ne hK 49 (by omega) kd29_21.2.2.2.2.2.2.2.2.1 (by decide) (fun c40 => False.elim (by omega)) (fun c40 => ?_)
      refine X_iloadn hK (i := 3) 1 kd29_21.2.2.2.2.2.2.2.2.2.1 rfl rfl ?_
      refine X_bipush hK kd29_21.2.2.2.2.2.2.2.2.2.2.1 (by decide) ?_
      refine X_icmp_eq hK 49 (by omega) (by omega) kd29_21.2.2.2.2.2.2.2.2.2.2.2 (by decide) (fun c41 => False.elim (by omega)) (fun c41 => ?_)
      refine X_iloadn hK (i := 3) 1 kd29_22.1 rfl rfl ?_
      refine X_bipush hK kd29_22.2.1 (by decide) ?_
      refine X_icmp_eq hK 49 (by omega) (by omega) kd29_22.2.2.1 (by decide) (fun c42 => ?_) (fun c42 => ?_)
      · refine X_aloadn hK (i := 0) 2 kd29_22.2.2.2.2.2.2.2.1 rfl rfl ?_
        refine X_getK hK fl_X7_22_8 hs_a0 eno kd29_22.2.2.2.2.2.2.2.2.1 ?_
        refine X_bipush hK kd29_22.2.2.2.2.2.2.2.2.2.1 (by decide) ?_
        refine X_icmp_ge hK 64 (by omega) (by omega) kd29_22.2.2.2.2.2.2.2.2.2.2.1 (by decide) (fun c43 => ?_) (fun c43 => ?_)
        · refine X_aloadn hK (i := 0) 2 kd29_23.2.2.1 rfl rfl ?_
          refine X_iconst hK kd29_23.2.2.2.1 ?_
          refine X_callV hK [.int (iI 4)] [] lk_X7_60 (c3_tell _ _ _ _ _ S g a0 4 na no nf nq wt wp tk tl cn hs_a0 (by omega) (by omega) ena (by omega) eno (by omega) enf (by omega) enq ewt hs_wt ewp hs_wp hp0 (by omega) (by omega)) hs_a0 ⟨by decide, rfl⟩ kd29_23.2.2.2.2.1 rfl rfl (by simp [Value.category]) (by decide) (by decide) (by decide) (by decide) (fun r44 S46 g45 pr44 qr44 hg45 => ?_)
          obtain ⟨rfl, rfl, k47⟩ := pr44
          refine X_st [] rfl ?_
          obtain ⟨Ft48, at48, ot48, qt48, eFt48, lFt48, uFt48, eat48, lat48, uat48, eot48, lot48, uot48, eqt48, lqt48, uqt48, kt48⟩ := k47
          have cat48 : at48 ≤ 300 := by have h9 := (show xTB (xv g45 wt) (xv g45 wp) tk tl cn from (by rw [(xv_m hg45 hs_wt (by decide) (by decide)), (xv_m hg45 hs_wp (by decide) (by decide))]; exact hp0)).2.2.2; omega
          refine X_goto hK 148 kd29_23.2.2.2.2.2.1 (by decide) ?_
          exact hret _ _ _ _ _ _ kd29_27.2.2.2 ⟨rfl, rfl, ⟨Ft48, at48, ot48, qt48, ns, eFt48, by omega, by omega, eat48, by omega, by omega, eot48, by omega, by omega, eqt48, by omega, by omega, ((hg45 a1 11 0 2 hs_a1 (by decide)).trans ens), by omega, by omega, [], (by obtain ⟨h8, h7, h6⟩ := kt48; have h5 := h8.resolve_left (fun q9 => by omega); rw [h5.2.1]; exact xRC.f4 (by rw [← k5]; omega) (by omega) h5.2.2), (fun h9 => by have h8 := kt48; omega), (xFr.m xFr.rf hg45 (by decide)), (xFr.m xFr.rf hg45 (by decide))⟩⟩ (Nat.le_refl _) (Nat.le_refl _)
        · refine X_iloadn hK (i := 2) 4 kd29_22.2.2.2.2.2.2.2.2.2.2.2 rfl rfl ?_
          refine X_bipush hK kd29_23.1 (by decide) ?_
          refine X_icmp_le hK 72 (by omega) (by omega) kd29_23.2.1 (by decide) (fun c49 => ?_) (fun c49 => False.elim (by omega))
          refine X_aloadn hK (i := 0) 2 kd29_23.2.2.2.2.2.2.1 rfl rfl ?_
          refine X_dup hK kd29_23.2.2.2.2.2.2.2.1 rfl ?_
          refine X_getK hK fl_X7_22_8 hs_a0 eno kd29_23.2.2.2.2.2.2.2.2.1 ?_
          refine X_iconst hK kd29_23.2.2.2.2.2.2.2.2.2.1 ?_
          refine X_iadd hK kd29_23.2.2.2.2.2.2.2.2.2.2.1 ?_
          refine X_puti hK fl_X7_22_8 hs_a0 (by decide) sl_8_3 (by omega) (by omega) kd29_23.2.2.2.2.2.2.2.2.2.2.2 (fun g50 hg50 => ?_)
          refine X_aloadn hK (i := 0) 2 kd29_24.1 rfl rfl ?_
          refine X_dup hK kd29_24.2.1 rfl ?_
          have hl51 := xTB.lt (A := xv g50 wt) (B := xv g50 wp) (tk := tk) (tl := tl) (c := cn) (a := na) (by rw [(xv_a hg50 (xne hs_wt hs_a0 (by decide))), (xv_a hg50 (xne hs_wp hs_a0 (by decide)))]; exact hp0) (by omega) (by rw [← k5]; omega)
          refine X_getK hK fl_X7_18_8 hs_a0 ((xs_k hg50 (by decide)).trans ena) kd29_24.2.2.1 ?_
          refine X_iconst hK kd29_24.2.2.2.1 ?_
          refine X_iadd hK kd29_24.2.2.2.2.1 ?_
          refine X_puti hK fl_X7_18_8 hs_a0 (by decide) sl_8_2 (by omega) (by omega) kd29_24.2.2.2.2.2.1 (fun g52 hg52 => ?_)
          refine X_iload hK (i := 4) 0 kd29_24.2.2.2.2.2.2.1 rfl ?_
          refine X_if_eq hK 109 (by omega) kd29_24.2.2.2.2.2.2.2.1 (by decide) (fun c53 => ?_) (fun c53 => False.elim (by omega))
          refine X_iloadn hK (i := 3) 1 kd29_25.2.2.2.1 rfl rfl ?_
          refine X_bipush hK kd29_25.2.2.2.2.1 (by decide) ?_
          refine X_icmp_ne hK 132 (by omega) (by omega) kd29_25.2.2.2.2.2.1 (by decide) (fun c54 => False.elim (by omega)) (fun c54 => ?_)
          refine X_aloadn hK (i := 0) 2 kd29_25.2.2.2.2.2.2.1 rfl rfl ?_
          refine X_aloadn hK (i := 1) 3 kd29_25.2.2.2.2.2.2.2.1 rfl rfl ?_
          refine X_iloadn hK (i := 2) 4 kd29_25.2.2.2.2.2.2.2.2.1 rfl rfl ?_
          refine X_iconst hK kd29_25.2.2.2.2.2.2.2.2.2.1 ?_
          refine X_iadd hK kd29_25.2.2.2.2.2.2.2.2.2.2.1 ?_
          refine X_callV hK [.ref a1, .int (iI (x2 + 1))] [] lk_X7_115 (m_readCond_5 _ _ _ _ _ S g52 a0 a1 (x2 + 1) (na + 1) (no + 1) nf nq wt wp ns ws tk tl cn L b s0 hs_a0 hs_a1 (by omega) (by omega) (xs_s hg52) (by omega) ((xs_k hg52 (by decide)).trans (xs_s hg50)) (by omega) ((xs_k hg52 (by decide)).trans ((xs_k hg50 (by decide)).trans enf)) (by omega) ((xs_k hg52 (by decide)).trans ((xs_k hg50 (by decide)).trans enq)) ((xs_k hg52 (by decide)).trans ((xs_k hg50 (by decide)).trans ewt)) hs_wt ((xs_k hg52 (by decide)).trans ((xs_k hg50 (by decide)).trans ewp)) hs_wp (by omega) ((xs_a hg52 (xne hs_a1 hs_a0 (by decide))).trans ((xs_k hg50 (by decide)).trans ens)) ((xs_k hg52 (by decide)).trans ((xs_k hg50 (by decide)).trans ews)) hs_ws (by rw [(Eq.trans (xv_a hg52 (xne hs_wt hs_a0 (by decide))) (xv_a hg50 (xne hs_wt hs_a0 (by decide)))), (Eq.trans (xv_a hg52 (xne hs_wp hs_a0 (by decide))) (xv_a hg50 (xne hs_wp hs_a0 (by decide))))]; exact hp0) (by omega) (by omega) (by rw [(Eq.trans (xv_a hg52 (xne hs_ws hs_a0 (by decide))) (xv_a hg50 (xne hs_ws hs_a0 (by decide))))]; exact hp3) (by omega) (by omega)) hs_a0 ⟨by decide, rfl⟩ kd29_25.2.2.2.2.2.2.2.2.2.2.2 rfl rfl (by simp [Value.category]) (by decide) (by decide) (by decide) (by decide) (fun r55 S57 g56 pr55 qr55 hg56 => ?_)
          obtain ⟨rfl, rfl, k58⟩ := pr55
          refine X_st [] rfl ?_
          obtain ⟨Ft59, at59, ot59, qt59, nt59, eFt59, lFt59, uFt59, eat59, lat59, uat59, eot59, lot59, uot59, eqt59, lqt59, uqt59, ent59, lnt59, unt59, Lt59, kt59, stt59, fst59, ftt59⟩ := k58
          have cat59 : at59 ≤ 300 := (by omega)
          refine X_aloadn hK (i := 0) 2 kd29_26.1 rfl rfl ?_
          refine X_bipush hK kd29_26.2.1 (by decide) ?_
          refine X_callV hK [.int (iI 26)] [] lk_X7_119 (c3_expect _ _ _ _ _ S g56 a0 26 at59 ot59 Ft59 qt59 wt wp tk tl cn hs_a0 (by omega) (by omega) eat59 (by omega) eot59 (by omega) eFt59 (by omega) eqt59 ((hg56 a0 8 0 0 hs_a0 (by decide)).trans ((xs_k hg52 (by decide)).trans ((xs_k hg50 (by decide)).trans ewt))) hs_wt ((hg56 a0 8 0 1 hs_a0 (by decide)).trans ((xs_k hg52 (by decide)).trans ((xs_k hg50 (by decide)).trans ewp))) hs_wp (by rw [(Eq.trans (Eq.trans (xv_m hg56 hs_wt (by decide) (by decide)) (xv_a hg52 (xne hs_wt hs_a0 (by decide)))) (xv_a hg50 (xne hs_wt hs_a0 (by decide)))), (Eq.trans (Eq.trans (xv_m hg56 hs_wp (by decide) (by decide)) (xv_a hg52 (xne hs_wp hs_a0 (by decide)))) (xv_a hg50 (xne hs_wp hs_a0 (by decide))))]; exact hp0) (by omega) (by omega)) hs_a0 ⟨by decide, rfl⟩ kd29_26.2.2.1 rfl rfl (by simp [Value.category]) (by decide) (by decide) (by decide) (by decide) (fun r60 S62 g61 pr60 qr60 hg61 => ?_)
          obtain ⟨rfl, rfl, k63⟩ := pr60
          refine X_st [] rfl ?_
          obtain ⟨Ft64, at64, ot64, qt64, eFt64, lFt64, uFt64, eat64, lat64, uat64, eot64, lot64, uot64, eqt64, lqt64, uqt64, kt64⟩ := k63
          have cat64 : at64 ≤ 300 := by have h9 := (show xTB (xv g61 wt) (xv g61 wp) tk tl cn from (by rw [(Eq.trans (Eq.trans (Eq.trans (xv_m hg61 hs_wt (by decide) (by decide)) (xv_m hg56 hs_wt (by decide) (by decide))) (xv_a hg52 (xne hs_wt hs_a0 (by decide)))) (xv_a hg50 (xne hs_wt hs_a0 (by decide)))), (Eq.trans (Eq.trans (Eq.trans (xv_m hg61 hs_wp (by decide) (by decide)) (xv_m hg56 hs_wp (by decide) (by decide))) (xv_a hg52 (xne hs_wp hs_a0 (by decide)))) (xv_a hg50 (xne hs_wp hs_a0 (by decide))))]; exact hp0)).2.2.2; omega
          refine X_goto hK 148 kd29_26.2.2.2.1 (by decide) ?_
          exact hret _ _ _ _ _ _ kd29_27.2.2.2 ⟨rfl, rfl, ⟨Ft64, at64, ot64, qt64, nt59, eFt64, by omega, by omega, eat64, by omega, by omega, eot64, by omega, by omega, eqt64, by omega, by omega, ((hg61 a1 11 0 2 hs_a1 (by decide)).trans ent59), by omega, by omega, Lt59, (by obtain ⟨h8, h7⟩ := kt64; by_cases f9 : Ft59 = 0; (rcases h8 with ⟨c1, c2, c3, c4⟩ | ⟨c1, c2, c3⟩; (rw [show Ft64 = 0 by omega, c3, h7]; exact xRC.po (by rw [← k5]; omega) (by omega) (show xRC tk tl 2 (4 + 1) (na + 1) (no + 1) L Ft59 at59 ot59 qt59 Lt59 from kt59) f9 c1); (have c4 := c3.resolve_left (fun q9 => q9.1 f9); rw [c4.2.1]; exact xRC.px (by rw [← k5]; omega) (by omega) (show xRC tk tl 2 (4 + 1) (na + 1) (no + 1) L Ft59 at59 ot59 qt59 Lt59 from kt59) f9 c1 c4.2.2)); (have h6 : Ft64 = Ft59 ∧ qt64 = qt59 := (by omega); rw [h6.1, h6.2]; exact xRC.pf (by rw [← k5]; omega) (by omega) (show xRC tk tl 2 (4 + 1) (na + 1) (no + 1) L Ft59 at59 ot59 qt59 Lt59 from kt59) f9)), (fun h9 => by have h8 := kt64; have h7 : Ft59 = 0 := (by omega); rw [(xv_m hg61 hs_ws (by decide) (by decide))]; exact stt59 h7), (xFr.m (xFr.tr (xFr.t (xFr.t xFr.rf hg50 hs_a0 (by decide)) hg52 hs_a0 (by decide)) fst59) hg61 (by decide)), (xFr.m (xFr.tr (xFr.t (xFr.t xFr.rf hg50 hs_a0 (by decide)) hg52 hs_a0 (by decide)) ftt59) hg61 (by decide))⟩⟩ (Nat.le_refl _) (Nat.le_refl _)
      · refine X_aloadn hK (i := 0) 2 kd29_22.2.2.2.1 rfl rfl ?_
        refine X_iconst hK kd29_22.2.2.2.2.1 ?_
        refine X_callV hK [.int (iI 1)] [] lk_X7_60 (c3_tell _ _ _ _ _ S g a0 1 na no nf nq wt wp tk tl cn hs_a0 (by omega) (by omega) ena (by omega) eno (by omega) enf (by omega) enq ewt hs_wt ewp hs_wp hp0 (by omega) (by omega)) hs_a0 ⟨by decide, rfl⟩ kd29_22.2.2.2.2.2.1 rfl rfl (by simp [Value.category]) (by decide) (by decide) (by decide) (by decide) (fun r65 S67 g66 pr65 qr65 hg66 => ?_)
        obtain ⟨rfl, rfl, k68⟩ := pr65
        refine X_st [] rfl ?_
        obtain ⟨Ft69, at69, ot69, qt69, eFt69, lFt69, uFt69, eat69, lat69, uat69, eot69, lot69, uot69, eqt69, lqt69, uqt69, kt69⟩ := k68
        have cat69 : at69 ≤ 300 := by have h9 := (show xTB (xv g66 wt) (xv g66 wp) tk tl cn from (by rw [(xv_m hg66 hs_wt (by decide) (by decide)), (xv_m hg66 hs_wp (by decide) (by decide))]; exact hp0)).2.2.2; omega
        refine X_goto hK 148 kd29_22.2.2.2.2.2.2.1 (by decide) ?_
        exact hret _ _ _ _ _ _ kd29_27.2.2.2 ⟨rfl, rfl, ⟨Ft69, at69, ot69, qt69, ns, eFt69, by omega, by omega, eat69, by omega, by omega, eot69, by omega, by omega, eqt69, by omega, by omega, ((hg66 a1 11 0 2 hs_a1 (by decide)).trans ens), by omega, by omega, [], (by obtain ⟨h8, h7, h6⟩ := kt69; have h5 := h8.resolve_left (fun q9 => by omega); rw [h5.2.1]; exact xRC.f1 (by rw [← k5]; omega) h5.2.2), (fun h9 => by have h8 := kt69; omega), (xFr.m xFr.rf hg66 (by decide)), (xFr.m xFr.rf hg66 (by decide))⟩⟩ (Nat.le_refl _) (Nat.le_refl _)
    · refine X_iconst hK kd29_21.2.2.2.1 ?_
      refine X_goto hK 22 kd29_21.2.2.2.2.1 (by decide) ?_
      refine X_istore hK (i := 4) [(4, .int (iI 1)), (3, .int (iI z4)), (0, .ref a0), (1, .ref a1), (2, .int (iI x2))] kd29_21.2.2.2.2.2.2.1 (by decide) rfl ?_
      refine X_iload hK (i := 4) 0 kd29_21.2.2.2.2.2.2.2.1 rfl ?_
      refine X_if_ne hK 49 (by omega) kd29_21.2.2.2.2.2.2.2.2.1 (by decide) (fun c70 => ?_) (fun c70 => False.elim (by omega))
      refine X_aloadn hK (i := 0) 2 kd29_22.2.2.2.2.2.2.2.1 rfl rfl ?_
      refine X_getK hK fl_X7_22_8 hs_a0 eno kd29_22.2.2.2.2.2.2.2.2.1 ?_
      refine X_bipush hK kd29_22.2.2.2.2.2.2.2.2.2.1 (by decide) ?_
      refine X_icmp_ge hK 64 (by omega) (by omega) kd29_22.2.2.2.2.2.2.2.2.2.2.1 (by decide) (fun c71 => ?_) (fun c71 => ?_)
      · refine X_aloadn hK (i := 0) 2 kd29_23.2.2.1 rfl rfl ?_
        refine X_iconst hK kd29_23.2.2.2.1 ?_
        refine X_callV hK [.int (iI 4)] [] lk_X7_60 (c3_tell _ _ _ _ _ S g a0 4 na no nf nq wt wp tk tl cn hs_a0 (by omega) (by omega) ena (by omega) eno (by omega) enf (by omega) enq ewt hs_wt ewp hs_wp hp0 (by omega) (by omega)) hs_a0 ⟨by decide, rfl⟩ kd29_23.2.2.2.2.1 rfl rfl (by simp [Value.category]) (by decide) (by decide) (by decide) (by decide) (fun r72 S74 g73 pr72 qr72 hg73 => ?_)
        obtain ⟨rfl, rfl, k75⟩ := pr72
        refine X_st [] rfl ?_
        obtain ⟨Ft76, at76, ot76, qt76, eFt76, lFt76, uFt76, eat76, lat76, uat76, eot76, lot76, uot76, eqt76, lqt76, uqt76, kt76⟩ := k75
        have cat76 : at76 ≤ 300 := by have h9 := (show xTB (xv g73 wt) (xv g73 wp) tk tl cn from (by rw [(xv_m hg73 hs_wt (by decide) (by decide)), (xv_m hg73 hs_wp (by decide) (by decide))]; exact hp0)).2.2.2; omega
        refine X_goto hK 148 kd29_23.2.2.2.2.2.1 (by decide) ?_
        exact hret _ _ _ _ _ _ kd29_27.2.2.2 ⟨rfl, rfl, ⟨Ft76, at76, ot76, qt76, ns, eFt76, by omega, by omega, eat76, by omega, by omega, eot76, by omega, by omega, eqt76, by omega, by omega, ((hg73 a1 11 0 2 hs_a1 (by decide)).trans ens), by omega, by omega, [], (by obtain ⟨h8, h7, h6⟩ := kt76; have h5 := h8.resolve_left (fun q9 => by omega); rw [h5.2.1]; exact xRC.f4 (by rw [← k5]; omega) (by omega) h5.2.2), (fun h9 => by have h8 := kt76; omega), (xFr.m xFr.rf hg73 (by decide)), (xFr.m xFr.rf hg73 (by decide))⟩⟩ (Nat.le_refl _) (Nat.le_refl _)
      · refine X_iloadn hK (i := 2) 4 kd29_22.2.2.2.2.2.2.2.2.2.2.2 rfl rfl ?_
        refine X_bipush hK kd29_23.1 (by decide) ?_
        refine X_icmp_le hK 72 (by omega) (by omega) kd29_23.2.1 (by decide) (fun c77 => ?_) (fun c77 => False.elim (by omega))
        refine X_aloadn hK (i := 0) 2 kd29_23.2.2.2.2.2.2.1 rfl rfl ?_
        refine X_dup hK kd29_23.2.2.2.2.2.2.2.1 rfl ?_
        refine X_getK hK fl_X7_22_8 hs_a0 eno kd29_23.2.2.2.2.2.2.2.2.1 ?_
        refine X_iconst hK kd29_23.2.2.2.2.2.2.2.2.2.1 ?_
        refine X_iadd hK kd29_23.2.2.2.2.2.2.2.2.2.2.1 ?_
        refine X_puti hK fl_X7_22_8 hs_a0 (by decide) sl_8_3 (by omega) (by omega) kd29_23.2.2.2.2.2.2.2.2.2.2.2 (fun g78 hg78 => ?_)
        refine X_aloadn hK (i := 0) 2 kd29_24.1 rfl rfl ?_
        refine X_dup hK kd29_24.2.1 rfl ?_
        have hl79 := xTB.lt (A := xv g78 wt) (B := xv g78 wp) (tk := tk) (tl := tl) (c := cn) (a := na) (by rw [(xv_a hg78 (xne hs_wt hs_a0 (by decide))), (xv_a hg78 (xne hs_wp hs_a0 (by decide)))]; exact hp0) (by omega) (by rw [← k5]; omega)
        refine X_getK hK fl_X7_18_8 hs_a0 ((xs_k hg78 (by decide)).trans ena) kd29_24.2.2.1 ?_
        refine X_iconst hK kd29_24.2.2.2.1 ?_
        refine X_iadd hK kd29_24.2.2.2.2.1 ?_
        refine X_puti hK fl_X7_18_8 hs_a0 (by decide) sl_8_2 (by omega) (by omega) kd29_24.2.2.2.2.2.1 (fun g80 hg80 => ?_)
        refine X_iload hK (i := 4) 0 kd29_24.2.2.2.2.2.2.1 rfl ?_
        refine X_if_eq hK 109 (by omega) kd29_24.2.2.2.2.2.2.2.1 (by decide) (fun c81 => False.elim (by omega)) (fun c81 => ?_)
        refine X_aloadn hK (i := 0) 2 kd29_24.2.2.2.2.2.2.2.2.1 rfl rfl ?_
        refine X_aloadn hK (i := 1) 3 kd29_24.2.2.2.2.2.2.2.2.2.1 rfl rfl ?_
        refine X_iloadn hK (i := 3) 1 kd29_24.2.2.2.2.2.2.2.2.2.2.1 rfl rfl ?_
        refine X_bipush hK kd29_24.2.2.2.2.2.2.2.2.2.2.2 (by decide) ?_
        refine X_isub hK kd29_25.1 ?_
        refine X_callV hK [.ref a1, .int (iI (z4 - 10))] [] lk_X7_135 (m_readFact _ _ _ _ _ S g80 a0 a1 (z4 - 10) (na + 1) (no + 1) nf nq wt wp ns ws tk tl cn L b s0 4 hs_a0 hs_a1 (by omega) (by omega) (xs_s hg80) (by omega) ((xs_k hg80 (by decide)).trans (xs_s hg78)) (by omega) ((xs_k hg80 (by decide)).trans ((xs_k hg78 (by decide)).trans enf)) (by omega) ((xs_k hg80 (by decide)).trans ((xs_k hg78 (by decide)).trans enq)) ((xs_k hg80 (by decide)).trans ((xs_k hg78 (by decide)).trans ewt)) hs_wt ((xs_k hg80 (by decide)).trans ((xs_k hg78 (by decide)).trans ewp)) hs_wp (by omega) ((xs_a hg80 (xne hs_a1 hs_a0 (by decide))).trans ((xs_k hg78 (by decide)).trans ens)) ((xs_k hg80 (by decide)).trans ((xs_k hg78 (by decide)).trans ews)) hs_ws (by rw [(Eq.trans (xv_a hg80 (xne hs_wt hs_a0 (by decide))) (xv_a hg78 (xne hs_wt hs_a0 (by decide)))), (Eq.trans (xv_a hg80 (xne hs_wp hs_a0 (by decide))) (xv_a hg78 (xne hs_wp hs_a0 (by decide))))]; exact hp0) (by omega) (by omega) (by rw [(Eq.trans (xv_a hg80 (xne hs_ws hs_a0 (by decide))) (xv_a hg78 (xne hs_ws hs_a0 (by decide))))]; exact hp3) (by omega) (by omega) (by rw [show (na + 1) - 1 = na by omega, ← k5]; omega) (by omega)) hs_a0 ⟨by decide, rfl⟩ kd29_25.2.1 rfl rfl (by simp [Value.category]) (by decide) (by decide) (by decide) (by decide) (fun r82 S84 g83 pr82 qr82 hg83 => ?_)
        obtain ⟨rfl, rfl, k85⟩ := pr82
        refine X_st [] rfl ?_
        obtain ⟨Ft86, at86, ot86, qt86, nt86, eFt86, lFt86, uFt86, eat86, lat86, uat86, eot86, lot86, uot86, eqt86, lqt86, uqt86, ent86, lnt86, unt86, Lt86, kt86, stt86, fst86, ftt86⟩ := k85
        have cat86 : at86 ≤ 300 := (by omega)
        refine X_goto hK 148 kd29_25.2.2.1 (by decide) ?_
        exact hret _ _ _ _ _ _ kd29_27.2.2.2 ⟨rfl, rfl, ⟨Ft86, at86, ot86, qt86, nt86, eFt86, by omega, by omega, eat86, by omega, by omega, eot86, by omega, by omega, eqt86, by omega, by omega, ent86, by omega, by omega, Lt86, (by have h9 := kt86; rw [show na + 1 - 1 = na by omega, show no + 1 - 1 = no by omega] at h9; exact h9), stt86, (xFr.tr (xFr.t (xFr.t xFr.rf hg78 hs_a0 (by decide)) hg80 hs_a0 (by decide)) fst86), (xFr.tr (xFr.t (xFr.t xFr.rf hg78 hs_a0 (by decide)) hg80 hs_a0 (by decide)) ftt86)⟩⟩ (Nat.le_refl _) (Nat.le_refl _)

set_option maxHeartbeats 4000000 in
set_option maxRecDepth 100000 in
theorem m_readAll_4 (l : Launch) (D : va_G) (kA : Nat → ClassId) (b0 : Nat) (t0 : Nat → Nat) (S : xT) (g : xG) (a0 : Nat) (a1 : Nat) (x2 : Int) (na : Int) (no : Int) (nf : Int) (nq : Int) (wt : Nat) (wp : Nat) (ns : Int) (ws : Nat) (tk : Int → Int) (tl : Int → Int) (cn : Int) (L : List xS3) (b : Int) (s0 : Int → Int) (hs_a0 : S a0 = some (8, 0)) (hs_a1 : S a1 = some (11, 0)) (hx2 : 4 ≤ x2 ∧ x2 ≤ 4) (hna : 0 ≤ na ∧ na ≤ 300) (ena : g a0 2 = .int (iI na)) (hno : 0 ≤ no ∧ no ≤ 50) (eno : g a0 3 = .int (iI no)) (hnf : 0 ≤ nf ∧ nf ≤ 0) (enf : g a0 5 = .int (iI nf)) (hnq : 0 ≤ nq ∧ nq ≤ 300) (enq : g a0 6 = .int (iI nq)) (ewt : g a0 0 = .ref wt) (hs_wt : S wt = some (12900, 301)) (ewp : g a0 1 = .ref wp) (hs_wp : S wp = some (13000, 301)) (hns : 0 ≤ ns ∧ ns ≤ 100) (ens : g a1 2 = .int (iI ns)) (ews : g a1 7 = .ref ws) (hs_ws : S ws = some (14000, 100)) (hp0 : xTB (xv g wt) (xv g wp) tk tl cn) (hp1 : na ≤ cn) (hp2 : cn ≤ 300) (hp3 : xStq (xv g ws) s0 b ns L) (hp4 : 0 ≤ b) (hp5 : ns ≤ 2 * no) : xMt l yX7_readAll cX7_readAll 4 none 23 0 0 535 D kA b0 t0 [(8, 5), (8, 6), (8, 3), (8, 2), (14000, 0), (11, 2)] [.ref a0, .ref a1, .int (iI x2)] S g (fun (r : Option Value) (S1 : xT) (g1 : xG) => S = S1 ∧ r = none ∧ (∃ F a o q n : Int, g1 a0 5 = .int (iI F) ∧ -2147483648 ≤ F ∧ F ≤ 2147483647 ∧ g1 a0 2 = .int (iI a) ∧ 0 ≤ a ∧ a ≤ cn ∧ g1 a0 3 = .int (iI o) ∧ 0 ≤ o ∧ o ≤ 50 ∧ g1 a0 6 = .int (iI q) ∧ 0 ≤ q ∧ q ≤ 300 ∧ g1 a1 2 = .int (iI n) ∧ 0 ≤ n ∧ n ≤ 100 ∧ ∃ L1 : List xS3, xRC tk tl 1 4 na no L F a o q L1 ∧ (F = 0 → xStq (xv g1 ws) s0 b n L1) ∧ xFr 14000 S g g1 ws ∧ xFr 11 S g g1 a1)) := by
  refine xEnterV (by decide) (by simp [lg_sl, Value.category]) [(0, .ref a0), (1, .ref a1), (2, .int (iI x2))] rfl ?_
  intro K E hK hret _ _ _
  refine X_aloadn hK (i := 0) 0 kd29_0.1 rfl rfl ?_
  refine X_aloadn hK (i := 1) 1 kd29_0.2.1 rfl rfl ?_
  refine X_iloadn hK (i := 2) 2 kd29_0.2.2.1 rfl rfl ?_
  refine X_callV hK [.ref a1, .int (iI x2)] [] lk_X7_132 (m_readOne_4 _ _ _ _ _ S g a0 a1 x2 na no nf nq wt wp ns ws tk tl cn L b s0 hs_a0 hs_a1 (by omega) (by omega) ena (by omega) eno (by omega) enf (by omega) enq ewt hs_wt ewp hs_wp (by omega) ens ews hs_ws hp0 (by omega) (by omega) hp3 (by omega) (by omega)) hs_a0 ⟨by decide, rfl⟩ kd29_0.2.2.2.1 rfl rfl (by simp [Value.category]) (by decide) (by decide) (by decide) (by decide) (fun r1 S3 g2 pr1 qr1 hg2 => ?_)
  obtain ⟨rfl, rfl, k4⟩ := pr1
  refine X_st [] rfl ?_
  obtain ⟨Ft5, at5, ot5, qt5, nt5, eFt5, lFt5, uFt5, eat5, lat5, uat5, eot5, lot5, uot5, eqt5, lqt5, uqt5, ent5, lnt5, unt5, Lt5, kt5, stt5, fst5, ftt5⟩ := k4
  have cat5 : at5 ≤ 300 := (by omega)
  refine X_iconst hK kd29_0.2.2.2.2.1 ?_
  refine X_istoren hK (i := 3) [(3, .int (iI 0)), (0, .ref a0), (1, .ref a1), (2, .int (iI x2))] kd29_0.2.2.2.2.2.1 rfl (by decide) rfl ?_
  have P150 : ∀ (nP150 : Nat) (g122 : xG) (_ : xM [(14000, 0), (11, 2), (8, 5), (8, 6), (8, 3), (8, 2)] S g2 g122) (z121 : Int) (_ : 0 ≤ z121) (_ : z121 ≤ 50) (q123 : Int) (_ : 0 ≤ q123) (_ : q123 ≤ 300) (_ : g122 a0 2 = .int (iI q123)) (q124 : Int) (_ : 0 ≤ q124) (_ : q124 ≤ 50) (_ : g122 a0 3 = .int (iI q124)) (q125 : Int) (_ : (-2147483648) ≤ q125) (_ : q125 ≤ 2147483647) (_ : g122 a0 5 = .int (iI q125)) (q126 : Int) (_ : 0 ≤ q126) (_ : q126 ≤ 300) (_ : g122 a0 6 = .int (iI q126)) (q127 : Int) (_ : 0 ≤ q127) (_ : q127 ≤ 100) (_ : g122 a1 2 = .int (iI q127)) (_ : ∃ Li : List xS3, xIC tk tl 1 4 na no L q125 q123 q124 q126 Li ∧ (q125 = 0 → xStq (xv g122 ws) s0 b q127 Li ∧ q127 ≤ 2 * q124 - 1)) (_ : q125 = 0 → no + 1 + z121 ≤ q124) (_ : q123 ≤ cn) (_ : xFr 14000 S g g122 ws) (_ : xFr 11 S g g122 a1) (_ : 60 - z121 < (nP150 : Int)), X K E 8 [(3, .int (iI z121)), (0, .ref a0), (1, .ref a1), (2, .int (iI x2))] [] S g122 0 0 := by
    intro nP150
    induction nP150 with
    | zero => intro g122 hg122 z121 lz121 uz121 q123 lq123 uq123 eq123 q124 lq124 uq124 eq124 q125 lq125 uq125 eq125 q126 lq126 uq126 eq126 q127 lq127 uq127 eq127 v151 v152 v153 v154 v155 mP150; exact False.elim (by omega)
    | succ nP150 ihP150 =>
      intro g122 hg122 z121 lz121 uz121 q123 lq123 uq123 eq123 q124 lq124 uq124 eq124 q125 lq125 uq125 eq125 q126 lq126 uq126 eq126 q127 lq127 uq127 eq127 v151 v152 v153 v154 v155 mP150
      refine X_iloadn hK (i := 3) 0 kd29_0.2.2.2.2.2.2.1 rfl rfl ?_
      obtain ⟨Lij156, ij156, sj156⟩ := id v151
      have ivj156 : q125 = 0 → _ := fun h9 => (sj156 h9).1
      have nbj156 : q125 = 0 → q127 ≤ 2 * q124 - 1 := fun h9 => (sj156 h9).2
      refine X_bipush hK kd29_0.2.2.2.2.2.2.2.1 (by decide) ?_
      refine X_icmp_ge hK 60 (by omega) (by omega) kd29_0.2.2.2.2.2.2.2.2.1 (by decide) (fun c157 => ?_) (fun c157 => ?_)
      · exact hret _ _ _ _ _ _ kd29_2.2.2.2.2.2.2.2.2.2.1 ⟨rfl, rfl, ⟨q125, q123, q124, q126, q127, eq125, by omega, by omega, eq123, by omega, by omega, eq124, by omega, by omega, eq126, by omega, by omega, eq127, by omega, by omega, Lij156, (xIC.e ij156 (fun h9 => False.elim (by have h8 := v152 h9; omega))), (fun h9 => (sj156 h9).1), v154, v155⟩⟩ (Nat.le_refl _) (Nat.le_refl _)
      · refine X_aloadn hK (i := 0) 1 kd29_0.2.2.2.2.2.2.2.2.2.1 rfl rfl ?_
        refine X_getK hK fl_X7_29_8 hs_a0 eq125 kd29_0.2.2.2.2.2.2.2.2.2.2.1 ?_
        refine X_if_ne hK 60 (by omega) kd29_0.2.2.2.2.2.2.2.2.2.2.2 (by decide) (fun c158 => ?_) (fun c158 => ?_)
        · exact hret _ _ _ _ _ _ kd29_2.2.2.2.2.2.2.2.2.2.1 ⟨rfl, rfl, ⟨q125, q123, q124, q126, q127, eq125, by omega, by omega, eq123, by omega, by omega, eq124, by omega, by omega, eq126, by omega, by omega, eq127, by omega, by omega, Lij156, (xIC.e ij156 (fun h9 => False.elim (by have h8 := v152 h9; omega))), (fun h9 => (sj156 h9).1), v154, v155⟩⟩ (Nat.le_refl _) (Nat.le_refl _)
        · refine X_aloadn hK (i := 0) 1 kd29_1.1 rfl rfl ?_
          refine X_callV hK [] [] lk_X7_47 (c3_now _ _ _ _ _ S g122 a0 q123 wt wp tk tl cn hs_a0 (by omega) eq123 ((hg122 a0 8 0 0 hs_a0 (by decide)).trans ((hg2 a0 8 0 0 hs_a0 (by decide)).trans ewt)) hs_wt ((hg122 a0 8 0 1 hs_a0 (by decide)).trans ((hg2 a0 8 0 1 hs_a0 (by decide)).trans ewp)) hs_wp (by rw [(Eq.trans (xv_m hg122 hs_wt (by decide) (by decide)) (xv_m hg2 hs_wt (by decide) (by decide))), (Eq.trans (xv_m hg122 hs_wp (by decide) (by decide)) (xv_m hg2 hs_wp (by decide) (by decide)))]; exact hp0) (by omega) (by omega)) hs_a0 ⟨by decide, rfl⟩ kd29_1.2.1 rfl rfl (by simp [Value.category]) (by decide) (by decide) (by decide) (by decide) (fun r159 S161 g160 pr159 qr159 hg160 => ?_)
          obtain ⟨rfl, rfl, z162, rfl, lz162, uz162, k163⟩ := pr159
          refine X_st [.int (iI z162)] rfl ?_
          refine X_bipush hK kd29_1.2.2.1 (by decide) ?_
          refine X_icmp_ne hK 60 (by omega) (by omega) kd29_1.2.2.2.1 (by decide) (fun c164 => ?_) (fun c164 => ?_)
          · exact hret _ _ _ _ _ _ kd29_2.2.2.2.2.2.2.2.2.2.1 ⟨rfl, rfl, ⟨q125, q123, q124, q126, q127, eq125, by omega, by omega, eq123, by omega, by omega, eq124, by omega, by omega, eq126, by omega, by omega, eq127, by omega, by omega, Lij156, (xIC.e ij156 (fun h9 => Or.inl ⟨rfl, by rw [← k163]; omega⟩)), (fun h9 => (sj156 h9).1), v154, v155⟩⟩ (Nat.le_refl _) (Nat.le_refl _)
          · refine X_aloadn hK (i := 0) 1 kd29_1.2.2.2.2.1 rfl rfl ?_
            refine X_dup hK kd29_1.2.2.2.2.2.1 rfl ?_
            have hl165 := xTB.lt (A := xv g122 wt) (B := xv g122 wp) (tk := tk) (tl := tl) (c := cn) (a := q123) (by rw [(Eq.trans (xv_m hg122 hs_wt (by decide) (by decide)) (xv_m hg2 hs_wt (by decide) (by decide))), (Eq.trans (xv_m hg122 hs_wp (by decide) (by decide)) (xv_m hg2 hs_wp (by decide) (by decide)))]; exact hp0) (by omega) (by rw [← k163]; omega)
            refine X_getK hK fl_X7_18_8 hs_a0 eq123 kd29_1.2.2.2.2.2.2.1 ?_
            refine X_iconst hK kd29_1.2.2.2.2.2.2.2.1 ?_
            refine X_iadd hK kd29_1.2.2.2.2.2.2.2.2.1 ?_
            refine X_puti hK fl_X7_18_8 hs_a0 (by decide) sl_8_2 (by omega) (by omega) kd29_1.2.2.2.2.2.2.2.2.2.1 (fun g166 hg166 => ?_)
            refine X_aloadn hK (i := 0) 1 kd29_1.2.2.2.2.2.2.2.2.2.2.1 rfl rfl ?_
            refine X_aloadn hK (i := 1) 2 kd29_1.2.2.2.2.2.2.2.2.2.2.2 rfl rfl ?_
            refine X_iloadn hK (i := 2) 3 kd29_2.1 rfl rfl ?_
            refine X_callV hK [.ref a1, .int (iI x2)] [] lk_X7_132 (m_readOne_4 _ _ _ _ _ S g166 a0 a1 x2 (q123 + 1) q124 q125 q126 wt wp q127 ws tk tl cn Lij156 b s0 hs_a0 hs_a1 (by omega) (by omega) (xs_s hg166) (by omega) ((xs_k hg166 (by decide)).trans eq124) (by omega) ((xs_k hg166 (by decide)).trans eq125) (by omega) ((xs_k hg166 (by decide)).trans eq126) ((xs_k hg166 (by decide)).trans ((hg122 a0 8 0 0 hs_a0 (by decide)).trans ((hg2 a0 8 0 0 hs_a0 (by decide)).trans ewt))) hs_wt ((xs_k hg166 (by decide)).trans ((hg122 a0 8 0 1 hs_a0 (by decide)).trans ((hg2 a0 8 0 1 hs_a0 (by decide)).trans ewp))) hs_wp (by omega) ((xs_a hg166 (xne hs_a1 hs_a0 (by decide))).trans eq127) ((xs_k hg166 (by decide)).trans ((hg122 a1 11 0 7 hs_a1 (by decide)).trans ((hg2 a1 11 0 7 hs_a1 (by decide)).trans ews))) hs_ws (by rw [(Eq.trans (Eq.trans (xv_a hg166 (xne hs_wt hs_a0 (by decide))) (xv_m hg122 hs_wt (by decide) (by decide))) (xv_m hg2 hs_wt (by decide) (by decide))), (Eq.trans (Eq.trans (xv_a hg166 (xne hs_wp hs_a0 (by decide))) (xv_m hg122 hs_wp (by decide) (by decide))) (xv_m hg2 hs_wp (by decide) (by decide)))]; exact hp0) (by omega) (by omega) (by rw [(xv_a hg166 (xne hs_ws hs_a0 (by decide)))]; exact (ivj156 (by omega))) (by omega) (by omega)) hs_a0 ⟨by decide, rfl⟩ kd29_2.2.1 rfl rfl (by simp [Value.category]) (by decide) (by decide) (by decide) (by decide) (fun r167 S169 g168 pr167 qr167 hg168 => ?_)
            obtain ⟨rfl, rfl, k170⟩ := pr167
            refine X_st [] rfl ?_
            obtain ⟨Ft171, at171, ot171, qt171, nt171, eFt171, lFt171, uFt171, eat171, lat171, uat171, eot171, lot171, uot171, eqt171, lqt171, uqt171, ent171, lnt171, unt171, Lt171, kt171, stt171, fst171, ftt171⟩ := k170
            have cat171 : at171 ≤ 300 := (by omega)
            refine X_aloadn hK (i := 1) 2 kd29_2.2.2.1 rfl rfl ?_
            refine X_bipush hK kd29_2.2.2.2.1 (by decide) ?_
            refine X_iconst hK kd29_2.2.2.2.2.1 ?_
            refine X_iconst hK kd29_2.2.2.2.2.2.1 ?_
            refine X_callV hK [.int (iI 13), .int (iI 0), .int (iI 0)] [] lk_X7_129 (m_addStep _ _ _ _ _ S g168 a1 13 0 0 nt171 ws hs_a1 (by omega) (by omega) (by omega) (by omega) ent171 ((hg168 a1 11 0 7 hs_a1 (by decide)).trans ((xs_k hg166 (by decide)).trans ((hg122 a1 11 0 7 hs_a1 (by decide)).trans ((hg2 a1 11 0 7 hs_a1 (by decide)).trans ews)))) hs_ws) hs_a1 ⟨by decide, rfl⟩ kd29_2.2.2.2.2.2.2.1 rfl rfl (by simp [Value.category]) (by decide) (by decide) (by decide) (by decide) (fun r172 S174 g173 pr172 qr172 hg173 => ?_)
            obtain ⟨rfl, rfl, k175, k176, k177, k178⟩ := pr172
            refine X_st [] rfl ?_
            refine X_iinc hK (i := 3) (z := z121) (n := 1) 0 [(3, .int (iI (z121 + 1))), (0, .ref a0), (1, .ref a1), (2, .int (iI x2))] kd29_2.2.2.2.2.2.2.2.1 rfl (by decide) rfl ?_
            refine X_goto hK 8 kd29_2.2.2.2.2.2.2.2.2.1 (by decide) ?_
            exact ihP150  g173 (xM.tr (xM.tr (xM_up (xM.tr xM.rf xLe.rf hg122 (by decide)) hg166 hs_a0 (by decide) (by decide)) xLe.rf hg168 (by decide)) xLe.rf hg173 (by decide)) (z121 + 1) (by omega) (by omega) at171 (by omega) (by omega) ((hg173 a0 8 0 2 hs_a0 (by decide)).trans eat171) ot171 (by omega) (by omega) ((hg173 a0 8 0 3 hs_a0 (by decide)).trans eot171) Ft171 (by omega) (by omega) ((hg173 a0 8 0 5 hs_a0 (by decide)).trans eFt171) qt171 (by omega) (by omega) ((hg173 a0 8 0 6 hs_a0 (by decide)).trans eqt171) (if nt171 < 100 then nt171 + 1 else nt171) (by omega) (by omega) k175 ⟨Lt171 ++ [(13, 0, 0)], xIC.s (Or.inl ⟨rfl, rfl, rfl, (by rw [← k163]; omega)⟩) ij156 (by omega) kt171 (fun _ => rfl), fun h9 => by have h8 := xRC.b (by omega) kt171 h9; have h7 := (stt171 h9).1; have h6 := (sj156 (by omega)).1.1; have h5 := (sj156 (by omega)).2; exact ⟨(by have h9 := (xStq.add (x := (13, 0, 0)) (stt171 (by omega)) (by omega) (by have h4a := (k176.1 (by omega)).1; unfold xec9; (try dsimp only); omega) (k176.1 (by omega)).2); rw [if_pos (by omega)]; exact h9), by rw [if_pos (by omega)]; omega⟩⟩ (fun h9 => by have h8 := xRC.b (by omega) kt171 h9; omega) (by omega) (xFr.tr (xFr.tr (xFr.t v154 hg166 hs_a0 (by decide)) fst171) k177) (xFr.tr (xFr.tr (xFr.t v155 hg166 hs_a0 (by decide)) ftt171) k178) (by omega)
  exact P150 ((60 - 0 : Int).toNat + 1) g2 xM.rf 0 (by omega) (by omega) at5 (by omega) (by omega) eat5 ot5 (by omega) (by omega) eot5 Ft5 (by omega) (by omega) eFt5 qt5 (by omega) (by omega) eqt5 nt5 (by omega) (by omega) ent5 ⟨Lt5, xIC.z (Or.inl ⟨rfl, rfl⟩) kt5, fun h9 => ⟨stt5 h9, by have h8 := xRC.b (by omega) kt5 h9; have h7 := (stt5 h9).1; have h6 := hp3.1; omega⟩⟩ (fun h9 => by have h8 := xRC.b (by omega) kt5 h9; omega) (by omega) (xFr.tr xFr.rf fst5) (xFr.tr xFr.rf ftt5) (by omega)

set_option maxHeartbeats 4000000 in
set_option maxRecDepth 100000 in
theorem m_readCond_4 (l : Launch) (D : va_G) (kA : Nat → ClassId) (b0 : Nat) (t0 : Nat → Nat) (S : xT) (g : xG) (a0 : Nat) (a1 : Nat) (x2 : Int) (na : Int) (no : Int) (nf : Int) (nq : Int) (wt : Nat) (wp : Nat) (ns : Int) (ws : Nat) (tk : Int → Int) (tl : Int → Int) (cn : Int) (L : List xS3) (b : Int) (s0 : Int → Int) (hs_a0 : S a0 = some (8, 0)) (hs_a1 : S a1 = some (11, 0)) (hx2 : 4 ≤ x2 ∧ x2 ≤ 4) (hna : 0 ≤ na ∧ na ≤ 300) (ena : g a0 2 = .int (iI na)) (hno : 0 ≤ no ∧ no ≤ 50) (eno : g a0 3 = .int (iI no)) (hnf : 0 ≤ nf ∧ nf ≤ 0) (enf : g a0 5 = .int (iI nf)) (hnq : 0 ≤ nq ∧ nq ≤ 300) (enq : g a0 6 = .int (iI nq)) (ewt : g a0 0 = .ref wt) (hs_wt : S wt = some (12900, 301)) (ewp : g a0 1 = .ref wp) (hs_wp : S wp = some (13000, 301)) (hns : 0 ≤ ns ∧ ns ≤ 100) (ens : g a1 2 = .int (iI ns)) (ews : g a1 7 = .ref ws) (hs_ws : S ws = some (14000, 100)) (hp0 : xTB (xv g wt) (xv g wp) tk tl cn) (hp1 : na ≤ cn) (hp2 : cn ≤ 300) (hp3 : xStq (xv g ws) s0 b ns L) (hp4 : 0 ≤ b) (hp5 : ns ≤ 2 * no) : xMt l yX7_readCond cX7_readCond 4 none 24 0 0 558 D kA b0 t0 [(8, 5), (8, 6), (8, 3), (8, 2), (14000, 0), (11, 2)] [.ref a0, .ref a1, .int (iI x2)] S g (fun (r : Option Value) (S1 : xT) (g1 : xG) => S = S1 ∧ r = none ∧ (∃ F a o q n : Int, g1 a0 5 = .int (iI F) ∧ -2147483648 ≤ F ∧ F ≤ 2147483647 ∧ g1 a0 2 = .int (iI a) ∧ 0 ≤ a ∧ a ≤ cn ∧ g1 a0 3 = .int (iI o) ∧ 0 ≤ o ∧ o ≤ 50 ∧ g1 a0 6 = .int (iI q) ∧ 0 ≤ q ∧ q ≤ 300 ∧ g1 a1 2 = .int (iI n) ∧ 0 ≤ n ∧ n ≤ 100 ∧ ∃ L1 : List xS3, xRC tk tl 2 4 na no L F a o q L1 ∧ (F = 0 → xStq (xv g1 ws) s0 b n L1) ∧ xFr 14000 S g g1 ws ∧ xFr 11 S g g1 a1)) := by
  refine xEnterV (by decide) (by simp [lg_sl, Value.category]) [(0, .ref a0), (1, .ref a1), (2, .int (iI x2))] rfl ?_
  intro K E hK hret _ _ _
  refine X_aloadn hK (i := 0) 0 kd29_2.2.2.2.2.2.2.2.2.2.2.1 rfl rfl ?_
  refine X_aloadn hK (i := 1) 1 kd29_2.2.2.2.2.2.2.2.2.2.2.2 rfl rfl ?_
  refine X_iloadn hK (i := 2) 2 kd29_3.1 rfl rfl ?_
  refine X_callV hK [.ref a1, .int (iI x2)] [] lk_X7_126 (m_readAll_4 _ _ _ _ _ S g a0 a1 x2 na no nf nq wt wp ns ws tk tl cn L b s0 hs_a0 hs_a1 (by omega) (by omega) ena (by omega) eno (by omega) enf (by omega) enq ewt hs_wt ewp hs_wp (by omega) ens ews hs_ws hp0 (by omega) (by omega) hp3 (by omega) (by omega)) hs_a0 ⟨by decide, rfl⟩ kd29_3.2.1 rfl rfl (by simp [Value.category]) (by decide) (by decide) (by decide) (by decide) (fun r1 S3 g2 pr1 qr1 hg2 => ?_)
  obtain ⟨rfl, rfl, k4⟩ := pr1
  refine X_st [] rfl ?_
  obtain ⟨Ft5, at5, ot5, qt5, nt5, eFt5, lFt5, uFt5, eat5, lat5, uat5, eot5, lot5, uot5, eqt5, lqt5, uqt5, ent5, lnt5, unt5, Lt5, kt5, stt5, fst5, ftt5⟩ := k4
  have cat5 : at5 ≤ 300 := (by omega)
  refine X_iconst hK kd29_3.2.2.1 ?_
  refine X_istoren hK (i := 3) [(3, .int (iI 0)), (0, .ref a0), (1, .ref a1), (2, .int (iI x2))] kd29_3.2.2.2.1 rfl (by decide) rfl ?_
  have P150 : ∀ (nP150 : Nat) (g122 : xG) (_ : xM [(14000, 0), (11, 2), (8, 5), (8, 6), (8, 3), (8, 2)] S g2 g122) (z121 : Int) (_ : 0 ≤ z121) (_ : z121 ≤ 50) (q123 : Int) (_ : 0 ≤ q123) (_ : q123 ≤ 300) (_ : g122 a0 2 = .int (iI q123)) (q124 : Int) (_ : 0 ≤ q124) (_ : q124 ≤ 50) (_ : g122 a0 3 = .int (iI q124)) (q125 : Int) (_ : (-2147483648) ≤ q125) (_ : q125 ≤ 2147483647) (_ : g122 a0 5 = .int (iI q125)) (q126 : Int) (_ : 0 ≤ q126) (_ : q126 ≤ 300) (_ : g122 a0 6 = .int (iI q126)) (q127 : Int) (_ : 0 ≤ q127) (_ : q127 ≤ 100) (_ : g122 a1 2 = .int (iI q127)) (_ : ∃ Li : List xS3, xIC tk tl 2 4 na no L q125 q123 q124 q126 Li ∧ (q125 = 0 → xStq (xv g122 ws) s0 b q127 Li ∧ q127 ≤ 2 * q124 - 1)) (_ : q125 = 0 → no + 1 + z121 ≤ q124) (_ : q123 ≤ cn) (_ : xFr 14000 S g g122 ws) (_ : xFr 11 S g g122 a1) (_ : 60 - z121 < (nP150 : Int)), X K E 8 [(3, .int (iI z121)), (0, .ref a0), (1, .ref a1), (2, .int (iI x2))] [] S g122 0 0 := by
    intro nP150
    induction nP150 with
    | zero => intro g122 hg122 z121 lz121 uz121 q123 lq123 uq123 eq123 q124 lq124 uq124 eq124 q125 lq125 uq125 eq125 q126 lq126 uq126 eq126 q127 lq127 uq127 eq127 v151 v152 v153 v154 v155 mP150; exact False.elim (by omega)
    | succ nP150 ihP150 =>
      intro g122 hg122 z121 lz121 uz121 q123 lq123 uq123 eq123 q124 lq124 uq124 eq124 q125 lq125 uq125 eq125 q126 lq126 uq126 eq126 q127 lq127 uq127 eq127 v151 v152 v153 v154 v155 mP150
      refine X_iloadn hK (i := 3) 0 kd29_3.2.2.2.2.1 rfl rfl ?_
      obtain ⟨Lij156, ij156, sj156⟩ := id v151
      have ivj156 : q125 = 0 → _ := fun h9 => (sj156 h9).1
      have nbj156 : q125 = 0 → q127 ≤ 2 * q124 - 1 := fun h9 => (sj156 h9).2
      refine X_bipush hK kd29_3.2.2.2.2.2.1 (by decide) ?_
      refine X_icmp_ge hK 60 (by omega) (by omega) kd29_3.2.2.2.2.2.2.1 (by decide) (fun c157 => ?_) (fun c157 => ?_)
      · exact hret _ _ _ _ _ _ kd29_5.2.2.2.2.2.2.2.1 ⟨rfl, rfl, ⟨q125, q123, q124, q126, q127, eq125, by omega, by omega, eq123, by omega, by omega, eq124, by omega, by omega, eq126, by omega, by omega, eq127, by omega, by omega, Lij156, (xIC.e ij156 (fun h9 => False.elim (by have h8 := v152 h9; omega))), (fun h9 => (sj156 h9).1), v154, v155⟩⟩ (Nat.le_refl _) (Nat.le_refl _)
      · refine X_aloadn hK (i := 0) 1 kd29_3.2.2.2.2.2.2.2.1 rfl rfl ?_
        refine X_getK hK fl_X7_29_8 hs_a0 eq125 kd29_3.2.2.2.2.2.2.2.2.1 ?_
        refine X_if_ne hK 60 (by omega) kd29_3.2.2.2.2.2.2.2.2.2.1 (by decide) (fun c158 => ?_) (fun c158 => ?_)
        · exact hret _ _ _ _ _ _ kd29_5.2.2.2.2.2.2.2.1 ⟨rfl, rfl, ⟨q125, q123, q124, q126, q127, eq125, by omega, by omega, eq123, by omega, by omega, eq124, by omega, by omega, eq126, by omega, by omega, eq127, by omega, by omega, Lij156, (xIC.e ij156 (fun h9 => False.elim (by have h8 := v152 h9; omega))), (fun h9 => (sj156 h9).1), v154, v155⟩⟩ (Nat.le_refl _) (Nat.le_refl _)
        · refine X_aloadn hK (i := 0) 1 kd29_3.2.2.2.2.2.2.2.2.2.2.1 rfl rfl ?_
          refine X_callV hK [] [] lk_X7_47 (c3_now _ _ _ _ _ S g122 a0 q123 wt wp tk tl cn hs_a0 (by omega) eq123 ((hg122 a0 8 0 0 hs_a0 (by decide)).trans ((hg2 a0 8 0 0 hs_a0 (by decide)).trans ewt)) hs_wt ((hg122 a0 8 0 1 hs_a0 (by decide)).trans ((hg2 a0 8 0 1 hs_a0 (by decide)).trans ewp)) hs_wp (by rw [(Eq.trans (xv_m hg122 hs_wt (by decide) (by decide)) (xv_m hg2 hs_wt (by decide) (by decide))), (Eq.trans (xv_m hg122 hs_wp (by decide) (by decide)) (xv_m hg2 hs_wp (by decide) (by decide)))]; exact hp0) (by omega) (by omega)) hs_a0 ⟨by decide, rfl⟩ kd29_3.2.2.2.2.2.2.2.2.2.2.2 rfl rfl (by simp [Value.category]) (by decide) (by decide) (by decide) (by decide) (fun r159 S161 g160 pr159 qr159 hg160 => ?_)
          obtain ⟨rfl, rfl, z162, rfl, lz162, uz162, k163⟩ := pr159
          refine X_st [.int (iI z162)] rfl ?_
          refine X_bipush hK kd29_4.1 (by decide) ?_
          refine X_icmp_ne hK 60 (by omega) (by omega) kd29_4.2.1 (by decide) (fun c164 => ?_) (fun c164 => ?_)
          · exact hret _ _ _ _ _ _ kd29_5.2.2.2.2.2.2.2.1 ⟨rfl, rfl, ⟨q125, q123, q124, q126, q127, eq125, by omega, by omega, eq123, by omega, by omega, eq124, by omega, by omega, eq126, by omega, by omega, eq127, by omega, by omega, Lij156, (xIC.e ij156 (fun h9 => Or.inr ⟨rfl, by rw [← k163]; omega⟩)), (fun h9 => (sj156 h9).1), v154, v155⟩⟩ (Nat.le_refl _) (Nat.le_refl _)
          · refine X_aloadn hK (i := 0) 1 kd29_4.2.2.1 rfl rfl ?_
            refine X_dup hK kd29_4.2.2.2.1 rfl ?_
            have hl165 := xTB.lt (A := xv g122 wt) (B := xv g122 wp) (tk := tk) (tl := tl) (c := cn) (a := q123) (by rw [(Eq.trans (xv_m hg122 hs_wt (by decide) (by decide)) (xv_m hg2 hs_wt (by decide) (by decide))), (Eq.trans (xv_m hg122 hs_wp (by decide) (by decide)) (xv_m hg2 hs_wp (by decide) (by decide)))]; exact hp0) (by omega) (by rw [← k163]; omega)
            refine X_getK hK fl_X7_18_8 hs_a0 eq123 kd29_4.2.2.2.2.1 ?_
            refine X_iconst hK kd29_4.2.2.2.2.2.1 ?_
            refine X_iadd hK kd29_4.2.2.2.2.2.2.1 ?_
            refine X_puti hK fl_X7_18_8 hs_a0 (by decide) sl_8_2 (by omega) (by omega) kd29_4.2.2.2.2.2.2.2.1 (fun g166 hg166 => ?_)
            refine X_aloadn hK (i := 0) 1 kd29_4.2.2.2.2.2.2.2.2.1 rfl rfl ?_
            refine X_aloadn hK (i := 1) 2 kd29_4.2.2.2.2.2.2.2.2.2.1 rfl rfl ?_
            refine X_iloadn hK (i := 2) 3 kd29_4.2.2.2.2.2.2.2.2.2.2.1 rfl rfl ?_
            refine X_callV hK [.ref a1, .int (iI x2)] [] lk_X7_126 (m_readAll_4 _ _ _ _ _ S g166 a0 a1 x2 (q123 + 1) q124 q125 q126 wt wp q127 ws tk tl cn Lij156 b s0 hs_a0 hs_a1 (by omega) (by omega) (xs_s hg166) (by omega) ((xs_k hg166 (by decide)).trans eq124) (by omega) ((xs_k hg166 (by decide)).trans eq125) (by omega) ((xs_k hg166 (by decide)).trans eq126) ((xs_k hg166 (by decide)).trans ((hg122 a0 8 0 0 hs_a0 (by decide)).trans ((hg2 a0 8 0 0 hs_a0 (by decide)).trans ewt))) hs_wt ((xs_k hg166 (by decide)).trans ((hg122 a0 8 0 1 hs_a0 (by decide)).trans ((hg2 a0 8 0 1 hs_a0 (by decide)).trans ewp))) hs_wp (by omega) ((xs_a hg166 (xne hs_a1 hs_a0 (by decide))).trans eq127) ((xs_k hg166 (by decide)).trans ((hg122 a1 11 0 7 hs_a1 (by decide)).trans ((hg2 a1 11 0 7 hs_a1 (by decide)).trans ews))) hs_ws (by rw [(Eq.trans (Eq.trans (xv_a hg166 (xne hs_wt hs_a0 (by decide))) (xv_m hg122 hs_wt (by decide) (by decide))) (xv_m hg2 hs_wt (by decide) (by decide))), (Eq.trans (Eq.trans (xv_a hg166 (xne hs_wp hs_a0 (by decide))) (xv_m hg122 hs_wp (by decide) (by decide))) (xv_m hg2 hs_wp (by decide) (by decide)))]; exact hp0) (by omega) (by omega) (by rw [(xv_a hg166 (xne hs_ws hs_a0 (by decide)))]; exact (ivj156 (by omega))) (by omega) (by omega)) hs_a0 ⟨by decide, rfl⟩ kd29_4.2.2.2.2.2.2.2.2.2.2.2 rfl rfl (by simp [Value.category]) (by decide) (by decide) (by decide) (by decide) (fun r167 S169 g168 pr167 qr167 hg168 => ?_)
            obtain ⟨rfl, rfl, k170⟩ := pr167
            refine X_st [] rfl ?_
            obtain ⟨Ft171, at171, ot171, qt171, nt171, eFt171, lFt171, uFt171, eat171, lat171, uat171, eot171, lot171, uot171, eqt171, lqt171, uqt171, ent171, lnt171, unt171, Lt171, kt171, stt171, fst171, ftt171⟩ := k170
            have cat171 : at171 ≤ 300 := (by omega)
            refine X_aloadn hK (i := 1) 2 kd29_5.1 rfl rfl ?_
            refine X_bipush hK kd29_5.2.1 (by decide) ?_
            refine X_iconst hK kd29_5.2.2.1 ?_
            refine X_iconst hK kd29_5.2.2.2.1 ?_
            refine X_callV hK [.int (iI 14), .int (iI 0), .int (iI 0)] [] lk_X7_129 (m_addStep _ _ _ _ _ S g168 a1 14 0 0 nt171 ws hs_a1 (by omega) (by omega) (by omega) (by omega) ent171 ((hg168 a1 11 0 7 hs_a1 (by decide)).trans ((xs_k hg166 (by decide)).trans ((hg122 a1 11 0 7 hs_a1 (by decide)).trans ((hg2 a1 11 0 7 hs_a1 (by decide)).trans ews)))) hs_ws) hs_a1 ⟨by decide, rfl⟩ kd29_5.2.2.2.2.1 rfl rfl (by simp [Value.category]) (by decide) (by decide) (by decide) (by decide) (fun r172 S174 g173 pr172 qr172 hg173 => ?_)
            obtain ⟨rfl, rfl, k175, k176, k177, k178⟩ := pr172
            refine X_st [] rfl ?_
            refine X_iinc hK (i := 3) (z := z121) (n := 1) 0 [(3, .int (iI (z121 + 1))), (0, .ref a0), (1, .ref a1), (2, .int (iI x2))] kd29_5.2.2.2.2.2.1 rfl (by decide) rfl ?_
            refine X_goto hK 8 kd29_5.2.2.2.2.2.2.1 (by decide) ?_
            exact ihP150  g173 (xM.tr (xM.tr (xM_up (xM.tr xM.rf xLe.rf hg122 (by decide)) hg166 hs_a0 (by decide) (by decide)) xLe.rf hg168 (by decide)) xLe.rf hg173 (by decide)) (z121 + 1) (by omega) (by omega) at171 (by omega) (by omega) ((hg173 a0 8 0 2 hs_a0 (by decide)).trans eat171) ot171 (by omega) (by omega) ((hg173 a0 8 0 3 hs_a0 (by decide)).trans eot171) Ft171 (by omega) (by omega) ((hg173 a0 8 0 5 hs_a0 (by decide)).trans eFt171) qt171 (by omega) (by omega) ((hg173 a0 8 0 6 hs_a0 (by decide)).trans eqt171) (if nt171 < 100 then nt171 + 1 else nt171) (by omega) (by omega) k175 ⟨Lt171 ++ [(14, 0, 0)], xIC.s (Or.inr ⟨rfl, rfl, rfl, (by rw [← k163]; omega)⟩) ij156 (by omega) kt171 (fun _ => rfl), fun h9 => by have h8 := xRC.b (by omega) kt171 h9; have h7 := (stt171 h9).1; have h6 := (sj156 (by omega)).1.1; have h5 := (sj156 (by omega)).2; exact ⟨(by have h9 := (xStq.add (x := (14, 0, 0)) (stt171 (by omega)) (by omega) (by have h4a := (k176.1 (by omega)).1; unfold xec9; (try dsimp only); omega) (k176.1 (by omega)).2); rw [if_pos (by omega)]; exact h9), by rw [if_pos (by omega)]; omega⟩⟩ (fun h9 => by have h8 := xRC.b (by omega) kt171 h9; omega) (by omega) (xFr.tr (xFr.tr (xFr.t v154 hg166 hs_a0 (by decide)) fst171) k177) (xFr.tr (xFr.tr (xFr.t v155 hg166 hs_a0 (by decide)) ftt171) k178) (by omega)
  exact P150 ((60 - 0 : Int).toNat + 1) g2 xM.rf 0 (by omega) (by omega) at5 (by omega) (by omega) eat5 ot5 (by omega) (by omega) eot5 Ft5 (by omega) (by omega) eFt5 qt5 (by omega) (by omega) eqt5 nt5 (by omega) (by omega) ent5 ⟨Lt5, xIC.z (Or.inr ⟨rfl, rfl⟩) kt5, fun h9 => ⟨stt5 h9, by have h8 := xRC.b (by omega) kt5 h9; have h7 := (stt5 h9).1; have h6 := hp3.1; omega⟩⟩ (fun h9 => by have h8 := xRC.b (by omega) kt5 h9; omega) (by omega) (xFr.tr xFr.rf fst5) (xFr.tr xFr.rf ftt5) (by omega)

set_option maxHeartbeats 4000000 in
set_option maxRecDepth 100000 in
theorem m_readOne_3 (l : Launch) (D : va_G) (kA : Nat → ClassId) (b0 : Nat) (t0 : Nat → Nat) (S : xT) (g : xG) (a0 : Nat) (a1 : Nat) (x2 : Int) (na : Int) (no : Int) (nf : Int) (nq : Int) (wt : Nat) (wp : Nat) (ns : Int) (ws : Nat) (tk : Int → Int) (tl : Int → Int) (cn : Int) (L : List xS3) (b : Int) (s0 : Int → Int) (hs_a0 : S a0 = some (8, 0)) (hs_a1 : S a1 = some (11, 0)) (hx2 : 3 ≤ x2 ∧ x2 ≤ 3) (hna : 0 ≤ na ∧ na ≤ 300) (ena : g a0 2 = .int (iI na)) (hno : 0 ≤ no ∧ no ≤ 50) (eno : g a0 3 = .int (iI no)) (hnf : 0 ≤ nf ∧ nf ≤ 0) (enf : g a0 5 = .int (iI nf)) (hnq : 0 ≤ nq ∧ nq ≤ 300) (enq : g a0 6 = .int (iI nq)) (ewt : g a0 0 = .ref wt) (hs_wt : S wt = some (12900, 301)) (ewp : g a0 1 = .ref wp) (hs_wp : S wp = some (13000, 301)) (hns : 0 ≤ ns ∧ ns ≤ 100) (ens : g a1 2 = .int (iI ns)) (ews : g a1 7 = .ref ws) (hs_ws : S ws = some (14000, 100)) (hp0 : xTB (xv g wt) (xv g wp) tk tl cn) (hp1 : na ≤ cn) (hp2 : cn ≤ 300) (hp3 : xStq (xv g ws) s0 b ns L) (hp4 : 0 ≤ b) (hp5 : ns ≤ 2 * no) : xMt l yX7_readOne cX7_readOne 5 none 25 0 0 581 D kA b0 t0 [(8, 5), (8, 6), (8, 3), (8, 2), (14000, 0), (11, 2)] [.ref a0, .ref a1, .int (iI x2)] S g (fun (r : Option Value) (S1 : xT) (g1 : xG) => S = S1 ∧ r = none ∧ (∃ F a o q n : Int, g1 a0 5 = .int (iI F) ∧ -2147483648 ≤ F ∧ F ≤ 2147483647 ∧ g1 a0 2 = .int (iI a) ∧ 0 ≤ a ∧ a ≤ cn ∧ g1 a0 3 = .int (iI o) ∧ 0 ≤ o ∧ o ≤ 50 ∧ g1 a0 6 = .int (iI q) ∧ 0 ≤ q ∧ q ≤ 300 ∧ g1 a1 2 = .int (iI n) ∧ 0 ≤ n ∧ n ≤ 100 ∧ ∃ L1 : List xS3, xRC tk tl 0 3 na no L F a o q L1 ∧ (F = 0 → xStq (xv g1 ws) s0 b n L1) ∧ xFr 14000 S g g1 ws ∧ xFr 11 S g g1 a1)) := by
  refine xEnterV (by decide) (by simp [lg_sl, Value.category]) [(0, .ref a0), (1, .ref a1), (2, .int (iI x2))] rfl ?_
  intro K E hK hret _ _ _
  refine X_aloadn hK (i := 0) 0 kd29_20.2.2.2.2.2.2.1 rfl rfl ?_
  refine X_callV hK [] [] lk_X7_47 (c3_now _ _ _ _ _ S g a0 na wt wp tk tl cn hs_a0 (by omega) ena ewt hs_wt ewp hs_wp hp0 (by omega) (by omega)) hs_a0 ⟨by decide, rfl⟩ kd29_20.2.2.2.2.2.2.2.1 rfl rfl (by simp [Value.category]) (by decide) (by decide) (by decide) (by decide) (fun r1 S3 g2 pr1 qr1 hg2 => ?_)
  obtain ⟨rfl, rfl, z4, rfl, lz4, uz4, k5⟩ := pr1
  refine X_st [.int (iI z4)] rfl ?_
  refine X_istoren hK (i := 3) [(3, .int (iI z4)), (0, .ref a0), (1, .ref a1), (2, .int (iI x2))] kd29_20.2.2.2.2.2.2.2.2.1 rfl (by decide) rfl ?_
  refine X_iloadn hK (i := 3) 0 kd29_20.2.2.2.2.2.2.2.2.2.1 rfl rfl ?_
  refine X_bipush hK kd29_20.2.2.2.2.2.2.2.2.2.2.1 (by decide) ?_
  refine X_icmp_lt hK 21 (by omega) (by omega) kd29_20.2.2.2.2.2.2.2.2.2.2.2 (by decide) (fun c6 => ?_) (fun c6 => ?_)
  · refine X_iconst hK kd29_21.2.2.2.2.2.1 ?_
    refine X_istore hK (i := 4) [(4, .int (iI 0)), (3, .int (iI z4)), (0, .ref a0), (1, .ref a1), (2, .int (iI x2))] kd29_21.2.2.2.2.2.2.1 (by decide) rfl ?_
    refine X_iload hK (i := 4) 0 kd29_21.2.2.2.2.2.2.2.1 rfl ?_
    refine X_if_ne hK 49 (by omega) kd29_21.2.2.2.2.2.2.2.2.1 (by decide) (fun c7 => False.elim (by omega)) (fun c7 => ?_)
    refine X_iloadn hK (i := 3) 1 kd29_21.2.2.2.2.2.2.2.2.2.1 rfl rfl ?_
    refine X_bipush hK kd29_21.2.2.2.2.2.2.2.2.2.2.1 (by decide) ?_
    refine X_icmp_eq hK 49 (by omega) (by omega) kd29_21.2.2.2.2.2.2.2.2.2.2.2 (by decide) (fun c8 => ?_) (fun c8 => ?_)
    · refine X_aloadn hK (i := 0) 2 kd29_22.2.2.2.2.2.2.2.1 rfl rfl ?_
      refine X_getK hK fl_X7_22_8 hs_a0 eno kd29_22.2.2.2.2.2.2.2.2.1 ?_
      refine X_bipush hK kd29_22.2.2.2.2.2.2.2.2.2.1 (by decide) ?_
      refine X_icmp_ge hK 64 (by omega) (by omega) kd29_22.2.2.2.2.2.2.2.2.2.2.1 (by decide) (fun c9 => ?_) (fun c9 => ?_)
      · refine X_aloadn hK (i := 0) 2 kd29_23.2.2.1 rfl rfl ?_
        refine X_iconst hK kd29_23.2.2.2.1 ?_
        refine X_callV hK [.int (iI 4)] [] lk_X7_60 (c3_tell _ _ _ _ _ S g a0 4 na no nf nq wt wp tk tl cn hs_a0 (by omega) (by omega) ena (by omega) eno (by omega) enf (by omega) enq ewt hs_wt ewp hs_wp hp0 (by omega) (by omega)) hs_a0 ⟨by decide, rfl⟩ kd29_23.2.2.2.2.1 rfl rfl (by simp [Value.category]) (by decide) (by decide) (by decide) (by decide) (fun r10 S12 g11 pr10 qr10 hg11 => ?_)
        obtain ⟨rfl, rfl, k13⟩ := pr10
        refine X_st [] rfl ?_
        obtain ⟨Ft14, at14, ot14, qt14, eFt14, lFt14, uFt14, eat14, lat14, uat14, eot14, lot14, uot14, eqt14, lqt14, uqt14, kt14⟩ := k13
        have cat14 : at14 ≤ 300 := by have h9 := (show xTB (xv g11 wt) (xv g11 wp) tk tl cn from (by rw [(xv_m hg11 hs_wt (by decide) (by decide)), (xv_m hg11 hs_wp (by decide) (by decide))]; exact hp0)).2.2.2; omega
        refine X_goto hK 148 kd29_23.2.2.2.2.2.1 (by decide) ?_
        exact hret _ _ _ _ _ _ kd29_27.2.2.2 ⟨rfl, rfl, ⟨Ft14, at14, ot14, qt14, ns, eFt14, by omega, by omega, eat14, by omega, by omega, eot14, by omega, by omega, eqt14, by omega, by omega, ((hg11 a1 11 0 2 hs_a1 (by decide)).trans ens), by omega, by omega, [], (by obtain ⟨h8, h7, h6⟩ := kt14; have h5 := h8.resolve_left (fun q9 => by omega); rw [h5.2.1]; exact xRC.f4 (by rw [← k5]; omega) (by omega) h5.2.2), (fun h9 => by have h8 := kt14; omega), (xFr.m xFr.rf hg11 (by decide)), (xFr.m xFr.rf hg11 (by decide))⟩⟩ (Nat.le_refl _) (Nat.le_refl _)
      · refine X_iloadn hK (i := 2) 4 kd29_22.2.2.2.2.2.2.2.2.2.2.2 rfl rfl ?_
        refine X_bipush hK kd29_23.1 (by decide) ?_
        refine X_icmp_le hK 72 (by omega) (by omega) kd29_23.2.1 (by decide) (fun c15 => ?_) (fun c15 => False.elim (by omega))
        refine X_aloadn hK (i := 0) 2 kd29_23.2.2.2.2.2.2.1 rfl rfl ?_
        refine X_dup hK kd29_23.2.2.2.2.2.2.2.1 rfl ?_
        refine X_getK hK fl_X7_22_8 hs_a0 eno kd29_23.2.2.2.2.2.2.2.2.1 ?_
        refine X_iconst hK kd29_23.2.2.2.2.2.2.2.2.2.1 ?_
        refine X_iadd hK kd29_23.2.2.2.2.2.2.2.2.2.2.1 ?_
        refine X_puti hK fl_X7_22_8 hs_a0 (by decide) sl_8_3 (by omega) (by omega) kd29_23.2.2.2.2.2.2.2.2.2.2.2 (fun g16 hg16 => ?_)
        refine X_aloadn hK (i := 0) 2 kd29_24.1 rfl rfl ?_
        refine X_dup hK kd29_24.2.1 rfl ?_
        have hl17 := xTB.lt (A := xv g16 wt) (B := xv g16 wp) (tk := tk) (tl := tl) (c := cn) (a := na) (by rw [(xv_a hg16 (xne hs_wt hs_a0 (by decide))), (xv_a hg16 (xne hs_wp hs_a0 (by decide)))]; exact hp0) (by omega) (by rw [← k5]; omega)
        refine X_getK hK fl_X7_18_8 hs_a0 ((xs_k hg16 (by decide)).trans ena) kd29_24.2.2.1 ?_
        refine X_iconst hK kd29_24.2.2.2.1 ?_
        refine X_iadd hK kd29_24.2.2.2.2.1 ?_
        refine X_puti hK fl_X7_18_8 hs_a0 (by decide) sl_8_2 (by omega) (by omega) kd29_24.2.2.2.2.2.1 (fun g18 hg18 => ?_)
        refine X_iload hK (i := 4) 0 kd29_24.2.2.2.2.2.2.1 rfl ?_
        refine X_if_eq hK 109 (by omega) kd29_24.2.2.2.2.2.2.2.1 (by decide) (fun c19 => ?_) (fun c19 => False.elim (by omega))
        refine X_iloadn hK (i := 3) 1 kd29_25.2.2.2.1 rfl rfl ?_
        refine X_bipush hK kd29_25.2.2.2.2.1 (by decide) ?_
        refine X_icmp_ne hK 132 (by omega) (by omega) kd29_25.2.2.2.2.2.1 (by decide) (fun c20 => ?_) (fun c20 => False.elim (by omega))
        refine X_aloadn hK (i := 0) 2 kd29_26.2.2.2.2.1 rfl rfl ?_
        refine X_aloadn hK (i := 1) 3 kd29_26.2.2.2.2.2.1 rfl rfl ?_
        refine X_iloadn hK (i := 2) 4 kd29_26.2.2.2.2.2.2.1 rfl rfl ?_
        refine X_iconst hK kd29_26.2.2.2.2.2.2.2.1 ?_
        refine X_iadd hK kd29_26.2.2.2.2.2.2.2.2.1 ?_
        refine X_callV hK [.ref a1, .int (iI (x2 + 1))] [] lk_X7_132 (m_readOne_4 _ _ _ _ _ S g18 a0 a1 (x2 + 1) (na + 1) (no + 1) nf nq wt wp ns ws tk tl cn L b s0 hs_a0 hs_a1 (by omega) (by omega) (xs_s hg18) (by omega) ((xs_k hg18 (by decide)).trans (xs_s hg16)) (by omega) ((xs_k hg18 (by decide)).trans ((xs_k hg16 (by decide)).trans enf)) (by omega) ((xs_k hg18 (by decide)).trans ((xs_k hg16 (by decide)).trans enq)) ((xs_k hg18 (by decide)).trans ((xs_k hg16 (by decide)).trans ewt)) hs_wt ((xs_k hg18 (by decide)).trans ((xs_k hg16 (by decide)).trans ewp)) hs_wp (by omega) ((xs_a hg18 (xne hs_a1 hs_a0 (by decide))).trans ((xs_k hg16 (by decide)).trans ens)) ((xs_k hg18 (by decide)).trans ((xs_k hg16 (by decide)).trans ews)) hs_ws (by rw [(Eq.trans (xv_a hg18 (xne hs_wt hs_a0 (by decide))) (xv_a hg16 (xne hs_wt hs_a0 (by decide)))), (Eq.trans (xv_a hg18 (xne hs_wp hs_a0 (by decide))) (xv_a hg16 (xne hs_wp hs_a0 (by decide))))]; exact hp0) (by omega) (by omega) (by rw [(Eq.trans (xv_a hg18 (xne hs_ws hs_a0 (by decide))) (xv_a hg16 (xne hs_ws hs_a0 (by decide))))]; exact hp3) (by omega) (by omega)) hs_a0 ⟨by decide, rfl⟩ kd29_26.2.2.2.2.2.2.2.2.2.1 rfl rfl (by simp [Value.category]) (by decide) (by decide) (by decide) (by decide) (fun r21 S23 g22 pr21 qr21 hg22 => ?_)
        obtain ⟨rfl, rfl, k24⟩ := pr21
        refine X_st [] rfl ?_
        obtain ⟨Ft25, at25, ot25, qt25, nt25, eFt25, lFt25, uFt25, eat25, lat25, uat25, eot25, lot25, uot25, eqt25, lqt25, uqt25, ent25, lnt25, unt25, Lt25, kt25, stt25, fst25, ftt25⟩ := k24
        have cat25 : at25 ≤ 300 := (by omega)
        refine X_aloadn hK (i := 1) 3 kd29_26.2.2.2.2.2.2.2.2.2.2.1 rfl rfl ?_
        refine X_bipush hK kd29_26.2.2.2.2.2.2.2.2.2.2.2 (by decide) ?_
        refine X_iconst hK kd29_27.1 ?_
        refine X_iconst hK kd29_27.2.1 ?_
        refine X_callV hK [.int (iI 12), .int (iI 0), .int (iI 0)] [] lk_X7_129 (m_addStep _ _ _ _ _ S g22 a1 12 0 0 nt25 ws hs_a1 (by omega) (by omega) (by omega) (by omega) ent25 ((hg22 a1 11 0 7 hs_a1 (by decide)).trans ((xs_k hg18 (by decide)).trans ((xs_k hg16 (by decide)).trans ews))) hs_ws) hs_a1 ⟨by decide, rfl⟩ kd29_27.2.2.1 rfl rfl (by simp [Value.category]) (by decide) (by decide) (by decide) (by decide) (fun r26 S28 g27 pr26 qr26 hg27 => ?_)
        obtain ⟨rfl, rfl, k29, k30, k31, k32⟩ := pr26
        refine X_st [] rfl ?_
        exact hret _ _ _ _ _ _ kd29_27.2.2.2 ⟨rfl, rfl, ⟨Ft25, at25, ot25, qt25, (if nt25 < 100 then nt25 + 1 else nt25), ((hg27 a0 8 0 5 hs_a0 (by decide)).trans eFt25), by omega, by omega, ((hg27 a0 8 0 2 hs_a0 (by decide)).trans eat25), by omega, by omega, ((hg27 a0 8 0 3 hs_a0 (by decide)).trans eot25), by omega, by omega, ((hg27 a0 8 0 6 hs_a0 (by decide)).trans eqt25), by omega, by omega, k29, by omega, by omega, (Lt25 ++ [(12, 0, 0)]), (xRC.nt (by rw [← k5]; omega) (by omega) kt25 (fun _ => rfl)), (fun h9 => by have h6 := xRC.b (by omega) kt25 h9; have h5 := (stt25 h9).1; have h4 := hp3.1; exact (by have h9 := (xStq.add (x := (12, 0, 0)) (stt25 (by omega)) (by omega) (by have h4a := (k30.1 (by omega)).1; unfold xec9; (try dsimp only); omega) (k30.1 (by omega)).2); rw [if_pos (by omega)]; exact h9)), (xFr.tr (xFr.tr (xFr.t (xFr.t xFr.rf hg16 hs_a0 (by decide)) hg18 hs_a0 (by decide)) fst25) k31), (xFr.tr (xFr.tr (xFr.t (xFr.t xFr.rf hg16 hs_a0 (by decide)) hg18 hs_a0 (by decide)) ftt25) k32)⟩⟩ (Nat.le_refl _) (Nat.le_refl _)
    · refine X_iloadn hK (i := 3) 1 kd29_22.1 rfl rfl ?_
      refine X_bipush hK kd29_22.2.1 (by decide) ?_
      refine X_icmp_eq hK 49 (by omega) (by omega) kd29_22.2.2.1 (by decide) (fun c33 => False.elim (by omega)) (fun c33 => ?_)
      refine X_aloadn hK (i := 0) 2 kd29_22.2.2.2.1 rfl rfl ?_
      refine X_iconst hK kd29_22.2.2.2.2.1 ?_
      refine X_callV hK [.int (iI 1)] [] lk_X7_60 (c3_tell _ _ _ _ _ S g a0 1 na no nf nq wt wp tk tl cn hs_a0 (by omega) (by omega) ena (by omega) eno (by omega) enf (by omega) enq ewt hs_wt ewp hs_wp hp0 (by omega) (by omega)) hs_a0 ⟨by decide, rfl⟩ kd29_22.2.2.2.2.2.1 rfl rfl (by simp [Value.category]) (by decide) (by decide) (by decide) (by decide) (fun r34 S36 g35 pr34 qr34 hg35 => ?_)
      obtain ⟨rfl, rfl, k37⟩ := pr34
      refine X_st [] rfl ?_
      obtain ⟨Ft38, at38, ot38, qt38, eFt38, lFt38, uFt38, eat38, lat38, uat38, eot38, lot38, uot38, eqt38, lqt38, uqt38, kt38⟩ := k37
      have cat38 : at38 ≤ 300 := by have h9 := (show xTB (xv g35 wt) (xv g35 wp) tk tl cn from (by rw [(xv_m hg35 hs_wt (by decide) (by decide)), (xv_m hg35 hs_wp (by decide) (by decide))]; exact hp0)).2.2.2; omega
      refine X_goto hK 148 kd29_22.2.2.2.2.2.2.1 (by decide) ?_
      exact hret _ _ _ _ _ _ kd29_27.2.2.2 ⟨rfl, rfl, ⟨Ft38, at38, ot38, qt38, ns, eFt38, by omega, by omega, eat38, by omega, by omega, eot38, by omega, by omega, eqt38, by omega, by omega, ((hg35 a1 11 0 2 hs_a1 (by decide)).trans ens), by omega, by omega, [], (by obtain ⟨h8, h7, h6⟩ := kt38; have h5 := h8.resolve_left (fun q9 => by omega); rw [h5.2.1]; exact xRC.f1 (by rw [← k5]; omega) h5.2.2), (fun h9 => by have h8 := kt38; omega), (xFr.m xFr.rf hg35 (by decide)), (xFr.m xFr.rf hg35 (by decide))⟩⟩ (Nat.le_refl _) (Nat.le_refl _)
  · refine X_iloadn hK (i := 3) 0 kd29_21.1 rfl rfl ?_
    refine X_bipush hK kd29_21.2.1 (by decide) ?_
    refine X_icmp_ge hK 21 (by omega) (by omega) kd29_21.2.2.1 (by decide) (fun c39 => ?_) (fun c39 => ?_)
    · refine X_iconst hK kd29_21.2.2.2.2.2.1 ?_
      refine X_istore hK (i := 4) [(4, .int (iI 0)), (3, .int (iI z4)), (0, .ref a0), (1, .ref a1), (2, .int (iI x2))] kd29_21.2.2.2.2.2.2.1 (by decide) rfl ?_
      refine X_iload hK (i := 4) 0 kd29_21.2.2.2.2.2.2.2.1 rfl ?_
      refine X_if_ne hK 49 (by omega) kd29_21.2.2.2.2.2.2.2.2.1 (by decide) (fun c40 => False.elim (by omega)) (fun c40 => ?_)
      refine X_iloadn hK (i := 3) 1 kd29_21.2.2.2.2.2.2.2.2.2.1 rfl rfl ?_
      refine X_bipush hK kd29_21.2.2.2.2.2.2.2.2.2.2.1 (by decide) ?_
      refine X_icmp_eq hK 49 (by omega) (by omega) kd29_21.2.2.2.2.2.2.2.2.2.2.2 (by decide) (fun c41 => False.elim (by omega)) (fun c41 => ?_)
      refine X_iloadn hK (i := 3) 1 kd29_22.1 rfl rfl ?_
      refine X_bipush hK kd29_22.2.1 (by decide) ?_
      refine X_icmp_eq hK 49 (by omega) (by omega) kd29_22.2.2.1 (by decide) (fun c42 => ?_) (fun c42 => ?_)
      · refine X_aloadn hK (i := 0) 2 kd29_22.2.2.2.2.2.2.2.1 rfl rfl ?_
        refine X_getK hK fl_X7_22_8 hs_a0 eno kd29_22.2.2.2.2.2.2.2.2.1 ?_
        refine X_bipush hK kd29_22.2.2.2.2.2.2.2.2.2.1 (by decide) ?_
        refine X_icmp_ge hK 64 (by omega) (by omega) kd29_22.2.2.2.2.2.2.2.2.2.2.1 (by decide) (fun c43 => ?_) (fun c43 => ?_)
        · refine X_aloadn hK (i := 0) 2 kd29_23.2.2.1 rfl rfl ?_
          refine X_iconst hK kd29_23.2.2.2.1 ?_
          refine X_callV hK [.int (iI 4)] [] lk_X7_60 (c3_tell _ _ _ _ _ S g a0 4 na no nf nq wt wp tk tl cn hs_a0 (by omega) (by omega) ena (by omega) eno (by omega) enf (by omega) enq ewt hs_wt ewp hs_wp hp0 (by omega) (by omega)) hs_a0 ⟨by decide, rfl⟩ kd29_23.2.2.2.2.1 rfl rfl (by simp [Value.category]) (by decide) (by decide) (by decide) (by decide) (fun r44 S46 g45 pr44 qr44 hg45 => ?_)
          obtain ⟨rfl, rfl, k47⟩ := pr44
          refine X_st [] rfl ?_
          obtain ⟨Ft48, at48, ot48, qt48, eFt48, lFt48, uFt48, eat48, lat48, uat48, eot48, lot48, uot48, eqt48, lqt48, uqt48, kt48⟩ := k47
          have cat48 : at48 ≤ 300 := by have h9 := (show xTB (xv g45 wt) (xv g45 wp) tk tl cn from (by rw [(xv_m hg45 hs_wt (by decide) (by decide)), (xv_m hg45 hs_wp (by decide) (by decide))]; exact hp0)).2.2.2; omega
          refine X_goto hK 148 kd29_23.2.2.2.2.2.1 (by decide) ?_
          exact hret _ _ _ _ _ _ kd29_27.2.2.2 ⟨rfl, rfl, ⟨Ft48, at48, ot48, qt48, ns, eFt48, by omega, by omega, eat48, by omega, by omega, eot48, by omega, by omega, eqt48, by omega, by omega, ((hg45 a1 11 0 2 hs_a1 (by decide)).trans ens), by omega, by omega, [], (by obtain ⟨h8, h7, h6⟩ := kt48; have h5 := h8.resolve_left (fun q9 => by omega); rw [h5.2.1]; exact xRC.f4 (by rw [← k5]; omega) (by omega) h5.2.2), (fun h9 => by have h8 := kt48; omega), (xFr.m xFr.rf hg45 (by decide)), (xFr.m xFr.rf hg45 (by decide))⟩⟩ (Nat.le_refl _) (Nat.le_refl _)
        · refine X_iloadn hK (i := 2) 4 kd29_22.2.2.2.2.2.2.2.2.2.2.2 rfl rfl ?_
          refine X_bipush hK kd29_23.1 (by decide) ?_
          refine X_icmp_le hK 72 (by omega) (by omega) kd29_23.2.1 (by decide) (fun c49 => ?_) (fun c49 => False.elim (by omega))
          refine X_aloadn hK (i := 0) 2 kd29_23.2.2.2.2.2.2.1 rfl rfl ?_
          refine X_dup hK kd29_23.2.2.2.2.2.2.2.1 rfl ?_
          refine X_getK hK fl_X7_22_8 hs_a0 eno kd29_23.2.2.2.2.2.2.2.2.1 ?_
          refine X_iconst hK kd29_23.2.2.2.2.2.2.2.2.2.1 ?_
          refine X_iadd hK kd29_23.2.2.2.2.2.2.2.2.2.2.1 ?_
          refine X_puti hK fl_X7_22_8 hs_a0 (by decide) sl_8_3 (by omega) (by omega) kd29_23.2.2.2.2.2.2.2.2.2.2.2 (fun g50 hg50 => ?_)
          refine X_aloadn hK (i := 0) 2 kd29_24.1 rfl rfl ?_
          refine X_dup hK kd29_24.2.1 rfl ?_
          have hl51 := xTB.lt (A := xv g50 wt) (B := xv g50 wp) (tk := tk) (tl := tl) (c := cn) (a := na) (by rw [(xv_a hg50 (xne hs_wt hs_a0 (by decide))), (xv_a hg50 (xne hs_wp hs_a0 (by decide)))]; exact hp0) (by omega) (by rw [← k5]; omega)
          refine X_getK hK fl_X7_18_8 hs_a0 ((xs_k hg50 (by decide)).trans ena) kd29_24.2.2.1 ?_
          refine X_iconst hK kd29_24.2.2.2.1 ?_
          refine X_iadd hK kd29_24.2.2.2.2.1 ?_
          refine X_puti hK fl_X7_18_8 hs_a0 (by decide) sl_8_2 (by omega) (by omega) kd29_24.2.2.2.2.2.1 (fun g52 hg52 => ?_)
          refine X_iload hK (i := 4) 0 kd29_24.2.2.2.2.2.2.1 rfl ?_
          refine X_if_eq hK 109 (by omega) kd29_24.2.2.2.2.2.2.2.1 (by decide) (fun c53 => ?_) (fun c53 => False.elim (by omega))
          refine X_iloadn hK (i := 3) 1 kd29_25.2.2.2.1 rfl rfl ?_
          refine X_bipush hK kd29_25.2.2.2.2.1 (by decide) ?_
          refine X_icmp_ne hK 132 (by omega) (by omega) kd29_25.2.2.2.2.2.1 (by decide) (fun c54 => False.elim (by omega)) (fun c54 => ?_)
          refine X_aloadn hK (i := 0) 2 kd29_25.2.2.2.2.2.2.1 rfl rfl ?_
          refine X_aloadn hK (i := 1) 3 kd29_25.2.2.2.2.2.2.2.1 rfl rfl ?_
          refine X_iloadn hK (i := 2) 4 kd29_25.2.2.2.2.2.2.2.2.1 rfl rfl ?_
          refine X_iconst hK kd29_25.2.2.2.2.2.2.2.2.2.1 ?_
          refine X_iadd hK kd29_25.2.2.2.2.2.2.2.2.2.2.1 ?_
          refine X_callV hK [.ref a1, .int (iI (x2 + 1))] [] lk_X7_115 (m_readCond_4 _ _ _ _ _ S g52 a0 a1 (x2 + 1) (na + 1) (no + 1) nf nq wt wp ns ws tk tl cn L b s0 hs_a0 hs_a1 (by omega) (by omega) (xs_s hg52) (by omega) ((xs_k hg52 (by decide)).trans (xs_s hg50)) (by omega) ((xs_k hg52 (by decide)).trans ((xs_k hg50 (by decide)).trans enf)) (by omega) ((xs_k hg52 (by decide)).trans ((xs_k hg50 (by decide)).trans enq)) ((xs_k hg52 (by decide)).trans ((xs_k hg50 (by decide)).trans ewt)) hs_wt ((xs_k hg52 (by decide)).trans ((xs_k hg50 (by decide)).trans ewp)) hs_wp (by omega) ((xs_a hg52 (xne hs_a1 hs_a0 (by decide))).trans ((xs_k hg50 (by decide)).trans ens)) ((xs_k hg52 (by decide)).trans ((xs_k hg50 (by decide)).trans ews)) hs_ws (by rw [(Eq.trans (xv_a hg52 (xne hs_wt hs_a0 (by decide))) (xv_a hg50 (xne hs_wt hs_a0 (by decide)))), (Eq.trans (xv_a hg52 (xne hs_wp hs_a0 (by decide))) (xv_a hg50 (xne hs_wp hs_a0 (by decide))))]; exact hp0) (by omega) (by omega) (by rw [(Eq.trans (xv_a hg52 (xne hs_ws hs_a0 (by decide))) (xv_a hg50 (xne hs_ws hs_a0 (by decide))))]; exact hp3) (by omega) (by omega)) hs_a0 ⟨by decide, rfl⟩ kd29_25.2.2.2.2.2.2.2.2.2.2.2 rfl rfl (by simp [Value.category]) (by decide) (by decide) (by decide) (by decide) (fun r55 S57 g56 pr55 qr55 hg56 => ?_)
          obtain ⟨rfl, rfl, k58⟩ := pr55
          refine X_st [] rfl ?_
          obtain ⟨Ft59, at59, ot59, qt59, nt59, eFt59, lFt59, uFt59, eat59, lat59, uat59, eot59, lot59, uot59, eqt59, lqt59, uqt59, ent59, lnt59, unt59, Lt59, kt59, stt59, fst59, ftt59⟩ := k58
          have cat59 : at59 ≤ 300 := (by omega)
          refine X_aloadn hK (i := 0) 2 kd29_26.1 rfl rfl ?_
          refine X_bipush hK kd29_26.2.1 (by decide) ?_
          refine X_callV hK [.int (iI 26)] [] lk_X7_119 (c3_expect _ _ _ _ _ S g56 a0 26 at59 ot59 Ft59 qt59 wt wp tk tl cn hs_a0 (by omega) (by omega) eat59 (by omega) eot59 (by omega) eFt59 (by omega) eqt59 ((hg56 a0 8 0 0 hs_a0 (by decide)).trans ((xs_k hg52 (by decide)).trans ((xs_k hg50 (by decide)).trans ewt))) hs_wt ((hg56 a0 8 0 1 hs_a0 (by decide)).trans ((xs_k hg52 (by decide)).trans ((xs_k hg50 (by decide)).trans ewp))) hs_wp (by rw [(Eq.trans (Eq.trans (xv_m hg56 hs_wt (by decide) (by decide)) (xv_a hg52 (xne hs_wt hs_a0 (by decide)))) (xv_a hg50 (xne hs_wt hs_a0 (by decide)))), (Eq.trans (Eq.trans (xv_m hg56 hs_wp (by decide) (by decide)) (xv_a hg52 (xne hs_wp hs_a0 (by decide)))) (xv_a hg50 (xne hs_wp hs_a0 (by decide))))]; exact hp0) (by omega) (by omega)) hs_a0 ⟨by decide, rfl⟩ kd29_26.2.2.1 rfl rfl (by simp [Value.category]) (by decide) (by decide) (by decide) (by decide) (fun r60 S62 g61 pr60 qr60 hg61 => ?_)
          obtain ⟨rfl, rfl, k63⟩ := pr60
          refine X_st [] rfl ?_
          obtain ⟨Ft64, at64, ot64, qt64, eFt64, lFt64, uFt64, eat64, lat64, uat64, eot64, lot64, uot64, eqt64, lqt64, uqt64, kt64⟩ := k63
          have cat64 : at64 ≤ 300 := by have h9 := (show xTB (xv g61 wt) (xv g61 wp) tk tl cn from (by rw [(Eq.trans (Eq.trans (Eq.trans (xv_m hg61 hs_wt (by decide) (by decide)) (xv_m hg56 hs_wt (by decide) (by decide))) (xv_a hg52 (xne hs_wt hs_a0 (by decide)))) (xv_a hg50 (xne hs_wt hs_a0 (by decide)))), (Eq.trans (Eq.trans (Eq.trans (xv_m hg61 hs_wp (by decide) (by decide)) (xv_m hg56 hs_wp (by decide) (by decide))) (xv_a hg52 (xne hs_wp hs_a0 (by decide)))) (xv_a hg50 (xne hs_wp hs_a0 (by decide))))]; exact hp0)).2.2.2; omega
          refine X_goto hK 148 kd29_26.2.2.2.1 (by decide) ?_
          exact hret _ _ _ _ _ _ kd29_27.2.2.2 ⟨rfl, rfl, ⟨Ft64, at64, ot64, qt64, nt59, eFt64, by omega, by omega, eat64, by omega, by omega, eot64, by omega, by omega, eqt64, by omega, by omega, ((hg61 a1 11 0 2 hs_a1 (by decide)).trans ent59), by omega, by omega, Lt59, (by obtain ⟨h8, h7⟩ := kt64; by_cases f9 : Ft59 = 0; (rcases h8 with ⟨c1, c2, c3, c4⟩ | ⟨c1, c2, c3⟩; (rw [show Ft64 = 0 by omega, c3, h7]; exact xRC.po (by rw [← k5]; omega) (by omega) (show xRC tk tl 2 (3 + 1) (na + 1) (no + 1) L Ft59 at59 ot59 qt59 Lt59 from kt59) f9 c1); (have c4 := c3.resolve_left (fun q9 => q9.1 f9); rw [c4.2.1]; exact xRC.px (by rw [← k5]; omega) (by omega) (show xRC tk tl 2 (3 + 1) (na + 1) (no + 1) L Ft59 at59 ot59 qt59 Lt59 from kt59) f9 c1 c4.2.2)); (have h6 : Ft64 = Ft59 ∧ qt64 = qt59 := (by omega); rw [h6.1, h6.2]; exact xRC.pf (by rw [← k5]; omega) (by omega) (show xRC tk tl 2 (3 + 1) (na + 1) (no + 1) L Ft59 at59 ot59 qt59 Lt59 from kt59) f9)), (fun h9 => by have h8 := kt64; have h7 : Ft59 = 0 := (by omega); rw [(xv_m hg61 hs_ws (by decide) (by decide))]; exact stt59 h7), (xFr.m (xFr.tr (xFr.t (xFr.t xFr.rf hg50 hs_a0 (by decide)) hg52 hs_a0 (by decide)) fst59) hg61 (by decide)), (xFr.m (xFr.tr (xFr.t (xFr.t xFr.rf hg50 hs_a0 (by decide)) hg52 hs_a0 (by decide)) ftt59) hg61 (by decide))⟩⟩ (Nat.le_refl _) (Nat.le_refl _)
      · refine X_aloadn hK (i := 0) 2 kd29_22.2.2.2.1 rfl rfl ?_
        refine X_iconst hK kd29_22.2.2.2.2.1 ?_
        refine X_callV hK [.int (iI 1)] [] lk_X7_60 (c3_tell _ _ _ _ _ S g a0 1 na no nf nq wt wp tk tl cn hs_a0 (by omega) (by omega) ena (by omega) eno (by omega) enf (by omega) enq ewt hs_wt ewp hs_wp hp0 (by omega) (by omega)) hs_a0 ⟨by decide, rfl⟩ kd29_22.2.2.2.2.2.1 rfl rfl (by simp [Value.category]) (by decide) (by decide) (by decide) (by decide) (fun r65 S67 g66 pr65 qr65 hg66 => ?_)
        obtain ⟨rfl, rfl, k68⟩ := pr65
        refine X_st [] rfl ?_
        obtain ⟨Ft69, at69, ot69, qt69, eFt69, lFt69, uFt69, eat69, lat69, uat69, eot69, lot69, uot69, eqt69, lqt69, uqt69, kt69⟩ := k68
        have cat69 : at69 ≤ 300 := by have h9 := (show xTB (xv g66 wt) (xv g66 wp) tk tl cn from (by rw [(xv_m hg66 hs_wt (by decide) (by decide)), (xv_m hg66 hs_wp (by decide) (by decide))]; exact hp0)).2.2.2; omega
        refine X_goto hK 148 kd29_22.2.2.2.2.2.2.1 (by decide) ?_
        exact hret _ _ _ _ _ _ kd29_27.2.2.2 ⟨rfl, rfl, ⟨Ft69, at69, ot69, qt69, ns, eFt69, by omega, by omega, eat69, by omega, by omega, eot69, by omega, by omega, eqt69, by omega, by omega, ((hg66 a1 11 0 2 hs_a1 (by decide)).trans ens), by omega, by omega, [], (by obtain ⟨h8, h7, h6⟩ := kt69; have h5 := h8.resolve_left (fun q9 => by omega); rw [h5.2.1]; exact xRC.f1 (by rw [← k5]; omega) h5.2.2), (fun h9 => by have h8 := kt69; omega), (xFr.m xFr.rf hg66 (by decide)), (xFr.m xFr.rf hg66 (by decide))⟩⟩ (Nat.le_refl _) (Nat.le_refl _)
    · refine X_iconst hK kd29_21.2.2.2.1 ?_
      refine X_goto hK 22 kd29_21.2.2.2.2.1 (by decide) ?_
      refine X_istore hK (i := 4) [(4, .int (iI 1)), (3, .int (iI z4)), (0, .ref a0), (1, .ref a1), (2, .int (iI x2))] kd29_21.2.2.2.2.2.2.1 (by decide) rfl ?_
      refine X_iload hK (i := 4) 0 kd29_21.2.2.2.2.2.2.2.1 rfl ?_
      refine X_if_ne hK 49 (by omega) kd29_21.2.2.2.2.2.2.2.2.1 (by decide) (fun c70 => ?_) (fun c70 => False.elim (by omega))
      refine X_aloadn hK (i := 0) 2 kd29_22.2.2.2.2.2.2.2.1 rfl rfl ?_
      refine X_getK hK fl_X7_22_8 hs_a0 eno kd29_22.2.2.2.2.2.2.2.2.1 ?_
      refine X_bipush hK kd29_22.2.2.2.2.2.2.2.2.2.1 (by decide) ?_
      refine X_icmp_ge hK 64 (by omega) (by omega) kd29_22.2.2.2.2.2.2.2.2.2.2.1 (by decide) (fun c71 => ?_) (fun c71 => ?_)
      · refine X_aloadn hK (i := 0) 2 kd29_23.2.2.1 rfl rfl ?_
        refine X_iconst hK kd29_23.2.2.2.1 ?_
        refine X_callV hK [.int (iI 4)] [] lk_X7_60 (c3_tell _ _ _ _ _ S g a0 4 na no nf nq wt wp tk tl cn hs_a0 (by omega) (by omega) ena (by omega) eno (by omega) enf (by omega) enq ewt hs_wt ewp hs_wp hp0 (by omega) (by omega)) hs_a0 ⟨by decide, rfl⟩ kd29_23.2.2.2.2.1 rfl rfl (by simp [Value.category]) (by decide) (by decide) (by decide) (by decide) (fun r72 S74 g73 pr72 qr72 hg73 => ?_)
        obtain ⟨rfl, rfl, k75⟩ := pr72
        refine X_st [] rfl ?_
        obtain ⟨Ft76, at76, ot76, qt76, eFt76, lFt76, uFt76, eat76, lat76, uat76, eot76, lot76, uot76, eqt76, lqt76, uqt76, kt76⟩ := k75
        have cat76 : at76 ≤ 300 := by have h9 := (show xTB (xv g73 wt) (xv g73 wp) tk tl cn from (by rw [(xv_m hg73 hs_wt (by decide) (by decide)), (xv_m hg73 hs_wp (by decide) (by decide))]; exact hp0)).2.2.2; omega
        refine X_goto hK 148 kd29_23.2.2.2.2.2.1 (by decide) ?_
        exact hret _ _ _ _ _ _ kd29_27.2.2.2 ⟨rfl, rfl, ⟨Ft76, at76, ot76, qt76, ns, eFt76, by omega, by omega, eat76, by omega, by omega, eot76, by omega, by omega, eqt76, by omega, by omega, ((hg73 a1 11 0 2 hs_a1 (by decide)).trans ens), by omega, by omega, [], (by obtain ⟨h8, h7, h6⟩ := kt76; have h5 := h8.resolve_left (fun q9 => by omega); rw [h5.2.1]; exact xRC.f4 (by rw [← k5]; omega) (by omega) h5.2.2), (fun h9 => by have h8 := kt76; omega), (xFr.m xFr.rf hg73 (by decide)), (xFr.m xFr.rf hg73 (by decide))⟩⟩ (Nat.le_refl _) (Nat.le_refl _)
      · refine X_iloadn hK (i := 2) 4 kd29_22.2.2.2.2.2.2.2.2.2.2.2 rfl rfl ?_
        refine X_bipush hK kd29_23.1 (by decide) ?_
        refine X_icmp_le hK 72 (by omega) (by omega) kd29_23.2.1 (by decide) (fun c77 => ?_) (fun c77 => False.elim (by omega))
        refine X_aloadn hK (i := 0) 2 kd29_23.2.2.2.2.2.2.1 rfl rfl ?_
        refine X_dup hK kd29_23.2.2.2.2.2.2.2.1 rfl ?_
        refine X_getK hK fl_X7_22_8 hs_a0 eno kd29_23.2.2.2.2.2.2.2.2.1 ?_
        refine X_iconst hK kd29_23.2.2.2.2.2.2.2.2.2.1 ?_
        refine X_iadd hK kd29_23.2.2.2.2.2.2.2.2.2.2.1 ?_
        refine X_puti hK fl_X7_22_8 hs_a0 (by decide) sl_8_3 (by omega) (by omega) kd29_23.2.2.2.2.2.2.2.2.2.2.2 (fun g78 hg78 => ?_)
        refine X_aloadn hK (i := 0) 2 kd29_24.1 rfl rfl ?_
        refine X_dup hK kd29_24.2.1 rfl ?_
        have hl79 := xTB.lt (A := xv g78 wt) (B := xv g78 wp) (tk := tk) (tl := tl) (c := cn) (a := na) (by rw [(xv_a hg78 (xne hs_wt hs_a0 (by decide))), (xv_a hg78 (xne hs_wp hs_a0 (by decide)))]; exact hp0) (by omega) (by rw [← k5]; omega)
        refine X_getK hK fl_X7_18_8 hs_a0 ((xs_k hg78 (by decide)).trans ena) kd29_24.2.2.1 ?_
        refine X_iconst hK kd29_24.2.2.2.1 ?_
        refine X_iadd hK kd29_24.2.2.2.2.1 ?_
        refine X_puti hK fl_X7_18_8 hs_a0 (by decide) sl_8_2 (by omega) (by omega) kd29_24.2.2.2.2.2.1 (fun g80 hg80 => ?_)
        refine X_iload hK (i := 4) 0 kd29_24.2.2.2.2.2.2.1 rfl ?_
        refine X_if_eq hK 109 (by omega) kd29_24.2.2.2.2.2.2.2.1 (by decide) (fun c81 => False.elim (by omega)) (fun c81 => ?_)
        refine X_aloadn hK (i := 0) 2 kd29_24.2.2.2.2.2.2.2.2.1 rfl rfl ?_
        refine X_aloadn hK (i := 1) 3 kd29_24.2.2.2.2.2.2.2.2.2.1 rfl rfl ?_
        refine X_iloadn hK (i := 3) 1 kd29_24.2.2.2.2.2.2.2.2.2.2.1 rfl rfl ?_
        refine X_bipush hK kd29_24.2.2.2.2.2.2.2.2.2.2.2 (by decide) ?_
        refine X_isub hK kd29_25.1 ?_
        refine X_callV hK [.ref a1, .int (iI (z4 - 10))] [] lk_X7_135 (m_readFact _ _ _ _ _ S g80 a0 a1 (z4 - 10) (na + 1) (no + 1) nf nq wt wp ns ws tk tl cn L b s0 3 hs_a0 hs_a1 (by omega) (by omega) (xs_s hg80) (by omega) ((xs_k hg80 (by decide)).trans (xs_s hg78)) (by omega) ((xs_k hg80 (by decide)).trans ((xs_k hg78 (by decide)).trans enf)) (by omega) ((xs_k hg80 (by decide)).trans ((xs_k hg78 (by decide)).trans enq)) ((xs_k hg80 (by decide)).trans ((xs_k hg78 (by decide)).trans ewt)) hs_wt ((xs_k hg80 (by decide)).trans ((xs_k hg78 (by decide)).trans ewp)) hs_wp (by omega) ((xs_a hg80 (xne hs_a1 hs_a0 (by decide))).trans ((xs_k hg78 (by decide)).trans ens)) ((xs_k hg80 (by decide)).trans ((xs_k hg78 (by decide)).trans ews)) hs_ws (by rw [(Eq.trans (xv_a hg80 (xne hs_wt hs_a0 (by decide))) (xv_a hg78 (xne hs_wt hs_a0 (by decide)))), (Eq.trans (xv_a hg80 (xne hs_wp hs_a0 (by decide))) (xv_a hg78 (xne hs_wp hs_a0 (by decide))))]; exact hp0) (by omega) (by omega) (by rw [(Eq.trans (xv_a hg80 (xne hs_ws hs_a0 (by decide))) (xv_a hg78 (xne hs_ws hs_a0 (by decide))))]; exact hp3) (by omega) (by omega) (by rw [show (na + 1) - 1 = na by omega, ← k5]; omega) (by omega)) hs_a0 ⟨by decide, rfl⟩ kd29_25.2.1 rfl rfl (by simp [Value.category]) (by decide) (by decide) (by decide) (by decide) (fun r82 S84 g83 pr82 qr82 hg83 => ?_)
        obtain ⟨rfl, rfl, k85⟩ := pr82
        refine X_st [] rfl ?_
        obtain ⟨Ft86, at86, ot86, qt86, nt86, eFt86, lFt86, uFt86, eat86, lat86, uat86, eot86, lot86, uot86, eqt86, lqt86, uqt86, ent86, lnt86, unt86, Lt86, kt86, stt86, fst86, ftt86⟩ := k85
        have cat86 : at86 ≤ 300 := (by omega)
        refine X_goto hK 148 kd29_25.2.2.1 (by decide) ?_
        exact hret _ _ _ _ _ _ kd29_27.2.2.2 ⟨rfl, rfl, ⟨Ft86, at86, ot86, qt86, nt86, eFt86, by omega, by omega, eat86, by omega, by omega, eot86, by omega, by omega, eqt86, by omega, by omega, ent86, by omega, by omega, Lt86, (by have h9 := kt86; rw [show na + 1 - 1 = na by omega, show no + 1 - 1 = no by omega] at h9; exact h9), stt86, (xFr.tr (xFr.t (xFr.t xFr.rf hg78 hs_a0 (by decide)) hg80 hs_a0 (by decide)) fst86), (xFr.tr (xFr.t (xFr.t xFr.rf hg78 hs_a0 (by decide)) hg80 hs_a0 (by decide)) ftt86)⟩⟩ (Nat.le_refl _) (Nat.le_refl _)

set_option maxHeartbeats 4000000 in
set_option maxRecDepth 100000 in
theorem m_readAll_3 (l : Launch) (D : va_G) (kA : Nat → ClassId) (b0 : Nat) (t0 : Nat → Nat) (S : xT) (g : xG) (a0 : Nat) (a1 : Nat) (x2 : Int) (na : Int) (no : Int) (nf : Int) (nq : Int) (wt : Nat) (wp : Nat) (ns : Int) (ws : Nat) (tk : Int → Int) (tl : Int → Int) (cn : Int) (L : List xS3) (b : Int) (s0 : Int → Int) (hs_a0 : S a0 = some (8, 0)) (hs_a1 : S a1 = some (11, 0)) (hx2 : 3 ≤ x2 ∧ x2 ≤ 3) (hna : 0 ≤ na ∧ na ≤ 300) (ena : g a0 2 = .int (iI na)) (hno : 0 ≤ no ∧ no ≤ 50) (eno : g a0 3 = .int (iI no)) (hnf : 0 ≤ nf ∧ nf ≤ 0) (enf : g a0 5 = .int (iI nf)) (hnq : 0 ≤ nq ∧ nq ≤ 300) (enq : g a0 6 = .int (iI nq)) (ewt : g a0 0 = .ref wt) (hs_wt : S wt = some (12900, 301)) (ewp : g a0 1 = .ref wp) (hs_wp : S wp = some (13000, 301)) (hns : 0 ≤ ns ∧ ns ≤ 100) (ens : g a1 2 = .int (iI ns)) (ews : g a1 7 = .ref ws) (hs_ws : S ws = some (14000, 100)) (hp0 : xTB (xv g wt) (xv g wp) tk tl cn) (hp1 : na ≤ cn) (hp2 : cn ≤ 300) (hp3 : xStq (xv g ws) s0 b ns L) (hp4 : 0 ≤ b) (hp5 : ns ≤ 2 * no) : xMt l yX7_readAll cX7_readAll 4 none 26 0 0 605 D kA b0 t0 [(8, 5), (8, 6), (8, 3), (8, 2), (14000, 0), (11, 2)] [.ref a0, .ref a1, .int (iI x2)] S g (fun (r : Option Value) (S1 : xT) (g1 : xG) => S = S1 ∧ r = none ∧ (∃ F a o q n : Int, g1 a0 5 = .int (iI F) ∧ -2147483648 ≤ F ∧ F ≤ 2147483647 ∧ g1 a0 2 = .int (iI a) ∧ 0 ≤ a ∧ a ≤ cn ∧ g1 a0 3 = .int (iI o) ∧ 0 ≤ o ∧ o ≤ 50 ∧ g1 a0 6 = .int (iI q) ∧ 0 ≤ q ∧ q ≤ 300 ∧ g1 a1 2 = .int (iI n) ∧ 0 ≤ n ∧ n ≤ 100 ∧ ∃ L1 : List xS3, xRC tk tl 1 3 na no L F a o q L1 ∧ (F = 0 → xStq (xv g1 ws) s0 b n L1) ∧ xFr 14000 S g g1 ws ∧ xFr 11 S g g1 a1)) := by
  refine xEnterV (by decide) (by simp [lg_sl, Value.category]) [(0, .ref a0), (1, .ref a1), (2, .int (iI x2))] rfl ?_
  intro K E hK hret _ _ _
  refine X_aloadn hK (i := 0) 0 kd29_0.1 rfl rfl ?_
  refine X_aloadn hK (i := 1) 1 kd29_0.2.1 rfl rfl ?_
  refine X_iloadn hK (i := 2) 2 kd29_0.2.2.1 rfl rfl ?_
  refine X_callV hK [.ref a1, .int (iI x2)] [] lk_X7_132 (m_readOne_3 _ _ _ _ _ S g a0 a1 x2 na no nf nq wt wp ns ws tk tl cn L b s0 hs_a0 hs_a1 (by omega) (by omega) ena (by omega) eno (by omega) enf (by omega) enq ewt hs_wt ewp hs_wp (by omega) ens ews hs_ws hp0 (by omega) (by omega) hp3 (by omega) (by omega)) hs_a0 ⟨by decide, rfl⟩ kd29_0.2.2.2.1 rfl rfl (by simp [Value.category]) (by decide) (by decide) (by decide) (by decide) (fun r1 S3 g2 pr1 qr1 hg2 => ?_)
  obtain ⟨rfl, rfl, k4⟩ := pr1
  refine X_st [] rfl ?_
  obtain ⟨Ft5, at5, ot5, qt5, nt5, eFt5, lFt5, uFt5, eat5, lat5, uat5, eot5, lot5, uot5, eqt5, lqt5, uqt5, ent5, lnt5, unt5, Lt5, kt5, stt5, fst5, ftt5⟩ := k4
  have cat5 : at5 ≤ 300 := (by omega)
  refine X_iconst hK kd29_0.2.2.2.2.1 ?_
  refine X_istoren hK (i := 3) [(3, .int (iI 0)), (0, .ref a0), (1, .ref a1), (2, .int (iI x2))] kd29_0.2.2.2.2.2.1 rfl (by decide) rfl ?_
  have P150 : ∀ (nP150 : Nat) (g122 : xG) (_ : xM [(14000, 0), (11, 2), (8, 5), (8, 6), (8, 3), (8, 2)] S g2 g122) (z121 : Int) (_ : 0 ≤ z121) (_ : z121 ≤ 50) (q123 : Int) (_ : 0 ≤ q123) (_ : q123 ≤ 300) (_ : g122 a0 2 = .int (iI q123)) (q124 : Int) (_ : 0 ≤ q124) (_ : q124 ≤ 50) (_ : g122 a0 3 = .int (iI q124)) (q125 : Int) (_ : (-2147483648) ≤ q125) (_ : q125 ≤ 2147483647) (_ : g122 a0 5 = .int (iI q125)) (q126 : Int) (_ : 0 ≤ q126) (_ : q126 ≤ 300) (_ : g122 a0 6 = .int (iI q126)) (q127 : Int) (_ : 0 ≤ q127) (_ : q127 ≤ 100) (_ : g122 a1 2 = .int (iI q127)) (_ : ∃ Li : List xS3, xIC tk tl 1 3 na no L q125 q123 q124 q126 Li ∧ (q125 = 0 → xStq (xv g122 ws) s0 b q127 Li ∧ q127 ≤ 2 * q124 - 1)) (_ : q125 = 0 → no + 1 + z121 ≤ q124) (_ : q123 ≤ cn) (_ : xFr 14000 S g g122 ws) (_ : xFr 11 S g g122 a1) (_ : 60 - z121 < (nP150 : Int)), X K E 8 [(3, .int (iI z121)), (0, .ref a0), (1, .ref a1), (2, .int (iI x2))] [] S g122 0 0 := by
    intro nP150
    induction nP150 with
    | zero => intro g122 hg122 z121 lz121 uz121 q123 lq123 uq123 eq123 q124 lq124 uq124 eq124 q125 lq125 uq125 eq125 q126 lq126 uq126 eq126 q127 lq127 uq127 eq127 v151 v152 v153 v154 v155 mP150; exact False.elim (by omega)
    | succ nP150 ihP150 =>
      intro g122 hg122 z121 lz121 uz121 q123 lq123 uq123 eq123 q124 lq124 uq124 eq124 q125 lq125 uq125 eq125 q126 lq126 uq126 eq126 q127 lq127 uq127 eq127 v151 v152 v153 v154 v155 mP150
      refine X_iloadn hK (i := 3) 0 kd29_0.2.2.2.2.2.2.1 rfl rfl ?_
      obtain ⟨Lij156, ij156, sj156⟩ := id v151
      have ivj156 : q125 = 0 → _ := fun h9 => (sj156 h9).1
      have nbj156 : q125 = 0 → q127 ≤ 2 * q124 - 1 := fun h9 => (sj156 h9).2
      refine X_bipush hK kd29_0.2.2.2.2.2.2.2.1 (by decide) ?_
      refine X_icmp_ge hK 60 (by omega) (by omega) kd29_0.2.2.2.2.2.2.2.2.1 (by decide) (fun c157 => ?_) (fun c157 => ?_)
      · exact hret _ _ _ _ _ _ kd29_2.2.2.2.2.2.2.2.2.2.1 ⟨rfl, rfl, ⟨q125, q123, q124, q126, q127, eq125, by omega, by omega, eq123, by omega, by omega, eq124, by omega, by omega, eq126, by omega, by omega, eq127, by omega, by omega, Lij156, (xIC.e ij156 (fun h9 => False.elim (by have h8 := v152 h9; omega))), (fun h9 => (sj156 h9).1), v154, v155⟩⟩ (Nat.le_refl _) (Nat.le_refl _)
      · refine X_aloadn hK (i := 0) 1 kd29_0.2.2.2.2.2.2.2.2.2.1 rfl rfl ?_
        refine X_getK hK fl_X7_29_8 hs_a0 eq125 kd29_0.2.2.2.2.2.2.2.2.2.2.1 ?_
        refine X_if_ne hK 60 (by omega) kd29_0.2.2.2.2.2.2.2.2.2.2.2 (by decide) (fun c158 => ?_) (fun c158 => ?_)
        · exact hret _ _ _ _ _ _ kd29_2.2.2.2.2.2.2.2.2.2.1 ⟨rfl, rfl, ⟨q125, q123, q124, q126, q127, eq125, by omega, by omega, eq123, by omega, by omega, eq124, by omega, by omega, eq126, by omega, by omega, eq127, by omega, by omega, Lij156, (xIC.e ij156 (fun h9 => False.elim (by have h8 := v152 h9; omega))), (fun h9 => (sj156 h9).1), v154, v155⟩⟩ (Nat.le_refl _) (Nat.le_refl _)
        · refine X_aloadn hK (i := 0) 1 kd29_1.1 rfl rfl ?_
          refine X_callV hK [] [] lk_X7_47 (c3_now _ _ _ _ _ S g122 a0 q123 wt wp tk tl cn hs_a0 (by omega) eq123 ((hg122 a0 8 0 0 hs_a0 (by decide)).trans ((hg2 a0 8 0 0 hs_a0 (by decide)).trans ewt)) hs_wt ((hg122 a0 8 0 1 hs_a0 (by decide)).trans ((hg2 a0 8 0 1 hs_a0 (by decide)).trans ewp)) hs_wp (by rw [(Eq.trans (xv_m hg122 hs_wt (by decide) (by decide)) (xv_m hg2 hs_wt (by decide) (by decide))), (Eq.trans (xv_m hg122 hs_wp (by decide) (by decide)) (xv_m hg2 hs_wp (by decide) (by decide)))]; exact hp0) (by omega) (by omega)) hs_a0 ⟨by decide, rfl⟩ kd29_1.2.1 rfl rfl (by simp [Value.category]) (by decide) (by decide) (by decide) (by decide) (fun r159 S161 g160 pr159 qr159 hg160 => ?_)
          obtain ⟨rfl, rfl, z162, rfl, lz162, uz162, k163⟩ := pr159
          refine X_st [.int (iI z162)] rfl ?_
          refine X_bipush hK kd29_1.2.2.1 (by decide) ?_
          refine X_icmp_ne hK 60 (by omega) (by omega) kd29_1.2.2.2.1 (by decide) (fun c164 => ?_) (fun c164 => ?_)
          · exact hret _ _ _ _ _ _ kd29_2.2.2.2.2.2.2.2.2.2.1 ⟨rfl, rfl, ⟨q125, q123, q124, q126, q127, eq125, by omega, by omega, eq123, by omega, by omega, eq124, by omega, by omega, eq126, by omega, by omega, eq127, by omega, by omega, Lij156, (xIC.e ij156 (fun h9 => Or.inl ⟨rfl, by rw [← k163]; omega⟩)), (fun h9 => (sj156 h9).1), v154, v155⟩⟩ (Nat.le_refl _) (Nat.le_refl _)
          · refine X_aloadn hK (i := 0) 1 kd29_1.2.2.2.2.1 rfl rfl ?_
            refine X_dup hK kd29_1.2.2.2.2.2.1 rfl ?_
            have hl165 := xTB.lt (A := xv g122 wt) (B := xv g122 wp) (tk := tk) (tl := tl) (c := cn) (a := q123) (by rw [(Eq.trans (xv_m hg122 hs_wt (by decide) (by decide)) (xv_m hg2 hs_wt (by decide) (by decide))), (Eq.trans (xv_m hg122 hs_wp (by decide) (by decide)) (xv_m hg2 hs_wp (by decide) (by decide)))]; exact hp0) (by omega) (by rw [← k163]; omega)
            refine X_getK hK fl_X7_18_8 hs_a0 eq123 kd29_1.2.2.2.2.2.2.1 ?_
            refine X_iconst hK kd29_1.2.2.2.2.2.2.2.1 ?_
            refine X_iadd hK kd29_1.2.2.2.2.2.2.2.2.1 ?_
            refine X_puti hK fl_X7_18_8 hs_a0 (by decide) sl_8_2 (by omega) (by omega) kd29_1.2.2.2.2.2.2.2.2.2.1 (fun g166 hg166 => ?_)
            refine X_aloadn hK (i := 0) 1 kd29_1.2.2.2.2.2.2.2.2.2.2.1 rfl rfl ?_
            refine X_aloadn hK (i := 1) 2 kd29_1.2.2.2.2.2.2.2.2.2.2.2 rfl rfl ?_
            refine X_iloadn hK (i := 2) 3 kd29_2.1 rfl rfl ?_
            refine X_callV hK [.ref a1, .int (iI x2)] [] lk_X7_132 (m_readOne_3 _ _ _ _ _ S g166 a0 a1 x2 (q123 + 1) q124 q125 q126 wt wp q127 ws tk tl cn Lij156 b s0 hs_a0 hs_a1 (by omega) (by omega) (xs_s hg166) (by omega) ((xs_k hg166 (by decide)).trans eq124) (by omega) ((xs_k hg166 (by decide)).trans eq125) (by omega) ((xs_k hg166 (by decide)).trans eq126) ((xs_k hg166 (by decide)).trans ((hg122 a0 8 0 0 hs_a0 (by decide)).trans ((hg2 a0 8 0 0 hs_a0 (by decide)).trans ewt))) hs_wt ((xs_k hg166 (by decide)).trans ((hg122 a0 8 0 1 hs_a0 (by decide)).trans ((hg2 a0 8 0 1 hs_a0 (by decide)).trans ewp))) hs_wp (by omega) ((xs_a hg166 (xne hs_a1 hs_a0 (by decide))).trans eq127) ((xs_k hg166 (by decide)).trans ((hg122 a1 11 0 7 hs_a1 (by decide)).trans ((hg2 a1 11 0 7 hs_a1 (by decide)).trans ews))) hs_ws (by rw [(Eq.trans (Eq.trans (xv_a hg166 (xne hs_wt hs_a0 (by decide))) (xv_m hg122 hs_wt (by decide) (by decide))) (xv_m hg2 hs_wt (by decide) (by decide))), (Eq.trans (Eq.trans (xv_a hg166 (xne hs_wp hs_a0 (by decide))) (xv_m hg122 hs_wp (by decide) (by decide))) (xv_m hg2 hs_wp (by decide) (by decide)))]; exact hp0) (by omega) (by omega) (by rw [(xv_a hg166 (xne hs_ws hs_a0 (by decide)))]; exact (ivj156 (by omega))) (by omega) (by omega)) hs_a0 ⟨by decide, rfl⟩ kd29_2.2.1 rfl rfl (by simp [Value.category]) (by decide) (by decide) (by decide) (by decide) (fun r167 S169 g168 pr167 qr167 hg168 => ?_)
            obtain ⟨rfl, rfl, k170⟩ := pr167
            refine X_st [] rfl ?_
            obtain ⟨Ft171, at171, ot171, qt171, nt171, eFt171, lFt171, uFt171, eat171, lat171, uat171, eot171, lot171, uot171, eqt171, lqt171, uqt171, ent171, lnt171, unt171, Lt171, kt171, stt171, fst171, ftt171⟩ := k170
            have cat171 : at171 ≤ 300 := (by omega)
            refine X_aloadn hK (i := 1) 2 kd29_2.2.2.1 rfl rfl ?_
            refine X_bipush hK kd29_2.2.2.2.1 (by decide) ?_
            refine X_iconst hK kd29_2.2.2.2.2.1 ?_
            refine X_iconst hK kd29_2.2.2.2.2.2.1 ?_
            refine X_callV hK [.int (iI 13), .int (iI 0), .int (iI 0)] [] lk_X7_129 (m_addStep _ _ _ _ _ S g168 a1 13 0 0 nt171 ws hs_a1 (by omega) (by omega) (by omega) (by omega) ent171 ((hg168 a1 11 0 7 hs_a1 (by decide)).trans ((xs_k hg166 (by decide)).trans ((hg122 a1 11 0 7 hs_a1 (by decide)).trans ((hg2 a1 11 0 7 hs_a1 (by decide)).trans ews)))) hs_ws) hs_a1 ⟨by decide, rfl⟩ kd29_2.2.2.2.2.2.2.1 rfl rfl (by simp [Value.category]) (by decide) (by decide) (by decide) (by decide) (fun r172 S174 g173 pr172 qr172 hg173 => ?_)
            obtain ⟨rfl, rfl, k175, k176, k177, k178⟩ := pr172
            refine X_st [] rfl ?_
            refine X_iinc hK (i := 3) (z := z121) (n := 1) 0 [(3, .int (iI (z121 + 1))), (0, .ref a0), (1, .ref a1), (2, .int (iI x2))] kd29_2.2.2.2.2.2.2.2.1 rfl (by decide) rfl ?_
            refine X_goto hK 8 kd29_2.2.2.2.2.2.2.2.2.1 (by decide) ?_
            exact ihP150  g173 (xM.tr (xM.tr (xM_up (xM.tr xM.rf xLe.rf hg122 (by decide)) hg166 hs_a0 (by decide) (by decide)) xLe.rf hg168 (by decide)) xLe.rf hg173 (by decide)) (z121 + 1) (by omega) (by omega) at171 (by omega) (by omega) ((hg173 a0 8 0 2 hs_a0 (by decide)).trans eat171) ot171 (by omega) (by omega) ((hg173 a0 8 0 3 hs_a0 (by decide)).trans eot171) Ft171 (by omega) (by omega) ((hg173 a0 8 0 5 hs_a0 (by decide)).trans eFt171) qt171 (by omega) (by omega) ((hg173 a0 8 0 6 hs_a0 (by decide)).trans eqt171) (if nt171 < 100 then nt171 + 1 else nt171) (by omega) (by omega) k175 ⟨Lt171 ++ [(13, 0, 0)], xIC.s (Or.inl ⟨rfl, rfl, rfl, (by rw [← k163]; omega)⟩) ij156 (by omega) kt171 (fun _ => rfl), fun h9 => by have h8 := xRC.b (by omega) kt171 h9; have h7 := (stt171 h9).1; have h6 := (sj156 (by omega)).1.1; have h5 := (sj156 (by omega)).2; exact ⟨(by have h9 := (xStq.add (x := (13, 0, 0)) (stt171 (by omega)) (by omega) (by have h4a := (k176.1 (by omega)).1; unfold xec9; (try dsimp only); omega) (k176.1 (by omega)).2); rw [if_pos (by omega)]; exact h9), by rw [if_pos (by omega)]; omega⟩⟩ (fun h9 => by have h8 := xRC.b (by omega) kt171 h9; omega) (by omega) (xFr.tr (xFr.tr (xFr.t v154 hg166 hs_a0 (by decide)) fst171) k177) (xFr.tr (xFr.tr (xFr.t v155 hg166 hs_a0 (by decide)) ftt171) k178) (by omega)
  exact P150 ((60 - 0 : Int).toNat + 1) g2 xM.rf 0 (by omega) (by omega) at5 (by omega) (by omega) eat5 ot5 (by omega) (by omega) eot5 Ft5 (by omega) (by omega) eFt5 qt5 (by omega) (by omega) eqt5 nt5 (by omega) (by omega) ent5 ⟨Lt5, xIC.z (Or.inl ⟨rfl, rfl⟩) kt5, fun h9 => ⟨stt5 h9, by have h8 := xRC.b (by omega) kt5 h9; have h7 := (stt5 h9).1; have h6 := hp3.1; omega⟩⟩ (fun h9 => by have h8 := xRC.b (by omega) kt5 h9; omega) (by omega) (xFr.tr xFr.rf fst5) (xFr.tr xFr.rf ftt5) (by omega)

set_option maxHeartbeats 4000000 in
set_option maxRecDepth 100000 in
theorem m_readCond_3 (l : Launch) (D : va_G) (kA : Nat → ClassId) (b0 : Nat) (t0 : Nat → Nat) (S : xT) (g : xG) (a0 : Nat) (a1 : Nat) (x2 : Int) (na : Int) (no : Int) (nf : Int) (nq : Int) (wt : Nat) (wp : Nat) (ns : Int) (ws : Nat) (tk : Int → Int) (tl : Int → Int) (cn : Int) (L : List xS3) (b : Int) (s0 : Int → Int) (hs_a0 : S a0 = some (8, 0)) (hs_a1 : S a1 = some (11, 0)) (hx2 : 3 ≤ x2 ∧ x2 ≤ 3) (hna : 0 ≤ na ∧ na ≤ 300) (ena : g a0 2 = .int (iI na)) (hno : 0 ≤ no ∧ no ≤ 50) (eno : g a0 3 = .int (iI no)) (hnf : 0 ≤ nf ∧ nf ≤ 0) (enf : g a0 5 = .int (iI nf)) (hnq : 0 ≤ nq ∧ nq ≤ 300) (enq : g a0 6 = .int (iI nq)) (ewt : g a0 0 = .ref wt) (hs_wt : S wt = some (12900, 301)) (ewp : g a0 1 = .ref wp) (hs_wp : S wp = some (13000, 301)) (hns : 0 ≤ ns ∧ ns ≤ 100) (ens : g a1 2 = .int (iI ns)) (ews : g a1 7 = .ref ws) (hs_ws : S ws = some (14000, 100)) (hp0 : xTB (xv g wt) (xv g wp) tk tl cn) (hp1 : na ≤ cn) (hp2 : cn ≤ 300) (hp3 : xStq (xv g ws) s0 b ns L) (hp4 : 0 ≤ b) (hp5 : ns ≤ 2 * no) : xMt l yX7_readCond cX7_readCond 4 none 27 0 0 628 D kA b0 t0 [(8, 5), (8, 6), (8, 3), (8, 2), (14000, 0), (11, 2)] [.ref a0, .ref a1, .int (iI x2)] S g (fun (r : Option Value) (S1 : xT) (g1 : xG) => S = S1 ∧ r = none ∧ (∃ F a o q n : Int, g1 a0 5 = .int (iI F) ∧ -2147483648 ≤ F ∧ F ≤ 2147483647 ∧ g1 a0 2 = .int (iI a) ∧ 0 ≤ a ∧ a ≤ cn ∧ g1 a0 3 = .int (iI o) ∧ 0 ≤ o ∧ o ≤ 50 ∧ g1 a0 6 = .int (iI q) ∧ 0 ≤ q ∧ q ≤ 300 ∧ g1 a1 2 = .int (iI n) ∧ 0 ≤ n ∧ n ≤ 100 ∧ ∃ L1 : List xS3, xRC tk tl 2 3 na no L F a o q L1 ∧ (F = 0 → xStq (xv g1 ws) s0 b n L1) ∧ xFr 14000 S g g1 ws ∧ xFr 11 S g g1 a1)) := by
  refine xEnterV (by decide) (by simp [lg_sl, Value.category]) [(0, .ref a0), (1, .ref a1), (2, .int (iI x2))] rfl ?_
  intro K E hK hret _ _ _
  refine X_aloadn hK (i := 0) 0 kd29_2.2.2.2.2.2.2.2.2.2.2.1 rfl rfl ?_
  refine X_aloadn hK (i := 1) 1 kd29_2.2.2.2.2.2.2.2.2.2.2.2 rfl rfl ?_
  refine X_iloadn hK (i := 2) 2 kd29_3.1 rfl rfl ?_
  refine X_callV hK [.ref a1, .int (iI x2)] [] lk_X7_126 (m_readAll_3 _ _ _ _ _ S g a0 a1 x2 na no nf nq wt wp ns ws tk tl cn L b s0 hs_a0 hs_a1 (by omega) (by omega) ena (by omega) eno (by omega) enf (by omega) enq ewt hs_wt ewp hs_wp (by omega) ens ews hs_ws hp0 (by omega) (by omega) hp3 (by omega) (by omega)) hs_a0 ⟨by decide, rfl⟩ kd29_3.2.1 rfl rfl (by simp [Value.category]) (by decide) (by decide) (by decide) (by decide) (fun r1 S3 g2 pr1 qr1 hg2 => ?_)
  obtain ⟨rfl, rfl, k4⟩ := pr1
  refine X_st [] rfl ?_
  obtain ⟨Ft5, at5, ot5, qt5, nt5, eFt5, lFt5, uFt5, eat5, lat5, uat5, eot5, lot5, uot5, eqt5, lqt5, uqt5, ent5, lnt5, unt5, Lt5, kt5, stt5, fst5, ftt5⟩ := k4
  have cat5 : at5 ≤ 300 := (by omega)
  refine X_iconst hK kd29_3.2.2.1 ?_
  refine X_istoren hK (i := 3) [(3, .int (iI 0)), (0, .ref a0), (1, .ref a1), (2, .int (iI x2))] kd29_3.2.2.2.1 rfl (by decide) rfl ?_
  have P150 : ∀ (nP150 : Nat) (g122 : xG) (_ : xM [(14000, 0), (11, 2), (8, 5), (8, 6), (8, 3), (8, 2)] S g2 g122) (z121 : Int) (_ : 0 ≤ z121) (_ : z121 ≤ 50) (q123 : Int) (_ : 0 ≤ q123) (_ : q123 ≤ 300) (_ : g122 a0 2 = .int (iI q123)) (q124 : Int) (_ : 0 ≤ q124) (_ : q124 ≤ 50) (_ : g122 a0 3 = .int (iI q124)) (q125 : Int) (_ : (-2147483648) ≤ q125) (_ : q125 ≤ 2147483647) (_ : g122 a0 5 = .int (iI q125)) (q126 : Int) (_ : 0 ≤ q126) (_ : q126 ≤ 300) (_ : g122 a0 6 = .int (iI q126)) (q127 : Int) (_ : 0 ≤ q127) (_ : q127 ≤ 100) (_ : g122 a1 2 = .int (iI q127)) (_ : ∃ Li : List xS3, xIC tk tl 2 3 na no L q125 q123 q124 q126 Li ∧ (q125 = 0 → xStq (xv g122 ws) s0 b q127 Li ∧ q127 ≤ 2 * q124 - 1)) (_ : q125 = 0 → no + 1 + z121 ≤ q124) (_ : q123 ≤ cn) (_ : xFr 14000 S g g122 ws) (_ : xFr 11 S g g122 a1) (_ : 60 - z121 < (nP150 : Int)), X K E 8 [(3, .int (iI z121)), (0, .ref a0), (1, .ref a1), (2, .int (iI x2))] [] S g122 0 0 := by
    intro nP150
    induction nP150 with
    | zero => intro g122 hg122 z121 lz121 uz121 q123 lq123 uq123 eq123 q124 lq124 uq124 eq124 q125 lq125 uq125 eq125 q126 lq126 uq126 eq126 q127 lq127 uq127 eq127 v151 v152 v153 v154 v155 mP150; exact False.elim (by omega)
    | succ nP150 ihP150 =>
      intro g122 hg122 z121 lz121 uz121 q123 lq123 uq123 eq123 q124 lq124 uq124 eq124 q125 lq125 uq125 eq125 q126 lq126 uq126 eq126 q127 lq127 uq127 eq127 v151 v152 v153 v154 v155 mP150
      refine X_iloadn hK (i := 3) 0 kd29_3.2.2.2.2.1 rfl rfl ?_
      obtain ⟨Lij156, ij156, sj156⟩ := id v151
      have ivj156 : q125 = 0 → _ := fun h9 => (sj156 h9).1
      have nbj156 : q125 = 0 → q127 ≤ 2 * q124 - 1 := fun h9 => (sj156 h9).2
      refine X_bipush hK kd29_3.2.2.2.2.2.1 (by decide) ?_
      refine X_icmp_ge hK 60 (by omega) (by omega) kd29_3.2.2.2.2.2.2.1 (by decide) (fun c157 => ?_) (fun c157 => ?_)
      · exact hret _ _ _ _ _ _ kd29_5.2.2.2.2.2.2.2.1 ⟨rfl, rfl, ⟨q125, q123, q124, q126, q127, eq125, by omega, by omega, eq123, by omega, by omega, eq124, by omega, by omega, eq126, by omega, by omega, eq127, by omega, by omega, Lij156, (xIC.e ij156 (fun h9 => False.elim (by have h8 := v152 h9; omega))), (fun h9 => (sj156 h9).1), v154, v155⟩⟩ (Nat.le_refl _) (Nat.le_refl _)
      · refine X_aloadn hK (i := 0) 1 kd29_3.2.2.2.2.2.2.2.1 rfl rfl ?_
        refine X_getK hK fl_X7_29_8 hs_a0 eq125 kd29_3.2.2.2.2.2.2.2.2.1 ?_
        refine X_if_ne hK 60 (by omega) kd29_3.2.2.2.2.2.2.2.2.2.1 (by decide) (fun c158 => ?_) (fun c158 => ?_)
        · exact hret _ _ _ _ _ _ kd29_5.2.2.2.2.2.2.2.1 ⟨rfl, rfl, ⟨q125, q123, q124, q126, q127, eq125, by omega, by omega, eq123, by omega, by omega, eq124, by omega, by omega, eq126, by omega, by omega, eq127, by omega, by omega, Lij156, (xIC.e ij156 (fun h9 => False.elim (by have h8 := v152 h9; omega))), (fun h9 => (sj156 h9).1), v154, v155⟩⟩ (Nat.le_refl _) (Nat.le_refl _)
        · refine X_aloadn hK (i := 0) 1 kd29_3.2.2.2.2.2.2.2.2.2.2.1 rfl rfl ?_
          refine X_callV hK [] [] lk_X7_47 (c3_now _ _ _ _ _ S g122 a0 q123 wt wp tk tl cn hs_a0 (by omega) eq123 ((hg122 a0 8 0 0 hs_a0 (by decide)).trans ((hg2 a0 8 0 0 hs_a0 (by decide)).trans ewt)) hs_wt ((hg122 a0 8 0 1 hs_a0 (by decide)).trans ((hg2 a0 8 0 1 hs_a0 (by decide)).trans ewp)) hs_wp (by rw [(Eq.trans (xv_m hg122 hs_wt (by decide) (by decide)) (xv_m hg2 hs_wt (by decide) (by decide))), (Eq.trans (xv_m hg122 hs_wp (by decide) (by decide)) (xv_m hg2 hs_wp (by decide) (by decide)))]; exact hp0) (by omega) (by omega)) hs_a0 ⟨by decide, rfl⟩ kd29_3.2.2.2.2.2.2.2.2.2.2.2 rfl rfl (by simp [Value.category]) (by decide) (by decide) (by decide) (by decide) (fun r159 S161 g160 pr159 qr159 hg160 => ?_)
          obtain ⟨rfl, rfl, z162, rfl, lz162, uz162, k163⟩ := pr159
          refine X_st [.int (iI z162)] rfl ?_
          refine X_bipush hK kd29_4.1 (by decide) ?_
          refine X_icmp_ne hK 60 (by omega) (by omega) kd29_4.2.1 (by decide) (fun c164 => ?_) (fun c164 => ?_)
          · exact hret _ _ _ _ _ _ kd29_5.2.2.2.2.2.2.2.1 ⟨rfl, rfl, ⟨q125, q123, q124, q126, q127, eq125, by omega, by omega, eq123, by omega, by omega, eq124, by omega, by omega, eq126, by omega, by omega, eq127, by omega, by omega, Lij156, (xIC.e ij156 (fun h9 => Or.inr ⟨rfl, by rw [← k163]; omega⟩)), (fun h9 => (sj156 h9).1), v154, v155⟩⟩ (Nat.le_refl _) (Nat.le_refl _)
          · refine X_aloadn hK (i := 0) 1 kd29_4.2.2.1 rfl rfl ?_
            refine X_dup hK kd29_4.2.2.2.1 rfl ?_
            have hl165 := xTB.lt (A := xv g122 wt) (B := xv g122 wp) (tk := tk) (tl := tl) (c := cn) (a := q123) (by rw [(Eq.trans (xv_m hg122 hs_wt (by decide) (by decide)) (xv_m hg2 hs_wt (by decide) (by decide))), (Eq.trans (xv_m hg122 hs_wp (by decide) (by decide)) (xv_m hg2 hs_wp (by decide) (by decide)))]; exact hp0) (by omega) (by rw [← k163]; omega)
            refine X_getK hK fl_X7_18_8 hs_a0 eq123 kd29_4.2.2.2.2.1 ?_
            refine X_iconst hK kd29_4.2.2.2.2.2.1 ?_
            refine X_iadd hK kd29_4.2.2.2.2.2.2.1 ?_
            refine X_puti hK fl_X7_18_8 hs_a0 (by decide) sl_8_2 (by omega) (by omega) kd29_4.2.2.2.2.2.2.2.1 (fun g166 hg166 => ?_)
            refine X_aloadn hK (i := 0) 1 kd29_4.2.2.2.2.2.2.2.2.1 rfl rfl ?_
            refine X_aloadn hK (i := 1) 2 kd29_4.2.2.2.2.2.2.2.2.2.1 rfl rfl ?_
            refine X_iloadn hK (i := 2) 3 kd29_4.2.2.2.2.2.2.2.2.2.2.1 rfl rfl ?_
            refine X_callV hK [.ref a1, .int (iI x2)] [] lk_X7_126 (m_readAll_3 _ _ _ _ _ S g166 a0 a1 x2 (q123 + 1) q124 q125 q126 wt wp q127 ws tk tl cn Lij156 b s0 hs_a0 hs_a1 (by omega) (by omega) (xs_s hg166) (by omega) ((xs_k hg166 (by decide)).trans eq124) (by omega) ((xs_k hg166 (by decide)).trans eq125) (by omega) ((xs_k hg166 (by decide)).trans eq126) ((xs_k hg166 (by decide)).trans ((hg122 a0 8 0 0 hs_a0 (by decide)).trans ((hg2 a0 8 0 0 hs_a0 (by decide)).trans ewt))) hs_wt ((xs_k hg166 (by decide)).trans ((hg122 a0 8 0 1 hs_a0 (by decide)).trans ((hg2 a0 8 0 1 hs_a0 (by decide)).trans ewp))) hs_wp (by omega) ((xs_a hg166 (xne hs_a1 hs_a0 (by decide))).trans eq127) ((xs_k hg166 (by decide)).trans ((hg122 a1 11 0 7 hs_a1 (by decide)).trans ((hg2 a1 11 0 7 hs_a1 (by decide)).trans ews))) hs_ws (by rw [(Eq.trans (Eq.trans (xv_a hg166 (xne hs_wt hs_a0 (by decide))) (xv_m hg122 hs_wt (by decide) (by decide))) (xv_m hg2 hs_wt (by decide) (by decide))), (Eq.trans (Eq.trans (xv_a hg166 (xne hs_wp hs_a0 (by decide))) (xv_m hg122 hs_wp (by decide) (by decide))) (xv_m hg2 hs_wp (by decide) (by decide)))]; exact hp0) (by omega) (by omega) (by rw [(xv_a hg166 (xne hs_ws hs_a0 (by decide)))]; exact (ivj156 (by omega))) (by omega) (by omega)) hs_a0 ⟨by decide, rfl⟩ kd29_4.2.2.2.2.2.2.2.2.2.2.2 rfl rfl (by simp [Value.category]) (by decide) (by decide) (by decide) (by decide) (fun r167 S169 g168 pr167 qr167 hg168 => ?_)
            obtain ⟨rfl, rfl, k170⟩ := pr167
            refine X_st [] rfl ?_
            obtain ⟨Ft171, at171, ot171, qt171, nt171, eFt171, lFt171, uFt171, eat171, lat171, uat171, eot171, lot171, uot171, eqt171, lqt171, uqt171, ent171, lnt171, unt171, Lt171, kt171, stt171, fst171, ftt171⟩ := k170
            have cat171 : at171 ≤ 300 := (by omega)
            refine X_aloadn hK (i := 1) 2 kd29_5.1 rfl rfl ?_
            refine X_bipush hK kd29_5.2.1 (by decide) ?_
            refine X_iconst hK kd29_5.2.2.1 ?_
            refine X_iconst hK kd29_5.2.2.2.1 ?_
            refine X_callV hK [.int (iI 14), .int (iI 0), .int (iI 0)] [] lk_X7_129 (m_addStep _ _ _ _ _ S g168 a1 14 0 0 nt171 ws hs_a1 (by omega) (by omega) (by omega) (by omega) ent171 ((hg168 a1 11 0 7 hs_a1 (by decide)).trans ((xs_k hg166 (by decide)).trans ((hg122 a1 11 0 7 hs_a1 (by decide)).trans ((hg2 a1 11 0 7 hs_a1 (by decide)).trans ews)))) hs_ws) hs_a1 ⟨by decide, rfl⟩ kd29_5.2.2.2.2.1 rfl rfl (by simp [Value.category]) (by decide) (by decide) (by decide) (by decide) (fun r172 S174 g173 pr172 qr172 hg173 => ?_)
            obtain ⟨rfl, rfl, k175, k176, k177, k178⟩ := pr172
            refine X_st [] rfl ?_
            refine X_iinc hK (i := 3) (z := z121) (n := 1) 0 [(3, .int (iI (z121 + 1))), (0, .ref a0), (1, .ref a1), (2, .int (iI x2))] kd29_5.2.2.2.2.2.1 rfl (by decide) rfl ?_
            refine X_goto hK 8 kd29_5.2.2.2.2.2.2.1 (by decide) ?_
            exact ihP150  g173 (xM.tr (xM.tr (xM_up (xM.tr xM.rf xLe.rf hg122 (by decide)) hg166 hs_a0 (by decide) (by decide)) xLe.rf hg168 (by decide)) xLe.rf hg173 (by decide)) (z121 + 1) (by omega) (by omega) at171 (by omega) (by omega) ((hg173 a0 8 0 2 hs_a0 (by decide)).trans eat171) ot171 (by omega) (by omega) ((hg173 a0 8 0 3 hs_a0 (by decide)).trans eot171) Ft171 (by omega) (by omega) ((hg173 a0 8 0 5 hs_a0 (by decide)).trans eFt171) qt171 (by omega) (by omega) ((hg173 a0 8 0 6 hs_a0 (by decide)).trans eqt171) (if nt171 < 100 then nt171 + 1 else nt171) (by omega) (by omega) k175 ⟨Lt171 ++ [(14, 0, 0)], xIC.s (Or.inr ⟨rfl, rfl, rfl, (by rw [← k163]; omega)⟩) ij156 (by omega) kt171 (fun _ => rfl), fun h9 => by have h8 := xRC.b (by omega) kt171 h9; have h7 := (stt171 h9).1; have h6 := (sj156 (by omega)).1.1; have h5 := (sj156 (by omega)).2; exact ⟨(by have h9 := (xStq.add (x := (14, 0, 0)) (stt171 (by omega)) (by omega) (by have h4a := (k176.1 (by omega)).1; unfold xec9; (try dsimp only); omega) (k176.1 (by omega)).2); rw [if_pos (by omega)]; exact h9), by rw [if_pos (by omega)]; omega⟩⟩ (fun h9 => by have h8 := xRC.b (by omega) kt171 h9; omega) (by omega) (xFr.tr (xFr.tr (xFr.t v154 hg166 hs_a0 (by decide)) fst171) k177) (xFr.tr (xFr.tr (xFr.t v155 hg166 hs_a0 (by decide)) ftt171) k178) (by omega)
  exact P150 ((60 - 0 : Int).toNat + 1) g2 xM.rf 0 (by omega) (by omega) at5 (by omega) (by omega) eat5 ot5 (by omega) (by omega) eot5 Ft5 (by omega) (by omega) eFt5 qt5 (by omega) (by omega) eqt5 nt5 (by omega) (by omega) ent5 ⟨Lt5, xIC.z (Or.inr ⟨rfl, rfl⟩) kt5, fun h9 => ⟨stt5 h9, by have h8 := xRC.b (by omega) kt5 h9; have h7 := (stt5 h9).1; have h6 := hp3.1; omega⟩⟩ (fun h9 => by have h8 := xRC.b (by omega) kt5 h9; omega) (by omega) (xFr.tr xFr.rf fst5) (xFr.tr xFr.rf ftt5) (by omega)

set_option maxHeartbeats 4000000 in
set_option maxRecDepth 100000 in
theorem m_readOne_2 (l : Launch) (D : va_G) (kA : Nat → ClassId) (b0 : Nat) (t0 : Nat → Nat) (S : xT) (g : xG) (a0 : Nat) (a1 : Nat) (x2 : Int) (na : Int) (no : Int) (nf : Int) (nq : Int) (wt : Nat) (wp : Nat) (ns : Int) (ws : Nat) (tk : Int → Int) (tl : Int → Int) (cn : Int) (L : List xS3) (b : Int) (s0 : Int → Int) (hs_a0 : S a0 = some (8, 0)) (hs_a1 : S a1 = some (11, 0)) (hx2 : 2 ≤ x2 ∧ x2 ≤ 2) (hna : 0 ≤ na ∧ na ≤ 300) (ena : g a0 2 = .int (iI na)) (hno : 0 ≤ no ∧ no ≤ 50) (eno : g a0 3 = .int (iI no)) (hnf : 0 ≤ nf ∧ nf ≤ 0) (enf : g a0 5 = .int (iI nf)) (hnq : 0 ≤ nq ∧ nq ≤ 300) (enq : g a0 6 = .int (iI nq)) (ewt : g a0 0 = .ref wt) (hs_wt : S wt = some (12900, 301)) (ewp : g a0 1 = .ref wp) (hs_wp : S wp = some (13000, 301)) (hns : 0 ≤ ns ∧ ns ≤ 100) (ens : g a1 2 = .int (iI ns)) (ews : g a1 7 = .ref ws) (hs_ws : S ws = some (14000, 100)) (hp0 : xTB (xv g wt) (xv g wp) tk tl cn) (hp1 : na ≤ cn) (hp2 : cn ≤ 300) (hp3 : xStq (xv g ws) s0 b ns L) (hp4 : 0 ≤ b) (hp5 : ns ≤ 2 * no) : xMt l yX7_readOne cX7_readOne 5 none 28 0 0 651 D kA b0 t0 [(8, 5), (8, 6), (8, 3), (8, 2), (14000, 0), (11, 2)] [.ref a0, .ref a1, .int (iI x2)] S g (fun (r : Option Value) (S1 : xT) (g1 : xG) => S = S1 ∧ r = none ∧ (∃ F a o q n : Int, g1 a0 5 = .int (iI F) ∧ -2147483648 ≤ F ∧ F ≤ 2147483647 ∧ g1 a0 2 = .int (iI a) ∧ 0 ≤ a ∧ a ≤ cn ∧ g1 a0 3 = .int (iI o) ∧ 0 ≤ o ∧ o ≤ 50 ∧ g1 a0 6 = .int (iI q) ∧ 0 ≤ q ∧ q ≤ 300 ∧ g1 a1 2 = .int (iI n) ∧ 0 ≤ n ∧ n ≤ 100 ∧ ∃ L1 : List xS3, xRC tk tl 0 2 na no L F a o q L1 ∧ (F = 0 → xStq (xv g1 ws) s0 b n L1) ∧ xFr 14000 S g g1 ws ∧ xFr 11 S g g1 a1)) := by
  refine xEnterV (by decide) (by simp [lg_sl, Value.category]) [(0, .ref a0), (1, .ref a1), (2, .int (iI x2))] rfl ?_
  intro K E hK hret _ _ _
  refine X_aloadn hK (i := 0) 0 kd29_20.2.2.2.2.2.2.1 rfl rfl ?_
  refine X_callV hK [] [] lk_X7_47 (c3_now _ _ _ _ _ S g a0 na wt wp tk tl cn hs_a0 (by omega) ena ewt hs_wt ewp hs_wp hp0 (by omega) (by omega)) hs_a0 ⟨by decide, rfl⟩ kd29_20.2.2.2.2.2.2.2.1 rfl rfl (by simp [Value.category]) (by decide) (by decide) (by decide) (by decide) (fun r1 S3 g2 pr1 qr1 hg2 => ?_)
  obtain ⟨rfl, rfl, z4, rfl, lz4, uz4, k5⟩ := pr1
  refine X_st [.int (iI z4)] rfl ?_
  refine X_istoren hK (i := 3) [(3, .int (iI z4)), (0, .ref a0), (1, .ref a1), (2, .int (iI x2))] kd29_20.2.2.2.2.2.2.2.2.1 rfl (by decide) rfl ?_
  refine X_iloadn hK (i := 3) 0 kd29_20.2.2.2.2.2.2.2.2.2.1 rfl rfl ?_
  refine X_bipush hK kd29_20.2.2.2.2.2.2.2.2.2.2.1 (by decide) ?_
  refine X_icmp_lt hK 21 (by omega) (by omega) kd29_20.2.2.2.2.2.2.2.2.2.2.2 (by decide) (fun c6 => ?_) (fun c6 => ?_)
  · refine X_iconst hK kd29_21.2.2.2.2.2.1 ?_
    refine X_istore hK (i := 4) [(4, .int (iI 0)), (3, .int (iI z4)), (0, .ref a0), (1, .ref a1), (2, .int (iI x2))] kd29_21.2.2.2.2.2.2.1 (by decide) rfl ?_
    refine X_iload hK (i := 4) 0 kd29_21.2.2.2.2.2.2.2.1 rfl ?_
    refine X_if_ne hK 49 (by omega) kd29_21.2.2.2.2.2.2.2.2.1 (by decide) (fun c7 => False.elim (by omega)) (fun c7 => ?_)
    refine X_iloadn hK (i := 3) 1 kd29_21.2.2.2.2.2.2.2.2.2.1 rfl rfl ?_
    refine X_bipush hK kd29_21.2.2.2.2.2.2.2.2.2.2.1 (by decide) ?_
    refine X_icmp_eq hK 49 (by omega) (by omega) kd29_21.2.2.2.2.2.2.2.2.2.2.2 (by decide) (fun c8 => ?_) (fun c8 => ?_)
    · refine X_aloadn hK (i := 0) 2 kd29_22.2.2.2.2.2.2.2.1 rfl rfl ?_
      refine X_getK hK fl_X7_22_8 hs_a0 eno kd29_22.2.2.2.2.2.2.2.2.1 ?_
      refine X_bipush hK kd29_22.2.2.2.2.2.2.2.2.2.1 (by decide) ?_
      refine X_icmp_ge hK 64 (by omega) (by omega) kd29_22.2.2.2.2.2.2.2.2.2.2.1 (by decide) (fun c9 => ?_) (fun c9 => ?_)
      · refine X_aloadn hK (i := 0) 2 kd29_23.2.2.1 rfl rfl ?_
        refine X_iconst hK kd29_23.2.2.2.1 ?_
        refine X_callV hK [.int (iI 4)] [] lk_X7_60 (c3_tell _ _ _ _ _ S g a0 4 na no nf nq wt wp tk tl cn hs_a0 (by omega) (by omega) ena (by omega) eno (by omega) enf (by omega) enq ewt hs_wt ewp hs_wp hp0 (by omega) (by omega)) hs_a0 ⟨by decide, rfl⟩ kd29_23.2.2.2.2.1 rfl rfl (by simp [Value.category]) (by decide) (by decide) (by decide) (by decide) (fun r10 S12 g11 pr10 qr10 hg11 => ?_)
        obtain ⟨rfl, rfl, k13⟩ := pr10
        refine X_st [] rfl ?_
        obtain ⟨Ft14, at14, ot14, qt14, eFt14, lFt14, uFt14, eat14, lat14, uat14, eot14, lot14, uot14, eqt14, lqt14, uqt14, kt14⟩ := k13
        have cat14 : at14 ≤ 300 := by have h9 := (show xTB (xv g11 wt) (xv g11 wp) tk tl cn from (by rw [(xv_m hg11 hs_wt (by decide) (by decide)), (xv_m hg11 hs_wp (by decide) (by decide))]; exact hp0)).2.2.2; omega
        refine X_goto hK 148 kd29_23.2.2.2.2.2.1 (by decide) ?_
        exact hret _ _ _ _ _ _ kd29_27.2.2.2 ⟨rfl, rfl, ⟨Ft14, at14, ot14, qt14, ns, eFt14, by omega, by omega, eat14, by omega, by omega, eot14, by omega, by omega, eqt14, by omega, by omega, ((hg11 a1 11 0 2 hs_a1 (by decide)).trans ens), by omega, by omega, [], (by obtain ⟨h8, h7, h6⟩ := kt14; have h5 := h8.resolve_left (fun q9 => by omega); rw [h5.2.1]; exact xRC.f4 (by rw [← k5]; omega) (by omega) h5.2.2), (fun h9 => by have h8 := kt14; omega), (xFr.m xFr.rf hg11 (by decide)), (xFr.m xFr.rf hg11 (by decide))⟩⟩ (Nat.le_refl _) (Nat.le_refl _)
      · refine X_iloadn hK (i := 2) 4 kd29_22.2.2.2.2.2.2.2.2.2.2.2 rfl rfl ?_
        refine X_bipush hK kd29_23.1 (by decide) ?_
        refine X_icmp_le hK 72 (by omega) (by omega) kd29_23.2.1 (by decide) (fun c15 => ?_) (fun c15 => False.elim (by omega))
        refine X_aloadn hK (i := 0) 2 kd29_23.2.2.2.2.2.2.1 rfl rfl ?_
        refine X_dup hK kd29_23.2.2.2.2.2.2.2.1 rfl ?_
        refine X_getK hK fl_X7_22_8 hs_a0 eno kd29_23.2.2.2.2.2.2.2.2.1 ?_
        refine X_iconst hK kd29_23.2.2.2.2.2.2.2.2.2.1 ?_
        refine X_iadd hK kd29_23.2.2.2.2.2.2.2.2.2.2.1 ?_
        refine X_puti hK fl_X7_22_8 hs_a0 (by decide) sl_8_3 (by omega) (by omega) kd29_23.2.2.2.2.2.2.2.2.2.2.2 (fun g16 hg16 => ?_)
        refine X_aloadn hK (i := 0) 2 kd29_24.1 rfl rfl ?_
        refine X_dup hK kd29_24.2.1 rfl ?_
        have hl17 := xTB.lt (A := xv g16 wt) (B := xv g16 wp) (tk := tk) (tl := tl) (c := cn) (a := na) (by rw [(xv_a hg16 (xne hs_wt hs_a0 (by decide))), (xv_a hg16 (xne hs_wp hs_a0 (by decide)))]; exact hp0) (by omega) (by rw [← k5]; omega)
        refine X_getK hK fl_X7_18_8 hs_a0 ((xs_k hg16 (by decide)).trans ena) kd29_24.2.2.1 ?_
        refine X_iconst hK kd29_24.2.2.2.1 ?_
        refine X_iadd hK kd29_24.2.2.2.2.1 ?_
        refine X_puti hK fl_X7_18_8 hs_a0 (by decide) sl_8_2 (by omega) (by omega) kd29_24.2.2.2.2.2.1 (fun g18 hg18 => ?_)
        refine X_iload hK (i := 4) 0 kd29_24.2.2.2.2.2.2.1 rfl ?_
        refine X_if_eq hK 109 (by omega) kd29_24.2.2.2.2.2.2.2.1 (by decide) (fun c19 => ?_) (fun c19 => False.elim (by omega))
        refine X_iloadn hK (i := 3) 1 kd29_25.2.2.2.1 rfl rfl ?_
        refine X_bipush hK kd29_25.2.2.2.2.1 (by decide) ?_
        refine X_icmp_ne hK 132 (by omega) (by omega) kd29_25.2.2.2.2.2.1 (by decide) (fun c20 => ?_) (fun c20 => False.elim (by omega))
        refine X_aloadn hK (i := 0) 2 kd29_26.2.2.2.2.1 rfl rfl ?_
        refine X_aloadn hK (i := 1) 3 kd29_26.2.2.2.2.2.1 rfl rfl ?_
        refine X_iloadn hK (i := 2) 4 kd29_26.2.2.2.2.2.2.1 rfl rfl ?_
        refine X_iconst hK kd29_26.2.2.2.2.2.2.2.1 ?_
        refine X_iadd hK kd29_26.2.2.2.2.2.2.2.2.1 ?_
        refine X_callV hK [.ref a1, .int (iI (x2 + 1))] [] lk_X7_132 (m_readOne_3 _ _ _ _ _ S g18 a0 a1 (x2 + 1) (na + 1) (no + 1) nf nq wt wp ns ws tk tl cn L b s0 hs_a0 hs_a1 (by omega) (by omega) (xs_s hg18) (by omega) ((xs_k hg18 (by decide)).trans (xs_s hg16)) (by omega) ((xs_k hg18 (by decide)).trans ((xs_k hg16 (by decide)).trans enf)) (by omega) ((xs_k hg18 (by decide)).trans ((xs_k hg16 (by decide)).trans enq)) ((xs_k hg18 (by decide)).trans ((xs_k hg16 (by decide)).trans ewt)) hs_wt ((xs_k hg18 (by decide)).trans ((xs_k hg16 (by decide)).trans ewp)) hs_wp (by omega) ((xs_a hg18 (xne hs_a1 hs_a0 (by decide))).trans ((xs_k hg16 (by decide)).trans ens)) ((xs_k hg18 (by decide)).trans ((xs_k hg16 (by decide)).trans ews)) hs_ws (by rw [(Eq.trans (xv_a hg18 (xne hs_wt hs_a0 (by decide))) (xv_a hg16 (xne hs_wt hs_a0 (by decide)))), (Eq.trans (xv_a hg18 (xne hs_wp hs_a0 (by decide))) (xv_a hg16 (xne hs_wp hs_a0 (by decide))))]; exact hp0) (by omega) (by omega) (by rw [(Eq.trans (xv_a hg18 (xne hs_ws hs_a0 (by decide))) (xv_a hg16 (xne hs_ws hs_a0 (by decide))))]; exact hp3) (by omega) (by omega)) hs_a0 ⟨by decide, rfl⟩ kd29_26.2.2.2.2.2.2.2.2.2.1 rfl rfl (by simp [Value.category]) (by decide) (by decide) (by decide) (by decide) (fun r21 S23 g22 pr21 qr21 hg22 => ?_)
        obtain ⟨rfl, rfl, k24⟩ := pr21
        refine X_st [] rfl ?_
        obtain ⟨Ft25, at25, ot25, qt25, nt25, eFt25, lFt25, uFt25, eat25, lat25, uat25, eot25, lot25, uot25, eqt25, lqt25, uqt25, ent25, lnt25, unt25, Lt25, kt25, stt25, fst25, ftt25⟩ := k24
        have cat25 : at25 ≤ 300 := (by omega)
        refine X_aloadn hK (i := 1) 3 kd29_26.2.2.2.2.2.2.2.2.2.2.1 rfl rfl ?_
        refine X_bipush hK kd29_26.2.2.2.2.2.2.2.2.2.2.2 (by decide) ?_
        refine X_iconst hK kd29_27.1 ?_
        refine X_iconst hK kd29_27.2.1 ?_
        refine X_callV hK [.int (iI 12), .int (iI 0), .int (iI 0)] [] lk_X7_129 (m_addStep _ _ _ _ _ S g22 a1 12 0 0 nt25 ws hs_a1 (by omega) (by omega) (by omega) (by omega) ent25 ((hg22 a1 11 0 7 hs_a1 (by decide)).trans ((xs_k hg18 (by decide)).trans ((xs_k hg16 (by decide)).trans ews))) hs_ws) hs_a1 ⟨by decide, rfl⟩ kd29_27.2.2.1 rfl rfl (by simp [Value.category]) (by decide) (by decide) (by decide) (by decide) (fun r26 S28 g27 pr26 qr26 hg27 => ?_)
        obtain ⟨rfl, rfl, k29, k30, k31, k32⟩ := pr26
        refine X_st [] rfl ?_
        exact hret _ _ _ _ _ _ kd29_27.2.2.2 ⟨rfl, rfl, ⟨Ft25, at25, ot25, qt25, (if nt25 < 100 then nt25 + 1 else nt25), ((hg27 a0 8 0 5 hs_a0 (by decide)).trans eFt25), by omega, by omega, ((hg27 a0 8 0 2 hs_a0 (by decide)).trans eat25), by omega, by omega, ((hg27 a0 8 0 3 hs_a0 (by decide)).trans eot25), by omega, by omega, ((hg27 a0 8 0 6 hs_a0 (by decide)).trans eqt25), by omega, by omega, k29, by omega, by omega, (Lt25 ++ [(12, 0, 0)]), (xRC.nt (by rw [← k5]; omega) (by omega) kt25 (fun _ => rfl)), (fun h9 => by have h6 := xRC.b (by omega) kt25 h9; have h5 := (stt25 h9).1; have h4 := hp3.1; exact (by have h9 := (xStq.add (x := (12, 0, 0)) (stt25 (by omega)) (by omega) (by have h4a := (k30.1 (by omega)).1; unfold xec9; (try dsimp only); omega) (k30.1 (by omega)).2); rw [if_pos (by omega)]; exact h9)), (xFr.tr (xFr.tr (xFr.t (xFr.t xFr.rf hg16 hs_a0 (by decide)) hg18 hs_a0 (by decide)) fst25) k31), (xFr.tr (xFr.tr (xFr.t (xFr.t xFr.rf hg16 hs_a0 (by decide)) hg18 hs_a0 (by decide)) ftt25) k32)⟩⟩ (Nat.le_refl _) (Nat.le_refl _)
    · refine X_iloadn hK (i := 3) 1 kd29_22.1 rfl rfl ?_
      refine X_bipush hK kd29_22.2.1 (by decide) ?_
      refine X_icmp_eq hK 49 (by omega) (by omega) kd29_22.2.2.1 (by decide) (fun c33 => False.elim (by omega)) (fun c33 => ?_)
      refine X_aloadn hK (i := 0) 2 kd29_22.2.2.2.1 rfl rfl ?_
      refine X_iconst hK kd29_22.2.2.2.2.1 ?_
      refine X_callV hK [.int (iI 1)] [] lk_X7_60 (c3_tell _ _ _ _ _ S g a0 1 na no nf nq wt wp tk tl cn hs_a0 (by omega) (by omega) ena (by omega) eno (by omega) enf (by omega) enq ewt hs_wt ewp hs_wp hp0 (by omega) (by omega)) hs_a0 ⟨by decide, rfl⟩ kd29_22.2.2.2.2.2.1 rfl rfl (by simp [Value.category]) (by decide) (by decide) (by decide) (by decide) (fun r34 S36 g35 pr34 qr34 hg35 => ?_)
      obtain ⟨rfl, rfl, k37⟩ := pr34
      refine X_st [] rfl ?_
      obtain ⟨Ft38, at38, ot38, qt38, eFt38, lFt38, uFt38, eat38, lat38, uat38, eot38, lot38, uot38, eqt38, lqt38, uqt38, kt38⟩ := k37
      have cat38 : at38 ≤ 300 := by have h9 := (show xTB (xv g35 wt) (xv g35 wp) tk tl cn from (by rw [(xv_m hg35 hs_wt (by decide) (by decide)), (xv_m hg35 hs_wp (by decide) (by decide))]; exact hp0)).2.2.2; omega
      refine X_goto hK 148 kd29_22.2.2.2.2.2.2.1 (by decide) ?_
      exact hret _ _ _ _ _ _ kd29_27.2.2.2 ⟨rfl, rfl, ⟨Ft38, at38, ot38, qt38, ns, eFt38, by omega, by omega, eat38, by omega, by omega, eot38, by omega, by omega, eqt38, by omega, by omega, ((hg35 a1 11 0 2 hs_a1 (by decide)).trans ens), by omega, by omega, [], (by obtain ⟨h8, h7, h6⟩ := kt38; have h5 := h8.resolve_left (fun q9 => by omega); rw [h5.2.1]; exact xRC.f1 (by rw [← k5]; omega) h5.2.2), (fun h9 => by have h8 := kt38; omega), (xFr.m xFr.rf hg35 (by decide)), (xFr.m xFr.rf hg35 (by decide))⟩⟩ (Nat.le_refl _) (Nat.le_refl _)
  · refine X_iloadn hK (i := 3) 0 kd29_21.1 rfl rfl ?_
    refine X_bipush hK kd29_21.2.1 (by decide) ?_
    refine X_icmp_ge hK 21 (by omega) (by omega) kd29_21.2.2.1 (by decide) (fun c39 => ?_) (fun c39 => ?_)
    · refine X_iconst hK kd29_21.2.2.2.2.2.1 ?_
      refine X_istore hK (i := 4) [(4, .int (iI 0)), (3, .int (iI z4)), (0, .ref a0), (1, .ref a1), (2, .int (iI x2))] kd29_21.2.2.2.2.2.2.1 (by decide) rfl ?_
      refine X_iload hK (i := 4) 0 kd29_21.2.2.2.2.2.2.2.1 rfl ?_
      refine X_if_ne hK 49 (by omega) kd29_21.2.2.2.2.2.2.2.2.1 (by decide) (fun c40 => False.elim (by omega)) (fun c40 => ?_)
      refine X_iloadn hK (i := 3) 1 kd29_21.2.2.2.2.2.2.2.2.2.1 rfl rfl ?_
      refine X_bipush hK kd29_21.2.2.2.2.2.2.2.2.2.2.1 (by decide) ?_
      refine X_icmp_eq hK 49 (by omega) (by omega) kd29_21.2.2.2.2.2.2.2.2.2.2.2 (by decide) (fun c41 => False.elim (by omega)) (fun c41 => ?_)
      refine X_iloadn hK (i := 3) 1 kd29_22.1 rfl rfl ?_
      refine X_bipush hK kd29_22.2.1 (by decide) ?_
      refine X_icmp_eq hK 49 (by omega) (by omega) kd29_22.2.2.1 (by decide) (fun c42 => ?_) (fun c42 => ?_)
      · refine X_aloadn hK (i := 0) 2 kd29_22.2.2.2.2.2.2.2.1 rfl rfl ?_
        refine X_getK hK fl_X7_22_8 hs_a0 eno kd29_22.2.2.2.2.2.2.2.2.1 ?_
        refine X_bipush hK kd29_22.2.2.2.2.2.2.2.2.2.1 (by decide) ?_
        refine X_icmp_ge hK 64 (by omega) (by omega) kd29_22.2.2.2.2.2.2.2.2.2.2.1 (by decide) (fun c43 => ?_) (fun c43 => ?_)
        · refine X_aloadn hK (i := 0) 2 kd29_23.2.2.1 rfl rfl ?_
          refine X_iconst hK kd29_23.2.2.2.1 ?_
          refine X_callV hK [.int (iI 4)] [] lk_X7_60 (c3_tell _ _ _ _ _ S g a0 4 na no nf nq wt wp tk tl cn hs_a0 (by omega) (by omega) ena (by omega) eno (by omega) enf (by omega) enq ewt hs_wt ewp hs_wp hp0 (by omega) (by omega)) hs_a0 ⟨by decide, rfl⟩ kd29_23.2.2.2.2.1 rfl rfl (by simp [Value.category]) (by decide) (by decide) (by decide) (by decide) (fun r44 S46 g45 pr44 qr44 hg45 => ?_)
          obtain ⟨rfl, rfl, k47⟩ := pr44
          refine X_st [] rfl ?_
          obtain ⟨Ft48, at48, ot48, qt48, eFt48, lFt48, uFt48, eat48, lat48, uat48, eot48, lot48, uot48, eqt48, lqt48, uqt48, kt48⟩ := k47
          have cat48 : at48 ≤ 300 := by have h9 := (show xTB (xv g45 wt) (xv g45 wp) tk tl cn from (by rw [(xv_m hg45 hs_wt (by decide) (by decide)), (xv_m hg45 hs_wp (by decide) (by decide))]; exact hp0)).2.2.2; omega
          refine X_goto hK 148 kd29_23.2.2.2.2.2.1 (by decide) ?_
          exact hret _ _ _ _ _ _ kd29_27.2.2.2 ⟨rfl, rfl, ⟨Ft48, at48, ot48, qt48, ns, eFt48, by omega, by omega, eat48, by omega, by omega, eot48, by omega, by omega, eqt48, by omega, by omega, ((hg45 a1 11 0 2 hs_a1 (by decide)).trans ens), by omega, by omega, [], (by obtain ⟨h8, h7, h6⟩ := kt48; have h5 := h8.resolve_left (fun q9 => by omega); rw [h5.2.1]; exact xRC.f4 (by rw [← k5]; omega) (by omega) h5.2.2), (fun h9 => by have h8 := kt48; omega), (xFr.m xFr.rf hg45 (by decide)), (xFr.m xFr.rf hg45 (by decide))⟩⟩ (Nat.le_refl _) (Nat.le_refl _)
        · refine X_iloadn hK (i := 2) 4 kd29_22.2.2.2.2.2.2.2.2.2.2.2 rfl rfl ?_
          refine X_bipush hK kd29_23.1 (by decide) ?_
          refine X_icmp_le hK 72 (by omega) (by omega) kd29_23.2.1 (by decide) (fun c49 => ?_) (fun c49 => False.elim (by omega))
          refine X_aloadn hK (i := 0) 2 kd29_23.2.2.2.2.2.2.1 rfl rfl ?_
          refine X_dup hK kd29_23.2.2.2.2.2.2.2.1 rfl ?_
          refine X_getK hK fl_X7_22_8 hs_a0 eno kd29_23.2.2.2.2.2.2.2.2.1 ?_
          refine X_iconst hK kd29_23.2.2.2.2.2.2.2.2.2.1 ?_
          refine X_iadd hK kd29_23.2.2.2.2.2.2.2.2.2.2.1 ?_
          refine X_puti hK fl_X7_22_8 hs_a0 (by decide) sl_8_3 (by omega) (by omega) kd29_23.2.2.2.2.2.2.2.2.2.2.2 (fun g50 hg50 => ?_)
          refine X_aloadn hK (i := 0) 2 kd29_24.1 rfl rfl ?_
          refine X_dup hK kd29_24.2.1 rfl ?_
          have hl51 := xTB.lt (A := xv g50 wt) (B := xv g50 wp) (tk := tk) (tl := tl) (c := cn) (a := na) (by rw [(xv_a hg50 (xne hs_wt hs_a0 (by decide))), (xv_a hg50 (xne hs_wp hs_a0 (by decide)))]; exact hp0) (by omega) (by rw [← k5]; omega)
          refine X_getK hK fl_X7_18_8 hs_a0 ((xs_k hg50 (by decide)).trans ena) kd29_24.2.2.1 ?_
          refine X_iconst hK kd29_24.2.2.2.1 ?_
          refine X_iadd hK kd29_24.2.2.2.2.1 ?_
          refine X_puti hK fl_X7_18_8 hs_a0 (by decide) sl_8_2 (by omega) (by omega) kd29_24.2.2.2.2.2.1 (fun g52 hg52 => ?_)
          refine X_iload hK (i := 4) 0 kd29_24.2.2.2.2.2.2.1 rfl ?_
          refine X_if_eq hK 109 (by omega) kd29_24.2.2.2.2.2.2.2.1 (by decide) (fun c53 => ?_) (fun c53 => False.elim (by omega))
          refine X_iloadn hK (i := 3) 1 kd29_25.2.2.2.1 rfl rfl ?_
          refine X_bipush hK kd29_25.2.2.2.2.1 (by decide) ?_
          refine X_icmp_ne hK 132 (by omega) (by omega) kd29_25.2.2.2.2.2.1 (by decide) (fun c54 => False.elim (by omega)) (fun c54 => ?_)
          refine X_aloadn hK (i := 0) 2 kd29_25.2.2.2.2.2.2.1 rfl rfl ?_
          refine X_aloadn hK (i := 1) 3 kd29_25.2.2.2.2.2.2.2.1 rfl rfl ?_
          refine X_iloadn hK (i := 2) 4 kd29_25.2.2.2.2.2.2.2.2.1 rfl rfl ?_
          refine X_iconst hK kd29_25.2.2.2.2.2.2.2.2.2.1 ?_
          refine X_iadd hK kd29_25.2.2.2.2.2.2.2.2.2.2.1 ?_
          refine X_callV hK [.ref a1, .int (iI (x2 + 1))] [] lk_X7_115 (m_readCond_3 _ _ _ _ _ S g52 a0 a1 (x2 + 1) (na + 1) (no + 1) nf nq wt wp ns ws tk tl cn L b s0 hs_a0 hs_a1 (by omega) (by omega) (xs_s hg52) (by omega) ((xs_k hg52 (by decide)).trans (xs_s hg50)) (by omega) ((xs_k hg52 (by decide)).trans ((xs_k hg50 (by decide)).trans enf)) (by omega) ((xs_k hg52 (by decide)).trans ((xs_k hg50 (by decide)).trans enq)) ((xs_k hg52 (by decide)).trans ((xs_k hg50 (by decide)).trans ewt)) hs_wt ((xs_k hg52 (by decide)).trans ((xs_k hg50 (by decide)).trans ewp)) hs_wp (by omega) ((xs_a hg52 (xne hs_a1 hs_a0 (by decide))).trans ((xs_k hg50 (by decide)).trans ens)) ((xs_k hg52 (by decide)).trans ((xs_k hg50 (by decide)).trans ews)) hs_ws (by rw [(Eq.trans (xv_a hg52 (xne hs_wt hs_a0 (by decide))) (xv_a hg50 (xne hs_wt hs_a0 (by decide)))), (Eq.trans (xv_a hg52 (xne hs_wp hs_a0 (by decide))) (xv_a hg50 (xne hs_wp hs_a0 (by decide))))]; exact hp0) (by omega) (by omega) (by rw [(Eq.trans (xv_a hg52 (xne hs_ws hs_a0 (by decide))) (xv_a hg50 (xne hs_ws hs_a0 (by decide))))]; exact hp3) (by omega) (by omega)) hs_a0 ⟨by decide, rfl⟩ kd29_25.2.2.2.2.2.2.2.2.2.2.2 rfl rfl (by simp [Value.category]) (by decide) (by decide) (by decide) (by decide) (fun r55 S57 g56 pr55 qr55 hg56 => ?_)
          obtain ⟨rfl, rfl, k58⟩ := pr55
          refine X_st [] rfl ?_
          obtain ⟨Ft59, at59, ot59, qt59, nt59, eFt59, lFt59, uFt59, eat59, lat59, uat59, eot59, lot59, uot59, eqt59, lqt59, uqt59, ent59, lnt59, unt59, Lt59, kt59, stt59, fst59, ftt59⟩ := k58
          have cat59 : at59 ≤ 300 := (by omega)
          refine X_aloadn hK (i := 0) 2 kd29_26.1 rfl rfl ?_
          refine X_bipush hK kd29_26.2.1 (by decide) ?_
          refine X_callV hK [.int (iI 26)] [] lk_X7_119 (c3_expect _ _ _ _ _ S g56 a0 26 at59 ot59 Ft59 qt59 wt wp tk tl cn hs_a0 (by omega) (by omega) eat59 (by omega) eot59 (by omega) eFt59 (by omega) eqt59 ((hg56 a0 8 0 0 hs_a0 (by decide)).trans ((xs_k hg52 (by decide)).trans ((xs_k hg50 (by decide)).trans ewt))) hs_wt ((hg56 a0 8 0 1 hs_a0 (by decide)).trans ((xs_k hg52 (by decide)).trans ((xs_k hg50 (by decide)).trans ewp))) hs_wp (by rw [(Eq.trans (Eq.trans (xv_m hg56 hs_wt (by decide) (by decide)) (xv_a hg52 (xne hs_wt hs_a0 (by decide)))) (xv_a hg50 (xne hs_wt hs_a0 (by decide)))), (Eq.trans (Eq.trans (xv_m hg56 hs_wp (by decide) (by decide)) (xv_a hg52 (xne hs_wp hs_a0 (by decide)))) (xv_a hg50 (xne hs_wp hs_a0 (by decide))))]; exact hp0) (by omega) (by omega)) hs_a0 ⟨by decide, rfl⟩ kd29_26.2.2.1 rfl rfl (by simp [Value.category]) (by decide) (by decide) (by decide) (by decide) (fun r60 S62 g61 pr60 qr60 hg61 => ?_)
          obtain ⟨rfl, rfl, k63⟩ := pr60
          refine X_st [] rfl ?_
          obtain ⟨Ft64, at64, ot64, qt64, eFt64, lFt64, uFt64, eat64, lat64, uat64, eot64, lot64, uot64, eqt64, lqt64, uqt64, kt64⟩ := k63
          have cat64 : at64 ≤ 300 := by have h9 := (show xTB (xv g61 wt) (xv g61 wp) tk tl cn from (by rw [(Eq.trans (Eq.trans (Eq.trans (xv_m hg61 hs_wt (by decide) (by decide)) (xv_m hg56 hs_wt (by decide) (by decide))) (xv_a hg52 (xne hs_wt hs_a0 (by decide)))) (xv_a hg50 (xne hs_wt hs_a0 (by decide)))), (Eq.trans (Eq.trans (Eq.trans (xv_m hg61 hs_wp (by decide) (by decide)) (xv_m hg56 hs_wp (by decide) (by decide))) (xv_a hg52 (xne hs_wp hs_a0 (by decide)))) (xv_a hg50 (xne hs_wp hs_a0 (by decide))))]; exact hp0)).2.2.2; omega
          refine X_goto hK 148 kd29_26.2.2.2.1 (by decide) ?_
          exact hret _ _ _ _ _ _ kd29_27.2.2.2 ⟨rfl, rfl, ⟨Ft64, at64, ot64, qt64, nt59, eFt64, by omega, by omega, eat64, by omega, by omega, eot64, by omega, by omega, eqt64, by omega, by omega, ((hg61 a1 11 0 2 hs_a1 (by decide)).trans ent59), by omega, by omega, Lt59, (by obtain ⟨h8, h7⟩ := kt64; by_cases f9 : Ft59 = 0; (rcases h8 with ⟨c1, c2, c3, c4⟩ | ⟨c1, c2, c3⟩; (rw [show Ft64 = 0 by omega, c3, h7]; exact xRC.po (by rw [← k5]; omega) (by omega) (show xRC tk tl 2 (2 + 1) (na + 1) (no + 1) L Ft59 at59 ot59 qt59 Lt59 from kt59) f9 c1); (have c4 := c3.resolve_left (fun q9 => q9.1 f9); rw [c4.2.1]; exact xRC.px (by rw [← k5]; omega) (by omega) (show xRC tk tl 2 (2 + 1) (na + 1) (no + 1) L Ft59 at59 ot59 qt59 Lt59 from kt59) f9 c1 c4.2.2)); (have h6 : Ft64 = Ft59 ∧ qt64 = qt59 := (by omega); rw [h6.1, h6.2]; exact xRC.pf (by rw [← k5]; omega) (by omega) (show xRC tk tl 2 (2 + 1) (na + 1) (no + 1) L Ft59 at59 ot59 qt59 Lt59 from kt59) f9)), (fun h9 => by have h8 := kt64; have h7 : Ft59 = 0 := (by omega); rw [(xv_m hg61 hs_ws (by decide) (by decide))]; exact stt59 h7), (xFr.m (xFr.tr (xFr.t (xFr.t xFr.rf hg50 hs_a0 (by decide)) hg52 hs_a0 (by decide)) fst59) hg61 (by decide)), (xFr.m (xFr.tr (xFr.t (xFr.t xFr.rf hg50 hs_a0 (by decide)) hg52 hs_a0 (by decide)) ftt59) hg61 (by decide))⟩⟩ (Nat.le_refl _) (Nat.le_refl _)
      · refine X_aloadn hK (i := 0) 2 kd29_22.2.2.2.1 rfl rfl ?_
        refine X_iconst hK kd29_22.2.2.2.2.1 ?_
        refine X_callV hK [.int (iI 1)] [] lk_X7_60 (c3_tell _ _ _ _ _ S g a0 1 na no nf nq wt wp tk tl cn hs_a0 (by omega) (by omega) ena (by omega) eno (by omega) enf (by omega) enq ewt hs_wt ewp hs_wp hp0 (by omega) (by omega)) hs_a0 ⟨by decide, rfl⟩ kd29_22.2.2.2.2.2.1 rfl rfl (by simp [Value.category]) (by decide) (by decide) (by decide) (by decide) (fun r65 S67 g66 pr65 qr65 hg66 => ?_)
        obtain ⟨rfl, rfl, k68⟩ := pr65
        refine X_st [] rfl ?_
        obtain ⟨Ft69, at69, ot69, qt69, eFt69, lFt69, uFt69, eat69, lat69, uat69, eot69, lot69, uot69, eqt69, lqt69, uqt69, kt69⟩ := k68
        have cat69 : at69 ≤ 300 := by have h9 := (show xTB (xv g66 wt) (xv g66 wp) tk tl cn from (by rw [(xv_m hg66 hs_wt (by decide) (by decide)), (xv_m hg66 hs_wp (by decide) (by decide))]; exact hp0)).2.2.2; omega
        refine X_goto hK 148 kd29_22.2.2.2.2.2.2.1 (by decide) ?_
        exact hret _ _ _ _ _ _ kd29_27.2.2.2 ⟨rfl, rfl, ⟨Ft69, at69, ot69, qt69, ns, eFt69, by omega, by omega, eat69, by omega, by omega, eot69, by omega, by omega, eqt69, by omega, by omega, ((hg66 a1 11 0 2 hs_a1 (by decide)).trans ens), by omega, by omega, [], (by obtain ⟨h8, h7, h6⟩ := kt69; have h5 := h8.resolve_left (fun q9 => by omega); rw [h5.2.1]; exact xRC.f1 (by rw [← k5]; omega) h5.2.2), (fun h9 => by have h8 := kt69; omega), (xFr.m xFr.rf hg66 (by decide)), (xFr.m xFr.rf hg66 (by decide))⟩⟩ (Nat.le_refl _) (Nat.le_refl _)
    · refine X_iconst hK kd29_21.2.2.2.1 ?_
      refine X_goto hK 22 kd29_21.2.2.2.2.1 (by decide) ?_
      refine X_istore hK (i := 4) [(4, .int (iI 1)), (3, .int (iI z4)), (0, .ref a0), (1, .ref a1), (2, .int (iI x2))] kd29_21.2.2.2.2.2.2.1 (by decide) rfl ?_
      refine X_iload hK (i := 4) 0 kd29_21.2.2.2.2.2.2.2.1 rfl ?_
      refine X_if_ne hK 49 (by omega) kd29_21.2.2.2.2.2.2.2.2.1 (by decide) (fun c70 => ?_) (fun c70 => False.elim (by omega))
      refine X_aloadn hK (i := 0) 2 kd29_22.2.2.2.2.2.2.2.1 rfl rfl ?_
      refine X_getK hK fl_X7_22_8 hs_a0 eno kd29_22.2.2.2.2.2.2.2.2.1 ?_
      refine X_bipush hK kd29_22.2.2.2.2.2.2.2.2.2.1 (by decide) ?_
      refine X_icmp_ge hK 64 (by omega) (by omega) kd29_22.2.2.2.2.2.2.2.2.2.2.1 (by decide) (fun c71 => ?_) (fun c71 => ?_)
      · refine X_aloadn hK (i := 0) 2 kd29_23.2.2.1 rfl rfl ?_
        refine X_iconst hK kd29_23.2.2.2.1 ?_
        refine X_callV hK [.int (iI 4)] [] lk_X7_60 (c3_tell _ _ _ _ _ S g a0 4 na no nf nq wt wp tk tl cn hs_a0 (by omega) (by omega) ena (by omega) eno (by omega) enf (by omega) enq ewt hs_wt ewp hs_wp hp0 (by omega) (by omega)) hs_a0 ⟨by decide, rfl⟩ kd29_23.2.2.2.2.1 rfl rfl (by simp [Value.category]) (by decide) (by decide) (by decide) (by decide) (fun r72 S74 g73 pr72 qr72 hg73 => ?_)
        obtain ⟨rfl, rfl, k75⟩ := pr72
        refine X_st [] rfl ?_
        obtain ⟨Ft76, at76, ot76, qt76, eFt76, lFt76, uFt76, eat76, lat76, uat76, eot76, lot76, uot76, eqt76, lqt76, uqt76, kt76⟩ := k75
        have cat76 : at76 ≤ 300 := by have h9 := (show xTB (xv g73 wt) (xv g73 wp) tk tl cn from (by rw [(xv_m hg73 hs_wt (by decide) (by decide)), (xv_m hg73 hs_wp (by decide) (by decide))]; exact hp0)).2.2.2; omega
        refine X_goto hK 148 kd29_23.2.2.2.2.2.1 (by decide) ?_
        exact hret _ _ _ _ _ _ kd29_27.2.2.2 ⟨rfl, rfl, ⟨Ft76, at76, ot76, qt76, ns, eFt76, by omega, by omega, eat76, by omega, by omega, eot76, by omega, by omega, eqt76, by omega, by omega, ((hg73 a1 11 0 2 hs_a1 (by decide)).trans ens), by omega, by omega, [], (by obtain ⟨h8, h7, h6⟩ := kt76; have h5 := h8.resolve_left (fun q9 => by omega); rw [h5.2.1]; exact xRC.f4 (by rw [← k5]; omega) (by omega) h5.2.2), (fun h9 => by have h8 := kt76; omega), (xFr.m xFr.rf hg73 (by decide)), (xFr.m xFr.rf hg73 (by decide))⟩⟩ (Nat.le_refl _) (Nat.le_refl _)
      · refine X_iloadn hK (i := 2) 4 kd29_22.2.2.2.2.2.2.2.2.2.2.2 rfl rfl ?_
        refine X_bipush hK kd29_23.1 (by decide) ?_
        refine X_icmp_le hK 72 (by omega) (by omega) kd29_23.2.1 (by decide) (fun c77 => ?_) (fun c77 => False.elim (by omega))
        refine X_aloadn hK (i := 0) 2 kd29_23.2.2.2.2.2.2.1 rfl rfl ?_
        refine X_dup hK kd29_23.2.2.2.2.2.2.2.1 rfl ?_
        refine X_getK hK fl_X7_22_8 hs_a0 eno kd29_23.2.2.2.2.2.2.2.2.1 ?_
        refine X_iconst hK kd29_23.2.2.2.2.2.2.2.2.2.1 ?_
        refine X_iadd hK kd29_23.2.2.2.2.2.2.2.2.2.2.1 ?_
        refine X_puti hK fl_X7_22_8 hs_a0 (by decide) sl_8_3 (by omega) (by omega) kd29_23.2.2.2.2.2.2.2.2.2.2.2 (fun g78 hg78 => ?_)
        refine X_aloadn hK (i := 0) 2 kd29_24.1 rfl rfl ?_
        refine X_dup hK kd29_24.2.1 rfl ?_
        have hl79 := xTB.lt (A := xv g78 wt) (B := xv g78 wp) (tk := tk) (tl := tl) (c := cn) (a := na) (by rw [(xv_a hg78 (xne hs_wt hs_a0 (by decide))), (xv_a hg78 (xne hs_wp hs_a0 (by decide)))]; exact hp0) (by omega) (by rw [← k5]; omega)
        refine X_getK hK fl_X7_18_8 hs_a0 ((xs_k hg78 (by decide)).trans ena) kd29_24.2.2.1 ?_
        refine X_iconst hK kd29_24.2.2.2.1 ?_
        refine X_iadd hK kd29_24.2.2.2.2.1 ?_
        refine X_puti hK fl_X7_18_8 hs_a0 (by decide) sl_8_2 (by omega) (by omega) kd29_24.2.2.2.2.2.1 (fun g80 hg80 => ?_)
        refine X_iload hK (i := 4) 0 kd29_24.2.2.2.2.2.2.1 rfl ?_
        refine X_if_eq hK 109 (by omega) kd29_24.2.2.2.2.2.2.2.1 (by decide) (fun c81 => False.elim (by omega)) (fun c81 => ?_)
        refine X_aloadn hK (i := 0) 2 kd29_24.2.2.2.2.2.2.2.2.1 rfl rfl ?_
        refine X_aloadn hK (i := 1) 3 kd29_24.2.2.2.2.2.2.2.2.2.1 rfl rfl ?_
        refine X_iloadn hK (i := 3) 1 kd29_24.2.2.2.2.2.2.2.2.2.2.1 rfl rfl ?_
        refine X_bipush hK kd29_24.2.2.2.2.2.2.2.2.2.2.2 (by decide) ?_
        refine X_isub hK kd29_25.1 ?_
        refine X_callV hK [.ref a1, .int (iI (z4 - 10))] [] lk_X7_135 (m_readFact _ _ _ _ _ S g80 a0 a1 (z4 - 10) (na + 1) (no + 1) nf nq wt wp ns ws tk tl cn L b s0 2 hs_a0 hs_a1 (by omega) (by omega) (xs_s hg80) (by omega) ((xs_k hg80 (by decide)).trans (xs_s hg78)) (by omega) ((xs_k hg80 (by decide)).trans ((xs_k hg78 (by decide)).trans enf)) (by omega) ((xs_k hg80 (by decide)).trans ((xs_k hg78 (by decide)).trans enq)) ((xs_k hg80 (by decide)).trans ((xs_k hg78 (by decide)).trans ewt)) hs_wt ((xs_k hg80 (by decide)).trans ((xs_k hg78 (by decide)).trans ewp)) hs_wp (by omega) ((xs_a hg80 (xne hs_a1 hs_a0 (by decide))).trans ((xs_k hg78 (by decide)).trans ens)) ((xs_k hg80 (by decide)).trans ((xs_k hg78 (by decide)).trans ews)) hs_ws (by rw [(Eq.trans (xv_a hg80 (xne hs_wt hs_a0 (by decide))) (xv_a hg78 (xne hs_wt hs_a0 (by decide)))), (Eq.trans (xv_a hg80 (xne hs_wp hs_a0 (by decide))) (xv_a hg78 (xne hs_wp hs_a0 (by decide))))]; exact hp0) (by omega) (by omega) (by rw [(Eq.trans (xv_a hg80 (xne hs_ws hs_a0 (by decide))) (xv_a hg78 (xne hs_ws hs_a0 (by decide))))]; exact hp3) (by omega) (by omega) (by rw [show (na + 1) - 1 = na by omega, ← k5]; omega) (by omega)) hs_a0 ⟨by decide, rfl⟩ kd29_25.2.1 rfl rfl (by simp [Value.category]) (by decide) (by decide) (by decide) (by decide) (fun r82 S84 g83 pr82 qr82 hg83 => ?_)
        obtain ⟨rfl, rfl, k85⟩ := pr82
        refine X_st [] rfl ?_
        obtain ⟨Ft86, at86, ot86, qt86, nt86, eFt86, lFt86, uFt86, eat86, lat86, uat86, eot86, lot86, uot86, eqt86, lqt86, uqt86, ent86, lnt86, unt86, Lt86, kt86, stt86, fst86, ftt86⟩ := k85
        have cat86 : at86 ≤ 300 := (by omega)
        refine X_goto hK 148 kd29_25.2.2.1 (by decide) ?_
        exact hret _ _ _ _ _ _ kd29_27.2.2.2 ⟨rfl, rfl, ⟨Ft86, at86, ot86, qt86, nt86, eFt86, by omega, by omega, eat86, by omega, by omega, eot86, by omega, by omega, eqt86, by omega, by omega, ent86, by omega, by omega, Lt86, (by have h9 := kt86; rw [show na + 1 - 1 = na by omega, show no + 1 - 1 = no by omega] at h9; exact h9), stt86, (xFr.tr (xFr.t (xFr.t xFr.rf hg78 hs_a0 (by decide)) hg80 hs_a0 (by decide)) fst86), (xFr.tr (xFr.t (xFr.t xFr.rf hg78 hs_a0 (by decide)) hg80 hs_a0 (by decide)) ftt86)⟩⟩ (Nat.le_refl _) (Nat.le_refl _)

set_option maxHeartbeats 4000000 in
set_option maxRecDepth 100000 in
theorem m_readAll_2 (l : Launch) (D : va_G) (kA : Nat → ClassId) (b0 : Nat) (t0 : Nat → Nat) (S : xT) (g : xG) (a0 : Nat) (a1 : Nat) (x2 : Int) (na : Int) (no : Int) (nf : Int) (nq : Int) (wt : Nat) (wp : Nat) (ns : Int) (ws : Nat) (tk : Int → Int) (tl : Int → Int) (cn : Int) (L : List xS3) (b : Int) (s0 : Int → Int) (hs_a0 : S a0 = some (8, 0)) (hs_a1 : S a1 = some (11, 0)) (hx2 : 2 ≤ x2 ∧ x2 ≤ 2) (hna : 0 ≤ na ∧ na ≤ 300) (ena : g a0 2 = .int (iI na)) (hno : 0 ≤ no ∧ no ≤ 50) (eno : g a0 3 = .int (iI no)) (hnf : 0 ≤ nf ∧ nf ≤ 0) (enf : g a0 5 = .int (iI nf)) (hnq : 0 ≤ nq ∧ nq ≤ 300) (enq : g a0 6 = .int (iI nq)) (ewt : g a0 0 = .ref wt) (hs_wt : S wt = some (12900, 301)) (ewp : g a0 1 = .ref wp) (hs_wp : S wp = some (13000, 301)) (hns : 0 ≤ ns ∧ ns ≤ 100) (ens : g a1 2 = .int (iI ns)) (ews : g a1 7 = .ref ws) (hs_ws : S ws = some (14000, 100)) (hp0 : xTB (xv g wt) (xv g wp) tk tl cn) (hp1 : na ≤ cn) (hp2 : cn ≤ 300) (hp3 : xStq (xv g ws) s0 b ns L) (hp4 : 0 ≤ b) (hp5 : ns ≤ 2 * no) : xMt l yX7_readAll cX7_readAll 4 none 29 0 0 675 D kA b0 t0 [(8, 5), (8, 6), (8, 3), (8, 2), (14000, 0), (11, 2)] [.ref a0, .ref a1, .int (iI x2)] S g (fun (r : Option Value) (S1 : xT) (g1 : xG) => S = S1 ∧ r = none ∧ (∃ F a o q n : Int, g1 a0 5 = .int (iI F) ∧ -2147483648 ≤ F ∧ F ≤ 2147483647 ∧ g1 a0 2 = .int (iI a) ∧ 0 ≤ a ∧ a ≤ cn ∧ g1 a0 3 = .int (iI o) ∧ 0 ≤ o ∧ o ≤ 50 ∧ g1 a0 6 = .int (iI q) ∧ 0 ≤ q ∧ q ≤ 300 ∧ g1 a1 2 = .int (iI n) ∧ 0 ≤ n ∧ n ≤ 100 ∧ ∃ L1 : List xS3, xRC tk tl 1 2 na no L F a o q L1 ∧ (F = 0 → xStq (xv g1 ws) s0 b n L1) ∧ xFr 14000 S g g1 ws ∧ xFr 11 S g g1 a1)) := by
  refine xEnterV (by decide) (by simp [lg_sl, Value.category]) [(0, .ref a0), (1, .ref a1), (2, .int (iI x2))] rfl ?_
  intro K E hK hret _ _ _
  refine X_aloadn hK (i := 0) 0 kd29_0.1 rfl rfl ?_
  refine X_aloadn hK (i := 1) 1 kd29_0.2.1 rfl rfl ?_
  refine X_iloadn hK (i := 2) 2 kd29_0.2.2.1 rfl rfl ?_
  refine X_callV hK [.ref a1, .int (iI x2)] [] lk_X7_132 (m_readOne_2 _ _ _ _ _ S g a0 a1 x2 na no nf nq wt wp ns ws tk tl cn L b s0 hs_a0 hs_a1 (by omega) (by omega) ena (by omega) eno (by omega) enf (by omega) enq ewt hs_wt ewp hs_wp (by omega) ens ews hs_ws hp0 (by omega) (by omega) hp3 (by omega) (by omega)) hs_a0 ⟨by decide, rfl⟩ kd29_0.2.2.2.1 rfl rfl (by simp [Value.category]) (by decide) (by decide) (by decide) (by decide) (fun r1 S3 g2 pr1 qr1 hg2 => ?_)
  obtain ⟨rfl, rfl, k4⟩ := pr1
  refine X_st [] rfl ?_
  obtain ⟨Ft5, at5, ot5, qt5, nt5, eFt5, lFt5, uFt5, eat5, lat5, uat5, eot5, lot5, uot5, eqt5, lqt5, uqt5, ent5, lnt5, unt5, Lt5, kt5, stt5, fst5, ftt5⟩ := k4
  have cat5 : at5 ≤ 300 := (by omega)
  refine X_iconst hK kd29_0.2.2.2.2.1 ?_
  refine X_istoren hK (i := 3) [(3, .int (iI 0)), (0, .ref a0), (1, .ref a1), (2, .int (iI x2))] kd29_0.2.2.2.2.2.1 rfl (by decide) rfl ?_
  have P150 : ∀ (nP150 : Nat) (g122 : xG) (_ : xM [(14000, 0), (11, 2), (8, 5), (8, 6), (8, 3), (8, 2)] S g2 g122) (z121 : Int) (_ : 0 ≤ z121) (_ : z121 ≤ 50) (q123 : Int) (_ : 0 ≤ q123) (_ : q123 ≤ 300) (_ : g122 a0 2 = .int (iI q123)) (q124 : Int) (_ : 0 ≤ q124) (_ : q124 ≤ 50) (_ : g122 a0 3 = .int (iI q124)) (q125 : Int) (_ : (-2147483648) ≤ q125) (_ : q125 ≤ 2147483647) (_ : g122 a0 5 = .int (iI q125)) (q126 : Int) (_ : 0 ≤ q126) (_ : q126 ≤ 300) (_ : g122 a0 6 = .int (iI q126)) (q127 : Int) (_ : 0 ≤ q127) (_ : q127 ≤ 100) (_ : g122 a1 2 = .int (iI q127)) (_ : ∃ Li : List xS3, xIC tk tl 1 2 na no L q125 q123 q124 q126 Li ∧ (q125 = 0 → xStq (xv g122 ws) s0 b q127 Li ∧ q127 ≤ 2 * q124 - 1)) (_ : q125 = 0 → no + 1 + z121 ≤ q124) (_ : q123 ≤ cn) (_ : xFr 14000 S g g122 ws) (_ : xFr 11 S g g122 a1) (_ : 60 - z121 < (nP150 : Int)), X K E 8 [(3, .int (iI z121)), (0, .ref a0), (1, .ref a1), (2, .int (iI x2))] [] S g122 0 0 := by
    intro nP150
    induction nP150 with
    | zero => intro g122 hg122 z121 lz121 uz121 q123 lq123 uq123 eq123 q124 lq124 uq124 eq124 q125 lq125 uq125 eq125 q126 lq126 uq126 eq126 q127 lq127 uq127 eq127 v151 v152 v153 v154 v155 mP150; exact False.elim (by omega)
    | succ nP150 ihP150 =>
      intro g122 hg122 z121 lz121 uz121 q123 lq123 uq123 eq123 q124 lq124 uq124 eq124 q125 lq125 uq125 eq125 q126 lq126 uq126 eq126 q127 lq127 uq127 eq127 v151 v152 v153 v154 v155 mP150
      refine X_iloadn hK (i := 3) 0 kd29_0.2.2.2.2.2.2.1 rfl rfl ?_
      obtain ⟨Lij156, ij156, sj156⟩ := id v151
      have ivj156 : q125 = 0 → _ := fun h9 => (sj156 h9).1
      have nbj156 : q125 = 0 → q127 ≤ 2 * q124 - 1 := fun h9 => (sj156 h9).2
      refine X_bipush hK kd29_0.2.2.2.2.2.2.2.1 (by decide) ?_
      refine X_icmp_ge hK 60 (by omega) (by omega) kd29_0.2.2.2.2.2.2.2.2.1 (by decide) (fun c157 => ?_) (fun c157 => ?_)
      · exact hret _ _ _ _ _ _ kd29_2.2.2.2.2.2.2.2.2.2.1 ⟨rfl, rfl, ⟨q125, q123, q124, q126, q127, eq125, by omega, by omega, eq123, by omega, by omega, eq124, by omega, by omega, eq126, by omega, by omega, eq127, by omega, by omega, Lij156, (xIC.e ij156 (fun h9 => False.elim (by have h8 := v152 h9; omega))), (fun h9 => (sj156 h9).1), v154, v155⟩⟩ (Nat.le_refl _) (Nat.le_refl _)
      · refine X_aloadn hK (i := 0) 1 kd29_0.2.2.2.2.2.2.2.2.2.1 rfl rfl ?_
        refine X_getK hK fl_X7_29_8 hs_a0 eq125 kd29_0.2.2.2.2.2.2.2.2.2.2.1 ?_
        refine X_if_ne hK 60 (by omega) kd29_0.2.2.2.2.2.2.2.2.2.2.2 (by decide) (fun c158 => ?_) (fun c158 => ?_)
        · exact hret _ _ _ _ _ _ kd29_2.2.2.2.2.2.2.2.2.2.1 ⟨rfl, rfl, ⟨q125, q123, q124, q126, q127, eq125, by omega, by omega, eq123, by omega, by omega, eq124, by omega, by omega, eq126, by omega, by omega, eq127, by omega, by omega, Lij156, (xIC.e ij156 (fun h9 => False.elim (by have h8 := v152 h9; omega))), (fun h9 => (sj156 h9).1), v154, v155⟩⟩ (Nat.le_refl _) (Nat.le_refl _)
        · refine X_aloadn hK (i := 0) 1 kd29_1.1 rfl rfl ?_
          refine X_callV hK [] [] lk_X7_47 (c3_now _ _ _ _ _ S g122 a0 q123 wt wp tk tl cn hs_a0 (by omega) eq123 ((hg122 a0 8 0 0 hs_a0 (by decide)).trans ((hg2 a0 8 0 0 hs_a0 (by decide)).trans ewt)) hs_wt ((hg122 a0 8 0 1 hs_a0 (by decide)).trans ((hg2 a0 8 0 1 hs_a0 (by decide)).trans ewp)) hs_wp (by rw [(Eq.trans (xv_m hg122 hs_wt (by decide) (by decide)) (xv_m hg2 hs_wt (by decide) (by decide))), (Eq.trans (xv_m hg122 hs_wp (by decide) (by decide)) (xv_m hg2 hs_wp (by decide) (by decide)))]; exact hp0) (by omega) (by omega)) hs_a0 ⟨by decide, rfl⟩ kd29_1.2.1 rfl rfl (by simp [Value.category]) (by decide) (by decide) (by decide) (by decide) (fun r159 S161 g160 pr159 qr159 hg160 => ?_)
          obtain ⟨rfl, rfl, z162, rfl, lz162, uz162, k163⟩ := pr159
          refine X_st [.int (iI z162)] rfl ?_
          refine X_bipush hK kd29_1.2.2.1 (by decide) ?_
          refine X_icmp_ne hK 60 (by omega) (by omega) kd29_1.2.2.2.1 (by decide) (fun c164 => ?_) (fun c164 => ?_)
          · exact hret _ _ _ _ _ _ kd29_2.2.2.2.2.2.2.2.2.2.1 ⟨rfl, rfl, ⟨q125, q123, q124, q126, q127, eq125, by omega, by omega, eq123, by omega, by omega, eq124, by omega, by omega, eq126, by omega, by omega, eq127, by omega, by omega, Lij156, (xIC.e ij156 (fun h9 => Or.inl ⟨rfl, by rw [← k163]; omega⟩)), (fun h9 => (sj156 h9).1), v154, v155⟩⟩ (Nat.le_refl _) (Nat.le_refl _)
          · refine X_aloadn hK (i := 0) 1 kd29_1.2.2.2.2.1 rfl rfl ?_
            refine X_dup hK kd29_1.2.2.2.2.2.1 rfl ?_
            have hl165 := xTB.lt (A := xv g122 wt) (B := xv g122 wp) (tk := tk) (tl := tl) (c := cn) (a := q123) (by rw [(Eq.trans (xv_m hg122 hs_wt (by decide) (by decide)) (xv_m hg2 hs_wt (by decide) (by decide))), (Eq.trans (xv_m hg122 hs_wp (by decide) (by decide)) (xv_m hg2 hs_wp (by decide) (by decide)))]; exact hp0) (by omega) (by rw [← k163]; omega)
            refine X_getK hK fl_X7_18_8 hs_a0 eq123 kd29_1.2.2.2.2.2.2.1 ?_
            refine X_iconst hK kd29_1.2.2.2.2.2.2.2.1 ?_
            refine X_iadd hK kd29_1.2.2.2.2.2.2.2.2.1 ?_
            refine X_puti hK fl_X7_18_8 hs_a0 (by decide) sl_8_2 (by omega) (by omega) kd29_1.2.2.2.2.2.2.2.2.2.1 (fun g166 hg166 => ?_)
            refine X_aloadn hK (i := 0) 1 kd29_1.2.2.2.2.2.2.2.2.2.2.1 rfl rfl ?_
            refine X_aloadn hK (i := 1) 2 kd29_1.2.2.2.2.2.2.2.2.2.2.2 rfl rfl ?_
            refine X_iloadn hK (i := 2) 3 kd29_2.1 rfl rfl ?_
            refine X_callV hK [.ref a1, .int (iI x2)] [] lk_X7_132 (m_readOne_2 _ _ _ _ _ S g166 a0 a1 x2 (q123 + 1) q124 q125 q126 wt wp q127 ws tk tl cn Lij156 b s0 hs_a0 hs_a1 (by omega) (by omega) (xs_s hg166) (by omega) ((xs_k hg166 (by decide)).trans eq124) (by omega) ((xs_k hg166 (by decide)).trans eq125) (by omega) ((xs_k hg166 (by decide)).trans eq126) ((xs_k hg166 (by decide)).trans ((hg122 a0 8 0 0 hs_a0 (by decide)).trans ((hg2 a0 8 0 0 hs_a0 (by decide)).trans ewt))) hs_wt ((xs_k hg166 (by decide)).trans ((hg122 a0 8 0 1 hs_a0 (by decide)).trans ((hg2 a0 8 0 1 hs_a0 (by decide)).trans ewp))) hs_wp (by omega) ((xs_a hg166 (xne hs_a1 hs_a0 (by decide))).trans eq127) ((xs_k hg166 (by decide)).trans ((hg122 a1 11 0 7 hs_a1 (by decide)).trans ((hg2 a1 11 0 7 hs_a1 (by decide)).trans ews))) hs_ws (by rw [(Eq.trans (Eq.trans (xv_a hg166 (xne hs_wt hs_a0 (by decide))) (xv_m hg122 hs_wt (by decide) (by decide))) (xv_m hg2 hs_wt (by decide) (by decide))), (Eq.trans (Eq.trans (xv_a hg166 (xne hs_wp hs_a0 (by decide))) (xv_m hg122 hs_wp (by decide) (by decide))) (xv_m hg2 hs_wp (by decide) (by decide)))]; exact hp0) (by omega) (by omega) (by rw [(xv_a hg166 (xne hs_ws hs_a0 (by decide)))]; exact (ivj156 (by omega))) (by omega) (by omega)) hs_a0 ⟨by decide, rfl⟩ kd29_2.2.1 rfl rfl (by simp [Value.category]) (by decide) (by decide) (by decide) (by decide) (fun r167 S169 g168 pr167 qr167 hg168 => ?_)
            obtain ⟨rfl, rfl, k170⟩ := pr167
            refine X_st [] rfl ?_
            obtain ⟨Ft171, at171, ot171, qt171, nt171, eFt171, lFt171, uFt171, eat171, lat171, uat171, eot171, lot171, uot171, eqt171, lqt171, uqt171, ent171, lnt171, unt171, Lt171, kt171, stt171, fst171, ftt171⟩ := k170
            have cat171 : at171 ≤ 300 := (by omega)
            refine X_aloadn hK (i := 1) 2 kd29_2.2.2.1 rfl rfl ?_
            refine X_bipush hK kd29_2.2.2.2.1 (by decide) ?_
            refine X_iconst hK kd29_2.2.2.2.2.1 ?_
            refine X_iconst hK kd29_2.2.2.2.2.2.1 ?_
            refine X_callV hK [.int (iI 13), .int (iI 0), .int (iI 0)] [] lk_X7_129 (m_addStep _ _ _ _ _ S g168 a1 13 0 0 nt171 ws hs_a1 (by omega) (by omega) (by omega) (by omega) ent171 ((hg168 a1 11 0 7 hs_a1 (by decide)).trans ((xs_k hg166 (by decide)).trans ((hg122 a1 11 0 7 hs_a1 (by decide)).trans ((hg2 a1 11 0 7 hs_a1 (by decide)).trans ews)))) hs_ws) hs_a1 ⟨by decide, rfl⟩ kd29_2.2.2.2.2.2.2.1 rfl rfl (by simp [Value.category]) (by decide) (by decide) (by decide) (by decide) (fun r172 S174 g173 pr172 qr172 hg173 => ?_)
            obtain ⟨rfl, rfl, k175, k176, k177, k178⟩ := pr172
            refine X_st [] rfl ?_
            refine X_iinc hK (i := 3) (z := z121) (n := 1) 0 [(3, .int (iI (z121 + 1))), (0, .ref a0), (1, .ref a1), (2, .int (iI x2))] kd29_2.2.2.2.2.2.2.2.1 rfl (by decide) rfl ?_
            refine X_goto hK 8 kd29_2.2.2.2.2.2.2.2.2.1 (by decide) ?_
            exact ihP150  g173 (xM.tr (xM.tr (xM_up (xM.tr xM.rf xLe.rf hg122 (by decide)) hg166 hs_a0 (by decide) (by decide)) xLe.rf hg168 (by decide)) xLe.rf hg173 (by decide)) (z121 + 1) (by omega) (by omega) at171 (by omega) (by omega) ((hg173 a0 8 0 2 hs_a0 (by decide)).trans eat171) ot171 (by omega) (by omega) ((hg173 a0 8 0 3 hs_a0 (by decide)).trans eot171) Ft171 (by omega) (by omega) ((hg173 a0 8 0 5 hs_a0 (by decide)).trans eFt171) qt171 (by omega) (by omega) ((hg173 a0 8 0 6 hs_a0 (by decide)).trans eqt171) (if nt171 < 100 then nt171 + 1 else nt171) (by omega) (by omega) k175 ⟨Lt171 ++ [(13, 0, 0)], xIC.s (Or.inl ⟨rfl, rfl, rfl, (by rw [← k163]; omega)⟩) ij156 (by omega) kt171 (fun _ => rfl), fun h9 => by have h8 := xRC.b (by omega) kt171 h9; have h7 := (stt171 h9).1; have h6 := (sj156 (by omega)).1.1; have h5 := (sj156 (by omega)).2; exact ⟨(by have h9 := (xStq.add (x := (13, 0, 0)) (stt171 (by omega)) (by omega) (by have h4a := (k176.1 (by omega)).1; unfold xec9; (try dsimp only); omega) (k176.1 (by omega)).2); rw [if_pos (by omega)]; exact h9), by rw [if_pos (by omega)]; omega⟩⟩ (fun h9 => by have h8 := xRC.b (by omega) kt171 h9; omega) (by omega) (xFr.tr (xFr.tr (xFr.t v154 hg166 hs_a0 (by decide)) fst171) k177) (xFr.tr (xFr.tr (xFr.t v155 hg166 hs_a0 (by decide)) ftt171) k178) (by omega)
  exact P150 ((60 - 0 : Int).toNat + 1) g2 xM.rf 0 (by omega) (by omega) at5 (by omega) (by omega) eat5 ot5 (by omega) (by omega) eot5 Ft5 (by omega) (by omega) eFt5 qt5 (by omega) (by omega) eqt5 nt5 (by omega) (by omega) ent5 ⟨Lt5, xIC.z (Or.inl ⟨rfl, rfl⟩) kt5, fun h9 => ⟨stt5 h9, by have h8 := xRC.b (by omega) kt5 h9; have h7 := (stt5 h9).1; have h6 := hp3.1; omega⟩⟩ (fun h9 => by have h8 := xRC.b (by omega) kt5 h9; omega) (by omega) (xFr.tr xFr.rf fst5) (xFr.tr xFr.rf ftt5) (by omega)

set_option maxHeartbeats 4000000 in
set_option maxRecDepth 100000 in
theorem m_readCond_2 (l : Launch) (D : va_G) (kA : Nat → ClassId) (b0 : Nat) (t0 : Nat → Nat) (S : xT) (g : xG) (a0 : Nat) (a1 : Nat) (x2 : Int) (na : Int) (no : Int) (nf : Int) (nq : Int) (wt : Nat) (wp : Nat) (ns : Int) (ws : Nat) (tk : Int → Int) (tl : Int → Int) (cn : Int) (L : List xS3) (b : Int) (s0 : Int → Int) (hs_a0 : S a0 = some (8, 0)) (hs_a1 : S a1 = some (11, 0)) (hx2 : 2 ≤ x2 ∧ x2 ≤ 2) (hna : 0 ≤ na ∧ na ≤ 300) (ena : g a0 2 = .int (iI na)) (hno : 0 ≤ no ∧ no ≤ 50) (eno : g a0 3 = .int (iI no)) (hnf : 0 ≤ nf ∧ nf ≤ 0) (enf : g a0 5 = .int (iI nf)) (hnq : 0 ≤ nq ∧ nq ≤ 300) (enq : g a0 6 = .int (iI nq)) (ewt : g a0 0 = .ref wt) (hs_wt : S wt = some (12900, 301)) (ewp : g a0 1 = .ref wp) (hs_wp : S wp = some (13000, 301)) (hns : 0 ≤ ns ∧ ns ≤ 100) (ens : g a1 2 = .int (iI ns)) (ews : g a1 7 = .ref ws) (hs_ws : S ws = some (14000, 100)) (hp0 : xTB (xv g wt) (xv g wp) tk tl cn) (hp1 : na ≤ cn) (hp2 : cn ≤ 300) (hp3 : xStq (xv g ws) s0 b ns L) (hp4 : 0 ≤ b) (hp5 : ns ≤ 2 * no) : xMt l yX7_readCond cX7_readCond 4 none 30 0 0 698 D kA b0 t0 [(8, 5), (8, 6), (8, 3), (8, 2), (14000, 0), (11, 2)] [.ref a0, .ref a1, .int (iI x2)] S g (fun (r : Option Value) (S1 : xT) (g1 : xG) => S = S1 ∧ r = none ∧ (∃ F a o q n : Int, g1 a0 5 = .int (iI F) ∧ -2147483648 ≤ F ∧ F ≤ 2147483647 ∧ g1 a0 2 = .int (iI a) ∧ 0 ≤ a ∧ a ≤ cn ∧ g1 a0 3 = .int (iI o) ∧ 0 ≤ o ∧ o ≤ 50 ∧ g1 a0 6 = .int (iI q) ∧ 0 ≤ q ∧ q ≤ 300 ∧ g1 a1 2 = .int (iI n) ∧ 0 ≤ n ∧ n ≤ 100 ∧ ∃ L1 : List xS3, xRC tk tl 2 2 na no L F a o q L1 ∧ (F = 0 → xStq (xv g1 ws) s0 b n L1) ∧ xFr 14000 S g g1 ws ∧ xFr 11 S g g1 a1)) := by
  refine xEnterV (by decide) (by simp [lg_sl, Value.category]) [(0, .ref a0), (1, .ref a1), (2, .int (iI x2))] rfl ?_
  intro K E hK hret _ _ _
  refine X_aloadn hK (i := 0) 0 kd29_2.2.2.2.2.2.2.2.2.2.2.1 rfl rfl ?_
  refine X_aloadn hK (i := 1) 1 kd29_2.2.2.2.2.2.2.2.2.2.2.2 rfl rfl ?_
  refine X_iloadn hK (i := 2) 2 kd29_3.1 rfl rfl ?_
  refine X_callV hK [.ref a1, .int (iI x2)] [] lk_X7_126 (m_readAll_2 _ _ _ _ _ S g a0 a1 x2 na no nf nq wt wp ns ws tk tl cn L b s0 hs_a0 hs_a1 (by omega) (by omega) ena (by omega) eno (by omega) enf (by omega) enq ewt hs_wt ewp hs_wp (by omega) ens ews hs_ws hp0 (by omega) (by omega) hp3 (by omega) (by omega)) hs_a0 ⟨by decide, rfl⟩ kd29_3.2.1 rfl rfl (by simp [Value.category]) (by decide) (by decide) (by decide) (by decide) (fun r1 S3 g2 pr1 qr1 hg2 => ?_)
  obtain ⟨rfl, rfl, k4⟩ := pr1
  refine X_st [] rfl ?_
  obtain ⟨Ft5, at5, ot5, qt5, nt5, eFt5, lFt5, uFt5, eat5, lat5, uat5, eot5, lot5, uot5, eqt5, lqt5, uqt5, ent5, lnt5, unt5, Lt5, kt5, stt5, fst5, ftt5⟩ := k4
  have cat5 : at5 ≤ 300 := (by omega)
  refine X_iconst hK kd29_3.2.2.1 ?_
  refine X_istoren hK (i := 3) [(3, .int (iI 0)), (0, .ref a0), (1, .ref a1), (2, .int (iI x2))] kd29_3.2.2.2.1 rfl (by decide) rfl ?_
  have P150 : ∀ (nP150 : Nat) (g122 : xG) (_ : xM [(14000, 0), (11, 2), (8, 5), (8, 6), (8, 3), (8, 2)] S g2 g122) (z121 : Int) (_ : 0 ≤ z121) (_ : z121 ≤ 50) (q123 : Int) (_ : 0 ≤ q123) (_ : q123 ≤ 300) (_ : g122 a0 2 = .int (iI q123)) (q124 : Int) (_ : 0 ≤ q124) (_ : q124 ≤ 50) (_ : g122 a0 3 = .int (iI q124)) (q125 : Int) (_ : (-2147483648) ≤ q125) (_ : q125 ≤ 2147483647) (_ : g122 a0 5 = .int (iI q125)) (q126 : Int) (_ : 0 ≤ q126) (_ : q126 ≤ 300) (_ : g122 a0 6 = .int (iI q126)) (q127 : Int) (_ : 0 ≤ q127) (_ : q127 ≤ 100) (_ : g122 a1 2 = .int (iI q127)) (_ : ∃ Li : List xS3, xIC tk tl 2 2 na no L q125 q123 q124 q126 Li ∧ (q125 = 0 → xStq (xv g122 ws) s0 b q127 Li ∧ q127 ≤ 2 * q124 - 1)) (_ : q125 = 0 → no + 1 + z121 ≤ q124) (_ : q123 ≤ cn) (_ : xFr 14000 S g g122 ws) (_ : xFr 11 S g g122 a1) (_ : 60 - z121 < (nP150 : Int)), X K E 8 [(3, .int (iI z121)), (0, .ref a0), (1, .ref a1), (2, .int (iI x2))] [] S g122 0 0 := by
    intro nP150
    induction nP150 with
    | zero => intro g122 hg122 z121 lz121 uz121 q123 lq123 uq123 eq123 q124 lq124 uq124 eq124 q125 lq125 uq125 eq125 q126 lq126 uq126 eq126 q127 lq127 uq127 eq127 v151 v152 v153 v154 v155 mP150; exact False.elim (by omega)
    | succ nP150 ihP150 =>
      intro g122 hg122 z121 lz121 uz121 q123 lq123 uq123 eq123 q124 lq124 uq124 eq124 q125 lq125 uq125 eq125 q126 lq126 uq126 eq126 q127 lq127 uq127 eq127 v151 v152 v153 v154 v155 mP150
      refine X_iloadn hK (i := 3) 0 kd29_3.2.2.2.2.1 rfl rfl ?_
      obtain ⟨Lij156, ij156, sj156⟩ := id v151
      have ivj156 : q125 = 0 → _ := fun h9 => (sj156 h9).1
      have nbj156 : q125 = 0 → q127 ≤ 2 * q124 - 1 := fun h9 => (sj156 h9).2
      refine X_bipush hK kd29_3.2.2.2.2.2.1 (by decide) ?_
      refine X_icmp_ge hK 60 (by omega) (by omega) kd29_3.2.2.2.2.2.2.1 (by decide) (fun c157 => ?_) (fun c157 => ?_)
      · exact hret _ _ _ _ _ _ kd29_5.2.2.2.2.2.2.2.1 ⟨rfl, rfl, ⟨q125, q123, q124, q126, q127, eq125, by omega, by omega, eq123, by omega, by omega, eq124, by omega, by omega, eq126, by omega, by omega, eq127, by omega, by omega, Lij156, (xIC.e ij156 (fun h9 => False.elim (by have h8 := v152 h9; omega))), (fun h9 => (sj156 h9).1), v154, v155⟩⟩ (Nat.le_refl _) (Nat.le_refl _)
      · refine X_aloadn hK (i := 0) 1 kd29_3.2.2.2.2.2.2.2.1 rfl rfl ?_
        refine X_getK hK fl_X7_29_8 hs_a0 eq125 kd29_3.2.2.2.2.2.2.2.2.1 ?_
        refine X_if_ne hK 60 (by omega) kd29_3.2.2.2.2.2.2.2.2.2.1 (by decide) (fun c158 => ?_) (fun c158 => ?_)
        · exact hret _ _ _ _ _ _ kd29_5.2.2.2.2.2.2.2.1 ⟨rfl, rfl, ⟨q125, q123, q124, q126, q127, eq125, by omega, by omega, eq123, by omega, by omega, eq124, by omega, by omega, eq126, by omega, by omega, eq127, by omega, by omega, Lij156, (xIC.e ij156 (fun h9 => False.elim (by have h8 := v152 h9; omega))), (fun h9 => (sj156 h9).1), v154, v155⟩⟩ (Nat.le_refl _) (Nat.le_refl _)
        · refine X_aloadn hK (i := 0) 1 kd29_3.2.2.2.2.2.2.2.2.2.2.1 rfl rfl ?_
          refine X_callV hK [] [] lk_X7_47 (c3_now _ _ _ _ _ S g122 a0 q123 wt wp tk tl cn hs_a0 (by omega) eq123 ((hg122 a0 8 0 0 hs_a0 (by decide)).trans ((hg2 a0 8 0 0 hs_a0 (by decide)).trans ewt)) hs_wt ((hg122 a0 8 0 1 hs_a0 (by decide)).trans ((hg2 a0 8 0 1 hs_a0 (by decide)).trans ewp)) hs_wp (by rw [(Eq.trans (xv_m hg122 hs_wt (by decide) (by decide)) (xv_m hg2 hs_wt (by decide) (by decide))), (Eq.trans (xv_m hg122 hs_wp (by decide) (by decide)) (xv_m hg2 hs_wp (by decide) (by decide)))]; exact hp0) (by omega) (by omega)) hs_a0 ⟨by decide, rfl⟩ kd29_3.2.2.2.2.2.2.2.2.2.2.2 rfl rfl (by simp [Value.category]) (by decide) (by decide) (by decide) (by decide) (fun r159 S161 g160 pr159 qr159 hg160 => ?_)
          obtain ⟨rfl, rfl, z162, rfl, lz162, uz162, k163⟩ := pr159
          refine X_st [.int (iI z162)] rfl ?_
          refine X_bipush hK kd29_4.1 (by decide) ?_
          refine X_icmp_ne hK 60 (by omega) (by omega) kd29_4.2.1 (by decide) (fun c164 => ?_) (fun c164 => ?_)
          · exact hret _ _ _ _ _ _ kd29_5.2.2.2.2.2.2.2.1 ⟨rfl, rfl, ⟨q125, q123, q124, q126, q127, eq125, by omega, by omega, eq123, by omega, by omega, eq124, by omega, by omega, eq126, by omega, by omega, eq127, by omega, by omega, Lij156, (xIC.e ij156 (fun h9 => Or.inr ⟨rfl, by rw [← k163]; omega⟩)), (fun h9 => (sj156 h9).1), v154, v155⟩⟩ (Nat.le_refl _) (Nat.le_refl _)
          · refine X_aloadn hK (i := 0) 1 kd29_4.2.2.1 rfl rfl ?_
            refine X_dup hK kd29_4.2.2.2.1 rfl ?_
            have hl165 := xTB.lt (A := xv g122 wt) (B := xv g122 wp) (tk := tk) (tl := tl) (c := cn) (a := q123) (by rw [(Eq.trans (xv_m hg122 hs_wt (by decide) (by decide)) (xv_m hg2 hs_wt (by decide) (by decide))), (Eq.trans (xv_m hg122 hs_wp (by decide) (by decide)) (xv_m hg2 hs_wp (by decide) (by decide)))]; exact hp0) (by omega) (by rw [← k163]; omega)
            refine X_getK hK fl_X7_18_8 hs_a0 eq123 kd29_4.2.2.2.2.1 ?_
            refine X_iconst hK kd29_4.2.2.2.2.2.1 ?_
            refine X_iadd hK kd29_4.2.2.2.2.2.2.1 ?_
            refine X_puti hK fl_X7_18_8 hs_a0 (by decide) sl_8_2 (by omega) (by omega) kd29_4.2.2.2.2.2.2.2.1 (fun g166 hg166 => ?_)
            refine X_aloadn hK (i := 0) 1 kd29_4.2.2.2.2.2.2.2.2.1 rfl rfl ?_
            refine X_aloadn hK (i := 1) 2 kd29_4.2.2.2.2.2.2.2.2.2.1 rfl rfl ?_
            refine X_iloadn hK (i := 2) 3 kd29_4.2.2.2.2.2.2.2.2.2.2.1 rfl rfl ?_
            refine X_callV hK [.ref a1, .int (iI x2)] [] lk_X7_126 (m_readAll_2 _ _ _ _ _ S g166 a0 a1 x2 (q123 + 1) q124 q125 q126 wt wp q127 ws tk tl cn Lij156 b s0 hs_a0 hs_a1 (by omega) (by omega) (xs_s hg166) (by omega) ((xs_k hg166 (by decide)).trans eq124) (by omega) ((xs_k hg166 (by decide)).trans eq125) (by omega) ((xs_k hg166 (by decide)).trans eq126) ((xs_k hg166 (by decide)).trans ((hg122 a0 8 0 0 hs_a0 (by decide)).trans ((hg2 a0 8 0 0 hs_a0 (by decide)).trans ewt))) hs_wt ((xs_k hg166 (by decide)).trans ((hg122 a0 8 0 1 hs_a0 (by decide)).trans ((hg2 a0 8 0 1 hs_a0 (by decide)).trans ewp))) hs_wp (by omega) ((xs_a hg166 (xne hs_a1 hs_a0 (by decide))).trans eq127) ((xs_k hg166 (by decide)).trans ((hg122 a1 11 0 7 hs_a1 (by decide)).trans ((hg2 a1 11 0 7 hs_a1 (by decide)).trans ews))) hs_ws (by rw [(Eq.trans (Eq.trans (xv_a hg166 (xne hs_wt hs_a0 (by decide))) (xv_m hg122 hs_wt (by decide) (by decide))) (xv_m hg2 hs_wt (by decide) (by decide))), (Eq.trans (Eq.trans (xv_a hg166 (xne hs_wp hs_a0 (by decide))) (xv_m hg122 hs_wp (by decide) (by decide))) (xv_m hg2 hs_wp (by decide) (by decide)))]; exact hp0) (by omega) (by omega) (by rw [(xv_a hg166 (xne hs_ws hs_a0 (by decide)))]; exact (ivj156 (by omega))) (by omega) (by omega)) hs_a0 ⟨by decide, rfl⟩ kd29_4.2.2.2.2.2.2.2.2.2.2.2 rfl rfl (by simp [Value.category]) (by decide) (by decide) (by decide) (by decide) (fun r167 S169 g168 pr167 qr167 hg168 => ?_)
            obtain ⟨rfl, rfl, k170⟩ := pr167
            refine X_st [] rfl ?_
            obtain ⟨Ft171, at171, ot171, qt171, nt171, eFt171, lFt171, uFt171, eat171, lat171, uat171, eot171, lot171, uot171, eqt171, lqt171, uqt171, ent171, lnt171, unt171, Lt171, kt171, stt171, fst171, ftt171⟩ := k170
            have cat171 : at171 ≤ 300 := (by omega)
            refine X_aloadn hK (i := 1) 2 kd29_5.1 rfl rfl ?_
            refine X_bipush hK kd29_5.2.1 (by decide) ?_
            refine X_iconst hK kd29_5.2.2.1 ?_
            refine X_iconst hK kd29_5.2.2.2.1 ?_
            refine X_callV hK [.int (iI 14), .int (iI 0), .int (iI 0)] [] lk_X7_129 (m_addStep _ _ _ _ _ S g168 a1 14 0 0 nt171 ws hs_a1 (by omega) (by omega) (by omega) (by omega) ent171 ((hg168 a1 11 0 7 hs_a1 (by decide)).trans ((xs_k hg166 (by decide)).trans ((hg122 a1 11 0 7 hs_a1 (by decide)).trans ((hg2 a1 11 0 7 hs_a1 (by decide)).trans ews)))) hs_ws) hs_a1 ⟨by decide, rfl⟩ kd29_5.2.2.2.2.1 rfl rfl (by simp [Value.category]) (by decide) (by decide) (by decide) (by decide) (fun r172 S174 g173 pr172 qr172 hg173 => ?_)
            obtain ⟨rfl, rfl, k175, k176, k177, k178⟩ := pr172
            refine X_st [] rfl ?_
            refine X_iinc hK (i := 3) (z := z121) (n := 1) 0 [(3, .int (iI (z121 + 1))), (0, .ref a0), (1, .ref a1), (2, .int (iI x2))] kd29_5.2.2.2.2.2.1 rfl (by decide) rfl ?_
            refine X_goto hK 8 kd29_5.2.2.2.2.2.2.1 (by decide) ?_
            exact ihP150  g173 (xM.tr (xM.tr (xM_up (xM.tr xM.rf xLe.rf hg122 (by decide)) hg166 hs_a0 (by decide) (by decide)) xLe.rf hg168 (by decide)) xLe.rf hg173 (by decide)) (z121 + 1) (by omega) (by omega) at171 (by omega) (by omega) ((hg173 a0 8 0 2 hs_a0 (by decide)).trans eat171) ot171 (by omega) (by omega) ((hg173 a0 8 0 3 hs_a0 (by decide)).trans eot171) Ft171 (by omega) (by omega) ((hg173 a0 8 0 5 hs_a0 (by decide)).trans eFt171) qt171 (by omega) (by omega) ((hg173 a0 8 0 6 hs_a0 (by decide)).trans eqt171) (if nt171 < 100 then nt171 + 1 else nt171) (by omega) (by omega) k175 ⟨Lt171 ++ [(14, 0, 0)], xIC.s (Or.inr ⟨rfl, rfl, rfl, (by rw [← k163]; omega)⟩) ij156 (by omega) kt171 (fun _ => rfl), fun h9 => by have h8 := xRC.b (by omega) kt171 h9; have h7 := (stt171 h9).1; have h6 := (sj156 (by omega)).1.1; have h5 := (sj156 (by omega)).2; exact ⟨(by have h9 := (xStq.add (x := (14, 0, 0)) (stt171 (by omega)) (by omega) (by have h4a := (k176.1 (by omega)).1; unfold xec9; (try dsimp only); omega) (k176.1 (by omega)).2); rw [if_pos (by omega)]; exact h9), by rw [if_pos (by omega)]; omega⟩⟩ (fun h9 => by have h8 := xRC.b (by omega) kt171 h9; omega) (by omega) (xFr.tr (xFr.tr (xFr.t v154 hg166 hs_a0 (by decide)) fst171) k177) (xFr.tr (xFr.tr (xFr.t v155 hg166 hs_a0 (by decide)) ftt171) k178) (by omega)
  exact P150 ((60 - 0 : Int).toNat + 1) g2 xM.rf 0 (by omega) (by omega) at5 (by omega) (by omega) eat5 ot5 (by omega) (by omega) eot5 Ft5 (by omega) (by omega) eFt5 qt5 (by omega) (by omega) eqt5 nt5 (by omega) (by omega) ent5 ⟨Lt5, xIC.z (Or.inr ⟨rfl, rfl⟩) kt5, fun h9 => ⟨stt5 h9, by have h8 := xRC.b (by omega) kt5 h9; have h7 := (stt5 h9).1; have h6 := hp3.1; omega⟩⟩ (fun h9 => by have h8 := xRC.b (by omega) kt5 h9; omega) (by omega) (xFr.tr xFr.rf fst5) (xFr.tr xFr.rf ftt5) (by omega)

set_option maxHeartbeats 4000000 in
set_option maxRecDepth 100000 in
theorem m_readOne_1 (l : Launch) (D : va_G) (kA : Nat → ClassId) (b0 : Nat) (t0 : Nat → Nat) (S : xT) (g : xG) (a0 : Nat) (a1 : Nat) (x2 : Int) (na : Int) (no : Int) (nf : Int) (nq : Int) (wt : Nat) (wp : Nat) (ns : Int) (ws : Nat) (tk : Int → Int) (tl : Int → Int) (cn : Int) (L : List xS3) (b : Int) (s0 : Int → Int) (hs_a0 : S a0 = some (8, 0)) (hs_a1 : S a1 = some (11, 0)) (hx2 : 1 ≤ x2 ∧ x2 ≤ 1) (hna : 0 ≤ na ∧ na ≤ 300) (ena : g a0 2 = .int (iI na)) (hno : 0 ≤ no ∧ no ≤ 50) (eno : g a0 3 = .int (iI no)) (hnf : 0 ≤ nf ∧ nf ≤ 0) (enf : g a0 5 = .int (iI nf)) (hnq : 0 ≤ nq ∧ nq ≤ 300) (enq : g a0 6 = .int (iI nq)) (ewt : g a0 0 = .ref wt) (hs_wt : S wt = some (12900, 301)) (ewp : g a0 1 = .ref wp) (hs_wp : S wp = some (13000, 301)) (hns : 0 ≤ ns ∧ ns ≤ 100) (ens : g a1 2 = .int (iI ns)) (ews : g a1 7 = .ref ws) (hs_ws : S ws = some (14000, 100)) (hp0 : xTB (xv g wt) (xv g wp) tk tl cn) (hp1 : na ≤ cn) (hp2 : cn ≤ 300) (hp3 : xStq (xv g ws) s0 b ns L) (hp4 : 0 ≤ b) (hp5 : ns ≤ 2 * no) : xMt l yX7_readOne cX7_readOne 5 none 31 0 0 721 D kA b0 t0 [(8, 5), (8, 6), (8, 3), (8, 2), (14000, 0), (11, 2)] [.ref a0, .ref a1, .int (iI x2)] S g (fun (r : Option Value) (S1 : xT) (g1 : xG) => S = S1 ∧ r = none ∧ (∃ F a o q n : Int, g1 a0 5 = .int (iI F) ∧ -2147483648 ≤ F ∧ F ≤ 2147483647 ∧ g1 a0 2 = .int (iI a) ∧ 0 ≤ a ∧ a ≤ cn ∧ g1 a0 3 = .int (iI o) ∧ 0 ≤ o ∧ o ≤ 50 ∧ g1 a0 6 = .int (iI q) ∧ 0 ≤ q ∧ q ≤ 300 ∧ g1 a1 2 = .int (iI n) ∧ 0 ≤ n ∧ n ≤ 100 ∧ ∃ L1 : List xS3, xRC tk tl 0 1 na no L F a o q L1 ∧ (F = 0 → xStq (xv g1 ws) s0 b n L1) ∧ xFr 14000 S g g1 ws ∧ xFr 11 S g g1 a1)) := by
  refine xEnterV (by decide) (by simp [lg_sl, Value.category]) [(0, .ref a0), (1, .ref a1), (2, .int (iI x2))] rfl ?_
  intro K E hK hret _ _ _
  refine X_aloadn hK (i := 0) 0 kd29_20.2.2.2.2.2.2.1 rfl rfl ?_
  refine X_callV hK [] [] lk_X7_47 (c3_now _ _ _ _ _ S g a0 na wt wp tk tl cn hs_a0 (by omega) ena ewt hs_wt ewp hs_wp hp0 (by omega) (by omega)) hs_a0 ⟨by decide, rfl⟩ kd29_20.2.2.2.2.2.2.2.1 rfl rfl (by simp [Value.category]) (by decide) (by decide) (by decide) (by decide) (fun r1 S3 g2 pr1 qr1 hg2 => ?_)
  obtain ⟨rfl, rfl, z4, rfl, lz4, uz4, k5⟩ := pr1
  refine X_st [.int (iI z4)] rfl ?_
  refine X_istoren hK (i := 3) [(3, .int (iI z4)), (0, .ref a0), (1, .ref a1), (2, .int (iI x2))] kd29_20.2.2.2.2.2.2.2.2.1 rfl (by decide) rfl ?_
  refine X_iloadn hK (i := 3) 0 kd29_20.2.2.2.2.2.2.2.2.2.1 rfl rfl ?_
  refine X_bipush hK kd29_20.2.2.2.2.2.2.2.2.2.2.1 (by decide) ?_
  refine X_icmp_lt hK 21 (by omega) (by omega) kd29_20.2.2.2.2.2.2.2.2.2.2.2 (by decide) (fun c6 => ?_) (fun c6 => ?_)
  · refine X_iconst hK kd29_21.2.2.2.2.2.1 ?_
    refine X_istore hK (i := 4) [(4, .int (iI 0)), (3, .int (iI z4)), (0, .ref a0), (1, .ref a1), (2, .int (iI x2))] kd29_21.2.2.2.2.2.2.1 (by decide) rfl ?_
    refine X_iload hK (i := 4) 0 kd29_21.2.2.2.2.2.2.2.1 rfl ?_
    refine X_if_ne hK 49 (by omega) kd29_21.2.2.2.2.2.2.2.2.1 (by decide) (fun c7 => False.elim (by omega)) (fun c7 => ?_)
    refine X_iloadn hK (i := 3) 1 kd29_21.2.2.2.2.2.2.2.2.2.1 rfl rfl ?_
    refine X_bipush hK kd29_21.2.2.2.2.2.2.2.2.2.2.1 (by decide) ?_
    refine X_icmp_eq hK 49 (by omega) (by omega) kd29_21.2.2.2.2.2.2.2.2.2.2.2 (by decide) (fun c8 => ?_) (fun c8 => ?_)
    · refine X_aloadn hK (i := 0) 2 kd29_22.2.2.2.2.2.2.2.1 rfl rfl ?_
      refine X_getK hK fl_X7_22_8 hs_a0 eno kd29_22.2.2.2.2.2.2.2.2.1 ?_
      refine X_bipush hK kd29_22.2.2.2.2.2.2.2.2.2.1 (by decide) ?_
      refine X_icmp_ge hK 64 (by omega) (by omega) kd29_22.2.2.2.2.2.2.2.2.2.2.1 (by decide) (fun c9 => ?_) (fun c9 => ?_)
      · refine X_aloadn hK (i := 0) 2 kd29_23.2.2.1 rfl rfl ?_
        refine X_iconst hK kd29_23.2.2.2.1 ?_
        refine X_callV hK [.int (iI 4)] [] lk_X7_60 (c3_tell _ _ _ _ _ S g a0 4 na no nf nq wt wp tk tl cn hs_a0 (by omega) (by omega) ena (by omega) eno (by omega) enf (by omega) enq ewt hs_wt ewp hs_wp hp0 (by omega) (by omega)) hs_a0 ⟨by decide, rfl⟩ kd29_23.2.2.2.2.1 rfl rfl (by simp [Value.category]) (by decide) (by decide) (by decide) (by decide) (fun r10 S12 g11 pr10 qr10 hg11 => ?_)
        obtain ⟨rfl, rfl, k13⟩ := pr10
        refine X_st [] rfl ?_
        obtain ⟨Ft14, at14, ot14, qt14, eFt14, lFt14, uFt14, eat14, lat14, uat14, eot14, lot14, uot14, eqt14, lqt14, uqt14, kt14⟩ := k13
        have cat14 : at14 ≤ 300 := by have h9 := (show xTB (xv g11 wt) (xv g11 wp) tk tl cn from (by rw [(xv_m hg11 hs_wt (by decide) (by decide)), (xv_m hg11 hs_wp (by decide) (by decide))]; exact hp0)).2.2.2; omega
        refine X_goto hK 148 kd29_23.2.2.2.2.2.1 (by decide) ?_
        exact hret _ _ _ _ _ _ kd29_27.2.2.2 ⟨rfl, rfl, ⟨Ft14, at14, ot14, qt14, ns, eFt14, by omega, by omega, eat14, by omega, by omega, eot14, by omega, by omega, eqt14, by omega, by omega, ((hg11 a1 11 0 2 hs_a1 (by decide)).trans ens), by omega, by omega, [], (by obtain ⟨h8, h7, h6⟩ := kt14; have h5 := h8.resolve_left (fun q9 => by omega); rw [h5.2.1]; exact xRC.f4 (by rw [← k5]; omega) (by omega) h5.2.2), (fun h9 => by have h8 := kt14; omega), (xFr.m xFr.rf hg11 (by decide)), (xFr.m xFr.rf hg11 (by decide))⟩⟩ (Nat.le_refl _) (Nat.le_refl _)
      · refine X_iloadn hK (i := 2) 4 kd29_22.2.2.2.2.2.2.2.2.2.2.2 rfl rfl ?_
        refine X_bipush hK kd29_23.1 (by decide) ?_
        refine X_icmp_le hK 72 (by omega) (by omega) kd29_23.2.1 (by decide) (fun c15 => ?_) (fun c15 => False.elim (by omega))
        refine X_aloadn hK (i := 0) 2 kd29_23.2.2.2.2.2.2.1 rfl rfl ?_
        refine X_dup hK kd29_23.2.2.2.2.2.2.2.1 rfl ?_
        refine X_getK hK fl_X7_22_8 hs_a0 eno kd29_23.2.2.2.2.2.2.2.2.1 ?_
        refine X_iconst hK kd29_23.2.2.2.2.2.2.2.2.2.1 ?_
        refine X_iadd hK kd29_23.2.2.2.2.2.2.2.2.2.2.1 ?_
        refine X_puti hK fl_X7_22_8 hs_a0 (by decide) sl_8_3 (by omega) (by omega) kd29_23.2.2.2.2.2.2.2.2.2.2.2 (fun g16 hg16 => ?_)
        refine X_aloadn hK (i := 0) 2 kd29_24.1 rfl rfl ?_
        refine X_dup hK kd29_24.2.1 rfl ?_
        have hl17 := xTB.lt (A := xv g16 wt) (B := xv g16 wp) (tk := tk) (tl := tl) (c := cn) (a := na) (by rw [(xv_a hg16 (xne hs_wt hs_a0 (by decide))), (xv_a hg16 (xne hs_wp hs_a0 (by decide)))]; exact hp0) (by omega) (by rw [← k5]; omega)
        refine X_getK hK fl_X7_18_8 hs_a0 ((xs_k hg16 (by decide)).trans ena) kd29_24.2.2.1 ?_
        refine X_iconst hK kd29_24.2.2.2.1 ?_
        refine X_iadd hK kd29_24.2.2.2.2.1 ?_
        refine X_puti hK fl_X7_18_8 hs_a0 (by decide) sl_8_2 (by omega) (by omega) kd29_24.2.2.2.2.2.1 (fun g18 hg18 => ?_)
        refine X_iload hK (i := 4) 0 kd29_24.2.2.2.2.2.2.1 rfl ?_
        refine X_if_eq hK 109 (by omega) kd29_24.2.2.2.2.2.2.2.1 (by decide) (fun c19 => ?_) (fun c19 => False.elim (by omega))
        refine X_iloadn hK (i := 3) 1 kd29_25.2.2.2.1 rfl rfl ?_
        refine X_bipush hK kd29_25.2.2.2.2.1 (by decide) ?_
        refine X_icmp_ne hK 132 (by omega) (by omega) kd29_25.2.2.2.2.2.1 (by decide) (fun c20 => ?_) (fun c20 => False.elim (by omega))
        refine X_aloadn hK (i := 0) 2 kd29_26.2.2.2.2.1 rfl rfl ?_
        refine X_aloadn hK (i := 1) 3 kd29_26.2.2.2.2.2.1 rfl rfl ?_
        refine X_iloadn hK (i := 2) 4 kd29_26.2.2.2.2.2.2.1 rfl rfl ?_
        refine X_iconst hK kd29_26.2.2.2.2.2.2.2.1 ?_
        refine X_iadd hK kd29_26.2.2.2.2.2.2.2.2.1 ?_
        refine X_callV hK [.ref a1, .int (iI (x2 + 1))] [] lk_X7_132 (m_readOne_2 _ _ _ _ _ S g18 a0 a1 (x2 + 1) (na + 1) (no + 1) nf nq wt wp ns ws tk tl cn L b s0 hs_a0 hs_a1 (by omega) (by omega) (xs_s hg18) (by omega) ((xs_k hg18 (by decide)).trans (xs_s hg16)) (by omega) ((xs_k hg18 (by decide)).trans ((xs_k hg16 (by decide)).trans enf)) (by omega) ((xs_k hg18 (by decide)).trans ((xs_k hg16 (by decide)).trans enq)) ((xs_k hg18 (by decide)).trans ((xs_k hg16 (by decide)).trans ewt)) hs_wt ((xs_k hg18 (by decide)).trans ((xs_k hg16 (by decide)).trans ewp)) hs_wp (by omega) ((xs_a hg18 (xne hs_a1 hs_a0 (by decide))).trans ((xs_k hg16 (by decide)).trans ens)) ((xs_k hg18 (by decide)).trans ((xs_k hg16 (by decide)).trans ews)) hs_ws (by rw [(Eq.trans (xv_a hg18 (xne hs_wt hs_a0 (by decide))) (xv_a hg16 (xne hs_wt hs_a0 (by decide)))), (Eq.trans (xv_a hg18 (xne hs_wp hs_a0 (by decide))) (xv_a hg16 (xne hs_wp hs_a0 (by decide))))]; exact hp0) (by omega) (by omega) (by rw [(Eq.trans (xv_a hg18 (xne hs_ws hs_a0 (by decide))) (xv_a hg16 (xne hs_ws hs_a0 (by decide))))]; exact hp3) (by omega) (by omega)) hs_a0 ⟨by decide, rfl⟩ kd29_26.2.2.2.2.2.2.2.2.2.1 rfl rfl (by simp [Value.category]) (by decide) (by decide) (by decide) (by decide) (fun r21 S23 g22 pr21 qr21 hg22 => ?_)
        obtain ⟨rfl, rfl, k24⟩ := pr21
        refine X_st [] rfl ?_
        obtain ⟨Ft25, at25, ot25, qt25, nt25, eFt25, lFt25, uFt25, eat25, lat25, uat25, eot25, lot25, uot25, eqt25, lqt25, uqt25, ent25, lnt25, unt25, Lt25, kt25, stt25, fst25, ftt25⟩ := k24
        have cat25 : at25 ≤ 300 := (by omega)
        refine X_aloadn hK (i := 1) 3 kd29_26.2.2.2.2.2.2.2.2.2.2.1 rfl rfl ?_
        refine X_bipush hK kd29_26.2.2.2.2.2.2.2.2.2.2.2 (by decide) ?_
        refine X_iconst hK kd29_27.1 ?_
        refine X_iconst hK kd29_27.2.1 ?_
        refine X_callV hK [.int (iI 12), .int (iI 0), .int (iI 0)] [] lk_X7_129 (m_addStep _ _ _ _ _ S g22 a1 12 0 0 nt25 ws hs_a1 (by omega) (by omega) (by omega) (by omega) ent25 ((hg22 a1 11 0 7 hs_a1 (by decide)).trans ((xs_k hg18 (by decide)).trans ((xs_k hg16 (by decide)).trans ews))) hs_ws) hs_a1 ⟨by decide, rfl⟩ kd29_27.2.2.1 rfl rfl (by simp [Value.category]) (by decide) (by decide) (by decide) (by decide) (fun r26 S28 g27 pr26 qr26 hg27 => ?_)
        obtain ⟨rfl, rfl, k29, k30, k31, k32⟩ := pr26
        refine X_st [] rfl ?_
        exact hret _ _ _ _ _ _ kd29_27.2.2.2 ⟨rfl, rfl, ⟨Ft25, at25, ot25, qt25, (if nt25 < 100 then nt25 + 1 else nt25), ((hg27 a0 8 0 5 hs_a0 (by decide)).trans eFt25), by omega, by omega, ((hg27 a0 8 0 2 hs_a0 (by decide)).trans eat25), by omega, by omega, ((hg27 a0 8 0 3 hs_a0 (by decide)).trans eot25), by omega, by omega, ((hg27 a0 8 0 6 hs_a0 (by decide)).trans eqt25), by omega, by omega, k29, by omega, by omega, (Lt25 ++ [(12, 0, 0)]), (xRC.nt (by rw [← k5]; omega) (by omega) kt25 (fun _ => rfl)), (fun h9 => by have h6 := xRC.b (by omega) kt25 h9; have h5 := (stt25 h9).1; have h4 := hp3.1; exact (by have h9 := (xStq.add (x := (12, 0, 0)) (stt25 (by omega)) (by omega) (by have h4a := (k30.1 (by omega)).1; unfold xec9; (try dsimp only); omega) (k30.1 (by omega)).2); rw [if_pos (by omega)]; exact h9)), (xFr.tr (xFr.tr (xFr.t (xFr.t xFr.rf hg16 hs_a0 (by decide)) hg18 hs_a0 (by decide)) fst25) k31), (xFr.tr (xFr.tr (xFr.t (xFr.t xFr.rf hg16 hs_a0 (by decide)) hg18 hs_a0 (by decide)) ftt25) k32)⟩⟩ (Nat.le_refl _) (Nat.le_refl _)
    · refine X_iloadn hK (i := 3) 1 kd29_22.1 rfl rfl ?_
      refine X_bipush hK kd29_22.2.1 (by decide) ?_
      refine X_icmp_eq hK 49 (by omega) (by omega) kd29_22.2.2.1 (by decide) (fun c33 => False.elim (by omega)) (fun c33 => ?_)
      refine X_aloadn hK (i := 0) 2 kd29_22.2.2.2.1 rfl rfl ?_
      refine X_iconst hK kd29_22.2.2.2.2.1 ?_
      refine X_callV hK [.int (iI 1)] [] lk_X7_60 (c3_tell _ _ _ _ _ S g a0 1 na no nf nq wt wp tk tl cn hs_a0 (by omega) (by omega) ena (by omega) eno (by omega) enf (by omega) enq ewt hs_wt ewp hs_wp hp0 (by omega) (by omega)) hs_a0 ⟨by decide, rfl⟩ kd29_22.2.2.2.2.2.1 rfl rfl (by simp [Value.category]) (by decide) (by decide) (by decide) (by decide) (fun r34 S36 g35 pr34 qr34 hg35 => ?_)
      obtain ⟨rfl, rfl, k37⟩ := pr34
      refine X_st [] rfl ?_
      obtain ⟨Ft38, at38, ot38, qt38, eFt38, lFt38, uFt38, eat38, lat38, uat38, eot38, lot38, uot38, eqt38, lqt38, uqt38, kt38⟩ := k37
      have cat38 : at38 ≤ 300 := by have h9 := (show xTB (xv g35 wt) (xv g35 wp) tk tl cn from (by rw [(xv_m hg35 hs_wt (by decide) (by decide)), (xv_m hg35 hs_wp (by decide) (by decide))]; exact hp0)).2.2.2; omega
      refine X_goto hK 148 kd29_22.2.2.2.2.2.2.1 (by decide) ?_
      exact hret _ _ _ _ _ _ kd29_27.2.2.2 ⟨rfl, rfl, ⟨Ft38, at38, ot38, qt38, ns, eFt38, by omega, by omega, eat38, by omega, by omega, eot38, by omega, by omega, eqt38, by omega, by omega, ((hg35 a1 11 0 2 hs_a1 (by decide)).trans ens), by omega, by omega, [], (by obtain ⟨h8, h7, h6⟩ := kt38; have h5 := h8.resolve_left (fun q9 => by omega); rw [h5.2.1]; exact xRC.f1 (by rw [← k5]; omega) h5.2.2), (fun h9 => by have h8 := kt38; omega), (xFr.m xFr.rf hg35 (by decide)), (xFr.m xFr.rf hg35 (by decide))⟩⟩ (Nat.le_refl _) (Nat.le_refl _)
  · refine X_iloadn hK (i := 3) 0 kd29_21.1 rfl rfl ?_
    refine X_bipush hK kd29_21.2.1 (by decide) ?_
    refine X_icmp_ge hK 21 (by omega) (by omega) kd29_21.2.2.1 (by decide) (fun c39 => ?_) (fun c39 => ?_)
    · refine X_iconst hK kd29_21.2.2.2.2.2.1 ?_
      refine X_istore hK (i := 4) [(4, .int (iI 0)), (3, .int (iI z4)), (0, .ref a0), (1, .ref a1), (2, .int (iI x2))] kd29_21.2.2.2.2.2.2.1 (by decide) rfl ?_
      refine X_iload hK (i := 4) 0 kd29_21.2.2.2.2.2.2.2.1 rfl ?_
      refine X_if_ne hK 49 (by omega) kd29_21.2.2.2.2.2.2.2.2.1 (by decide) (fun c40 => False.elim (by omega)) (fun c40 => ?_)
      refine X_iloadn hK (i := 3) 1 kd29_21.2.2.2.2.2.2.2.2.2.1 rfl rfl ?_
      refine X_bipush hK kd29_21.2.2.2.2.2.2.2.2.2.2.1 (by decide) ?_
      refine X_icmp_eq hK 49 (by omega) (by omega) kd29_21.2.2.2.2.2.2.2.2.2.2.2 (by decide) (fun c41 => False.elim (by omega)) (fun c41 => ?_)
      refine X_iloadn hK (i := 3) 1 kd29_22.1 rfl rfl ?_
      refine X_bipush hK kd29_22.2.1 (by decide) ?_
      refine X_icmp_eq hK 49 (by omega) (by omega) kd29_22.2.2.1 (by decide) (fun c42 => ?_) (fun c42 => ?_)
      · refine X_aloadn hK (i := 0) 2 kd29_22.2.2.2.2.2.2.2.1 rfl rfl ?_
        refine X_getK hK fl_X7_22_8 hs_a0 eno kd29_22.2.2.2.2.2.2.2.2.1 ?_
        refine X_bipush hK kd29_22.2.2.2.2.2.2.2.2.2.1 (by decide) ?_
        refine X_icmp_ge hK 64 (by omega) (by omega) kd29_22.2.2.2.2.2.2.2.2.2.2.1 (by decide) (fun c43 => ?_) (fun c43 => ?_)
        · refine X_aloadn hK (i := 0) 2 kd29_23.2.2.1 rfl rfl ?_
          refine X_iconst hK kd29_23.2.2.2.1 ?_
          refine X_callV hK [.int (iI 4)] [] lk_X7_60 (c3_tell _ _ _ _ _ S g a0 4 na no nf nq wt wp tk tl cn hs_a0 (by omega) (by omega) ena (by omega) eno (by omega) enf (by omega) enq ewt hs_wt ewp hs_wp hp0 (by omega) (by omega)) hs_a0 ⟨by decide, rfl⟩ kd29_23.2.2.2.2.1 rfl rfl (by simp [Value.category]) (by decide) (by decide) (by decide) (by decide) (fun r44 S46 g45 pr44 qr44 hg45 => ?_)
          obtain ⟨rfl, rfl, k47⟩ := pr44
          refine X_st [] rfl ?_
          obtain ⟨Ft48, at48, ot48, qt48, eFt48, lFt48, uFt48, eat48, lat48, uat48, eot48, lot48, uot48, eqt48, lqt48, uqt48, kt48⟩ := k47
          have cat48 : at48 ≤ 300 := by have h9 := (show xTB (xv g45 wt) (xv g45 wp) tk tl cn from (by rw [(xv_m hg45 hs_wt (by decide) (by decide)), (xv_m hg45 hs_wp (by decide) (by decide))]; exact hp0)).2.2.2; omega
          refine X_goto hK 148 kd29_23.2.2.2.2.2.1 (by decide) ?_
          exact hret _ _ _ _ _ _ kd29_27.2.2.2 ⟨rfl, rfl, ⟨Ft48, at48, ot48, qt48, ns, eFt48, by omega, by omega, eat48, by omega, by omega, eot48, by omega, by omega, eqt48, by omega, by omega, ((hg45 a1 11 0 2 hs_a1 (by decide)).trans ens), by omega, by omega, [], (by obtain ⟨h8, h7, h6⟩ := kt48; have h5 := h8.resolve_left (fun q9 => by omega); rw [h5.2.1]; exact xRC.f4 (by rw [← k5]; omega) (by omega) h5.2.2), (fun h9 => by have h8 := kt48; omega), (xFr.m xFr.rf hg45 (by decide)), (xFr.m xFr.rf hg45 (by decide))⟩⟩ (Nat.le_refl _) (Nat.le_refl _)
        · refine X_iloadn hK (i := 2) 4 kd29_22.2.2.2.2.2.2.2.2.2.2.2 rfl rfl ?_
          refine X_bipush hK kd29_23.1 (by decide) ?_
          refine X_icmp_le hK 72 (by omega) (by omega) kd29_23.2.1 (by decide) (fun c49 => ?_) (fun c49 => False.elim (by omega))
          refine X_aloadn hK (i := 0) 2 kd29_23.2.2.2.2.2.2.1 rfl rfl ?_
          refine X_dup hK kd29_23.2.2.2.2.2.2.2.1 rfl ?_
          refine X_getK hK fl_X7_22_8 hs_a0 eno kd29_23.2.2.2.2.2.2.2.2.1 ?_
          refine X_iconst hK kd29_23.2.2.2.2.2.2.2.2.2.1 ?_
          refine X_iadd hK kd29_23.2.2.2.2.2.2.2.2.2.2.1 ?_
          refine X_puti hK fl_X7_22_8 hs_a0 (by decide) sl_8_3 (by omega) (by omega) kd29_23.2.2.2.2.2.2.2.2.2.2.2 (fun g50 hg50 => ?_)
          refine X_aloadn hK (i := 0) 2 kd29_24.1 rfl rfl ?_
          refine X_dup hK kd29_24.2.1 rfl ?_
          have hl51 := xTB.lt (A := xv g50 wt) (B := xv g50 wp) (tk := tk) (tl := tl) (c := cn) (a := na) (by rw [(xv_a hg50 (xne hs_wt hs_a0 (by decide))), (xv_a hg50 (xne hs_wp hs_a0 (by decide)))]; exact hp0) (by omega) (by rw [← k5]; omega)
          refine X_getK hK fl_X7_18_8 hs_a0 ((xs_k hg50 (by decide)).trans ena) kd29_24.2.2.1 ?_
          refine X_iconst hK kd29_24.2.2.2.1 ?_
          refine X_iadd hK kd29_24.2.2.2.2.1 ?_
          refine X_puti hK fl_X7_18_8 hs_a0 (by decide) sl_8_2 (by omega) (by omega) kd29_24.2.2.2.2.2.1 (fun g52 hg52 => ?_)
          refine X_iload hK (i := 4) 0 kd29_24.2.2.2.2.2.2.1 rfl ?_
          refine X_if_eq hK 109 (by omega) kd29_24.2.2.2.2.2.2.2.1 (by decide) (fun c53 => ?_) (fun c53 => False.elim (by omega))
          refine X_iloadn hK (i := 3) 1 kd29_25.2.2.2.1 rfl rfl ?_
          refine X_bipush hK kd29_25.2.2.2.2.1 (by decide) ?_
          refine X_icmp_ne hK 132 (by omega) (by omega) kd29_25.2.2.2.2.2.1 (by decide) (fun c54 => False.elim (by omega)) (fun c54 => ?_)
          refine X_aloadn hK (i := 0) 2 kd29_25.2.2.2.2.2.2.1 rfl rfl ?_
          refine X_aloadn hK (i := 1) 3 kd29_25.2.2.2.2.2.2.2.1 rfl rfl ?_
          refine X_iloadn hK (i := 2) 4 kd29_25.2.2.2.2.2.2.2.2.1 rfl rfl ?_
          refine X_iconst hK kd29_25.2.2.2.2.2.2.2.2.2.1 ?_
          refine X_iadd hK kd29_25.2.2.2.2.2.2.2.2.2.2.1 ?_
          refine X_callV hK [.ref a1, .int (iI (x2 + 1))] [] lk_X7_115 (m_readCond_2 _ _ _ _ _ S g52 a0 a1 (x2 + 1) (na + 1) (no + 1) nf nq wt wp ns ws tk tl cn L b s0 hs_a0 hs_a1 (by omega) (by omega) (xs_s hg52) (by omega) ((xs_k hg52 (by decide)).trans (xs_s hg50)) (by omega) ((xs_k hg52 (by decide)).trans ((xs_k hg50 (by decide)).trans enf)) (by omega) ((xs_k hg52 (by decide)).trans ((xs_k hg50 (by decide)).trans enq)) ((xs_k hg52 (by decide)).trans ((xs_k hg50 (by decide)).trans ewt)) hs_wt ((xs_k hg52 (by decide)).trans ((xs_k hg50 (by decide)).trans ewp)) hs_wp (by omega) ((xs_a hg52 (xne hs_a1 hs_a0 (by decide))).trans ((xs_k hg50 (by decide)).trans ens)) ((xs_k hg52 (by decide)).trans ((xs_k hg50 (by decide)).trans ews)) hs_ws (by rw [(Eq.trans (xv_a hg52 (xne hs_wt hs_a0 (by decide))) (xv_a hg50 (xne hs_wt hs_a0 (by decide)))), (Eq.trans (xv_a hg52 (xne hs_wp hs_a0 (by decide))) (xv_a hg50 (xne hs_wp hs_a0 (by decide))))]; exact hp0) (by omega) (by omega) (by rw [(Eq.trans (xv_a hg52 (xne hs_ws hs_a0 (by decide))) (xv_a hg50 (xne hs_ws hs_a0 (by decide))))]; exact hp3) (by omega) (by omega)) hs_a0 ⟨by decide, rfl⟩ kd29_25.2.2.2.2.2.2.2.2.2.2.2 rfl rfl (by simp [Value.category]) (by decide) (by decide) (by decide) (by decide) (fun r55 S57 g56 pr55 qr55 hg56 => ?_)
          obtain ⟨rfl, rfl, k58⟩ := pr55
          refine X_st [] rfl ?_
          obtain ⟨Ft59, at59, ot59, qt59, nt59, eFt59, lFt59, uFt59, eat59, lat59, uat59, eot59, lot59, uot59, eqt59, lqt59, uqt59, ent59, lnt59, unt59, Lt59, kt59, stt59, fst59, ftt59⟩ := k58
          have cat59 : at59 ≤ 300 := (by omega)
          refine X_aloadn hK (i := 0) 2 kd29_26.1 rfl rfl ?_
          refine X_bipush hK kd29_26.2.1 (by decide) ?_
          refine X_callV hK [.int (iI 26)] [] lk_X7_119 (c3_expect _ _ _ _ _ S g56 a0 26 at59 ot59 Ft59 qt59 wt wp tk tl cn hs_a0 (by omega) (by omega) eat59 (by omega) eot59 (by omega) eFt59 (by omega) eqt59 ((hg56 a0 8 0 0 hs_a0 (by decide)).trans ((xs_k hg52 (by decide)).trans ((xs_k hg50 (by decide)).trans ewt))) hs_wt ((hg56 a0 8 0 1 hs_a0 (by decide)).trans ((xs_k hg52 (by decide)).trans ((xs_k hg50 (by decide)).trans ewp))) hs_wp (by rw [(Eq.trans (Eq.trans (xv_m hg56 hs_wt (by decide) (by decide)) (xv_a hg52 (xne hs_wt hs_a0 (by decide)))) (xv_a hg50 (xne hs_wt hs_a0 (by decide)))), (Eq.trans (Eq.trans (xv_m hg56 hs_wp (by decide) (by decide)) (xv_a hg52 (xne hs_wp hs_a0 (by decide)))) (xv_a hg50 (xne hs_wp hs_a0 (by decide))))]; exact hp0) (by omega) (by omega)) hs_a0 ⟨by decide, rfl⟩ kd29_26.2.2.1 rfl rfl (by simp [Value.category]) (by decide) (by decide) (by decide) (by decide) (fun r60 S62 g61 pr60 qr60 hg61 => ?_)
          obtain ⟨rfl, rfl, k63⟩ := pr60
          refine X_st [] rfl ?_
          obtain ⟨Ft64, at64, ot64, qt64, eFt64, lFt64, uFt64, eat64, lat64, uat64, eot64, lot64, uot64, eqt64, lqt64, uqt64, kt64⟩ := k63
          have cat64 : at64 ≤ 300 := by have h9 := (show xTB (xv g61 wt) (xv g61 wp) tk tl cn from (by rw [(Eq.trans (Eq.trans (Eq.trans (xv_m hg61 hs_wt (by decide) (by decide)) (xv_m hg56 hs_wt (by decide) (by decide))) (xv_a hg52 (xne hs_wt hs_a0 (by decide)))) (xv_a hg50 (xne hs_wt hs_a0 (by decide)))), (Eq.trans (Eq.trans (Eq.trans (xv_m hg61 hs_wp (by decide) (by decide)) (xv_m hg56 hs_wp (by decide) (by decide))) (xv_a hg52 (xne hs_wp hs_a0 (by decide)))) (xv_a hg50 (xne hs_wp hs_a0 (by decide))))]; exact hp0)).2.2.2; omega
          refine X_goto hK 148 kd29_26.2.2.2.1 (by decide) ?_
          exact hret _ _ _ _ _ _ kd29_27.2.2.2 ⟨rfl, rfl, ⟨Ft64, at64, ot64, qt64, nt59, eFt64, by omega, by omega, eat64, by omega, by omega, eot64, by omega, by omega, eqt64, by omega, by omega, ((hg61 a1 11 0 2 hs_a1 (by decide)).trans ent59), by omega, by omega, Lt59, (by obtain ⟨h8, h7⟩ := kt64; by_cases f9 : Ft59 = 0; (rcases h8 with ⟨c1, c2, c3, c4⟩ | ⟨c1, c2, c3⟩; (rw [show Ft64 = 0 by omega, c3, h7]; exact xRC.po (by rw [← k5]; omega) (by omega) (show xRC tk tl 2 (1 + 1) (na + 1) (no + 1) L Ft59 at59 ot59 qt59 Lt59 from kt59) f9 c1); (have c4 := c3.resolve_left (fun q9 => q9.1 f9); rw [c4.2.1]; exact xRC.px (by rw [← k5]; omega) (by omega) (show xRC tk tl 2 (1 + 1) (na + 1) (no + 1) L Ft59 at59 ot59 qt59 Lt59 from kt59) f9 c1 c4.2.2)); (have h6 : Ft64 = Ft59 ∧ qt64 = qt59 := (by omega); rw [h6.1, h6.2]; exact xRC.pf (by rw [← k5]; omega) (by omega) (show xRC tk tl 2 (1 + 1) (na + 1) (no + 1) L Ft59 at59 ot59 qt59 Lt59 from kt59) f9)), (fun h9 => by have h8 := kt64; have h7 : Ft59 = 0 := (by omega); rw [(xv_m hg61 hs_ws (by decide) (by decide))]; exact stt59 h7), (xFr.m (xFr.tr (xFr.t (xFr.t xFr.rf hg50 hs_a0 (by decide)) hg52 hs_a0 (by decide)) fst59) hg61 (by decide)), (xFr.m (xFr.tr (xFr.t (xFr.t xFr.rf hg50 hs_a0 (by decide)) hg52 hs_a0 (by decide)) ftt59) hg61 (by decide))⟩⟩ (Nat.le_refl _) (Nat.le_refl _)
      · refine X_aloadn hK (i := 0) 2 kd29_22.2.2.2.1 rfl rfl ?_
        refine X_iconst hK kd29_22.2.2.2.2.1 ?_
        refine X_callV hK [.int (iI 1)] [] lk_X7_60 (c3_tell _ _ _ _ _ S g a0 1 na no nf nq wt wp tk tl cn hs_a0 (by omega) (by omega) ena (by omega) eno (by omega) enf (by omega) enq ewt hs_wt ewp hs_wp hp0 (by omega) (by omega)) hs_a0 ⟨by decide, rfl⟩ kd29_22.2.2.2.2.2.1 rfl rfl (by simp [Value.category]) (by decide) (by decide) (by decide) (by decide) (fun r65 S67 g66 pr65 qr65 hg66 => ?_)
        obtain ⟨rfl, rfl, k68⟩ := pr65
        refine X_st [] rfl ?_
        obtain ⟨Ft69, at69, ot69, qt69, eFt69, lFt69, uFt69, eat69, lat69, uat69, eot69, lot69, uot69, eqt69, lqt69, uqt69, kt69⟩ := k68
        have cat69 : at69 ≤ 300 := by have h9 := (show xTB (xv g66 wt) (xv g66 wp) tk tl cn from (by rw [(xv_m hg66 hs_wt (by decide) (by decide)), (xv_m hg66 hs_wp (by decide) (by decide))]; exact hp0)).2.2.2; omega
        refine X_goto hK 148 kd29_22.2.2.2.2.2.2.1 (by decide) ?_
        exact hret _ _ _ _ _ _ kd29_27.2.2.2 ⟨rfl, rfl, ⟨Ft69, at69, ot69, qt69, ns, eFt69, by omega, by omega, eat69, by omega, by omega, eot69, by omega, by omega, eqt69, by omega, by omega, ((hg66 a1 11 0 2 hs_a1 (by decide)).trans ens), by omega, by omega, [], (by obtain ⟨h8, h7, h6⟩ := kt69; have h5 := h8.resolve_left (fun q9 => by omega); rw [h5.2.1]; exact xRC.f1 (by rw [← k5]; omega) h5.2.2), (fun h9 => by have h8 := kt69; omega), (xFr.m xFr.rf hg66 (by decide)), (xFr.m xFr.rf hg66 (by decide))⟩⟩ (Nat.le_refl _) (Nat.le_refl _)
    · refine X_iconst hK kd29_21.2.2.2.1 ?_
      refine X_goto hK 22 kd29_21.2.2.2.2.1 (by decide) ?_
      refine X_istore hK (i := 4) [(4, .int (iI 1)), (3, .int (iI z4)), (0, .ref a0), (1, .ref a1), (2, .int (iI x2))] kd29_21.2.2.2.2.2.2.1 (by decide) rfl ?_
      refine X_iload hK (i := 4) 0 kd29_21.2.2.2.2.2.2.2.1 rfl ?_
      refine X_if_ne hK 49 (by omega) kd29_21.2.2.2.2.2.2.2.2.1 (by decide) (fun c70 => ?_) (fun c70 => False.elim (by omega))
      refine X_aloadn hK (i := 0) 2 kd29_22.2.2.2.2.2.2.2.1 rfl rfl ?_
      refine X_getK hK fl_X7_22_8 hs_a0 eno kd29_22.2.2.2.2.2.2.2.2.1 ?_
      refine X_bipush hK kd29_22.2.2.2.2.2.2.2.2.2.1 (by decide) ?_
      refine X_icmp_ge hK 64 (by omega) (by omega) kd29_22.2.2.2.2.2.2.2.2.2.2.1 (by decide) (fun c71 => ?_) (fun c71 => ?_)
      · refine X_aloadn hK (i := 0) 2 kd29_23.2.2.1 rfl rfl ?_
        refine X_iconst hK kd29_23.2.2.2.1 ?_
        refine X_callV hK [.int (iI 4)] [] lk_X7_60 (c3_tell _ _ _ _ _ S g a0 4 na no nf nq wt wp tk tl cn hs_a0 (by omega) (by omega) ena (by omega) eno (by omega) enf (by omega) enq ewt hs_wt ewp hs_wp hp0 (by omega) (by omega)) hs_a0 ⟨by decide, rfl⟩ kd29_23.2.2.2.2.1 rfl rfl (by simp [Value.category]) (by decide) (by decide) (by decide) (by decide) (fun r72 S74 g73 pr72 qr72 hg73 => ?_)
        obtain ⟨rfl, rfl, k75⟩ := pr72
        refine X_st [] rfl ?_
        obtain ⟨Ft76, at76, ot76, qt76, eFt76, lFt76, uFt76, eat76, lat76, uat76, eot76, lot76, uot76, eqt76, lqt76, uqt76, kt76⟩ := k75
        have cat76 : at76 ≤ 300 := by have h9 := (show xTB (xv g73 wt) (xv g73 wp) tk tl cn from (by rw [(xv_m hg73 hs_wt (by decide) (by decide)), (xv_m hg73 hs_wp (by decide) (by decide))]; exact hp0)).2.2.2; omega
        refine X_goto hK 148 kd29_23.2.2.2.2.2.1 (by decide) ?_
        exact hret _ _ _ _ _ _ kd29_27.2.2.2 ⟨rfl, rfl, ⟨Ft76, at76, ot76, qt76, ns, eFt76, by omega, by omega, eat76, by omega, by omega, eot76, by omega, by omega, eqt76, by omega, by omega, ((hg73 a1 11 0 2 hs_a1 (by decide)).trans ens), by omega, by omega, [], (by obtain ⟨h8, h7, h6⟩ := kt76; have h5 := h8.resolve_left (fun q9 => by omega); rw [h5.2.1]; exact xRC.f4 (by rw [← k5]; omega) (by omega) h5.2.2), (fun h9 => by have h8 := kt76; omega), (xFr.m xFr.rf hg73 (by decide)), (xFr.m xFr.rf hg73 (by decide))⟩⟩ (Nat.le_refl _) (Nat.le_refl _)
      · refine X_iloadn hK (i := 2) 4 kd29_22.2.2.2.2.2.2.2.2.2.2.2 rfl rfl ?_
        refine X_bipush hK kd29_23.1 (by decide) ?_
        refine X_icmp_le hK 72 (by omega) (by omega) kd29_23.2.1 (by decide) (fun c77 => ?_) (fun c77 => False.elim (by omega))
        refine X_aloadn hK (i := 0) 2 kd29_23.2.2.2.2.2.2.1 rfl rfl ?_
        refine X_dup hK kd29_23.2.2.2.2.2.2.2.1 rfl ?_
        refine X_getK hK fl_X7_22_8 hs_a0 eno kd29_23.2.2.2.2.2.2.2.2.1 ?_
        refine X_iconst hK kd29_23.2.2.2.2.2.2.2.2.2.1 ?_
        refine X_iadd hK kd29_23.2.2.2.2.2.2.2.2.2.2.1 ?_
        refine X_puti hK fl_X7_22_8 hs_a0 (by decide) sl_8_3 (by omega) (by omega) kd29_23.2.2.2.2.2.2.2.2.2.2.2 (fun g78 hg78 => ?_)
        refine X_aloadn hK (i := 0) 2 kd29_24.1 rfl rfl ?_
        refine X_dup hK kd29_24.2.1 rfl ?_
        have hl79 := xTB.lt (A := xv g78 wt) (B := xv g78 wp) (tk := tk) (tl := tl) (c := cn) (a := na) (by rw [(xv_a hg78 (xne hs_wt hs_a0 (by decide))), (xv_a hg78 (xne hs_wp hs_a0 (by decide)))]; exact hp0) (by omega) (by rw [← k5]; omega)
        refine X_getK hK fl_X7_18_8 hs_a0 ((xs_k hg78 (by decide)).trans ena) kd29_24.2.2.1 ?_
        refine X_iconst hK kd29_24.2.2.2.1 ?_
        refine X_iadd hK kd29_24.2.2.2.2.1 ?_
        refine X_puti hK fl_X7_18_8 hs_a0 (by decide) sl_8_2 (by omega) (by omega) kd29_24.2.2.2.2.2.1 (fun g80 hg80 => ?_)
        refine X_iload hK (i := 4) 0 kd29_24.2.2.2.2.2.2.1 rfl ?_
        refine X_if_eq hK 109 (by omega) kd29_24.2.2.2.2.2.2.2.1 (by decide) (fun c81 => False.elim (by omega)) (fun c81 => ?_)
        refine X_aloadn hK (i := 0) 2 kd29_24.2.2.2.2.2.2.2.2.1 rfl rfl ?_
        refine X_aloadn hK (i := 1) 3 kd29_24.2.2.2.2.2.2.2.2.2.1 rfl rfl ?_
        refine X_iloadn hK (i := 3) 1 kd29_24.2.2.2.2.2.2.2.2.2.2.1 rfl rfl ?_
        refine X_bipush hK kd29_24.2.2.2.2.2.2.2.2.2.2.2 (by decide) ?_
        refine X_isub hK kd29_25.1 ?_
        refine X_callV hK [.ref a1, .int (iI (z4 - 10))] [] lk_X7_135 (m_readFact _ _ _ _ _ S g80 a0 a1 (z4 - 10) (na + 1) (no + 1) nf nq wt wp ns ws tk tl cn L b s0 1 hs_a0 hs_a1 (by omega) (by omega) (xs_s hg80) (by omega) ((xs_k hg80 (by decide)).trans (xs_s hg78)) (by omega) ((xs_k hg80 (by decide)).trans ((xs_k hg78 (by decide)).trans enf)) (by omega) ((xs_k hg80 (by decide)).trans ((xs_k hg78 (by decide)).trans enq)) ((xs_k hg80 (by decide)).trans ((xs_k hg78 (by decide)).trans ewt)) hs_wt ((xs_k hg80 (by decide)).trans ((xs_k hg78 (by decide)).trans ewp)) hs_wp (by omega) ((xs_a hg80 (xne hs_a1 hs_a0 (by decide))).trans ((xs_k hg78 (by decide)).trans ens)) ((xs_k hg80 (by decide)).trans ((xs_k hg78 (by decide)).trans ews)) hs_ws (by rw [(Eq.trans (xv_a hg80 (xne hs_wt hs_a0 (by decide))) (xv_a hg78 (xne hs_wt hs_a0 (by decide)))), (Eq.trans (xv_a hg80 (xne hs_wp hs_a0 (by decide))) (xv_a hg78 (xne hs_wp hs_a0 (by decide))))]; exact hp0) (by omega) (by omega) (by rw [(Eq.trans (xv_a hg80 (xne hs_ws hs_a0 (by decide))) (xv_a hg78 (xne hs_ws hs_a0 (by decide))))]; exact hp3) (by omega) (by omega) (by rw [show (na + 1) - 1 = na by omega, ← k5]; omega) (by omega)) hs_a0 ⟨by decide, rfl⟩ kd29_25.2.1 rfl rfl (by simp [Value.category]) (by decide) (by decide) (by decide) (by decide) (fun r82 S84 g83 pr82 qr82 hg83 => ?_)
        obtain ⟨rfl, rfl, k85⟩ := pr82
        refine X_st [] rfl ?_
        obtain ⟨Ft86, at86, ot86, qt86, nt86, eFt86, lFt86, uFt86, eat86, lat86, uat86, eot86, lot86, uot86, eqt86, lqt86, uqt86, ent86, lnt86, unt86, Lt86, kt86, stt86, fst86, ftt86⟩ := k85
        have cat86 : at86 ≤ 300 := (by omega)
        refine X_goto hK 148 kd29_25.2.2.1 (by decide) ?_
        exact hret _ _ _ _ _ _ kd29_27.2.2.2 ⟨rfl, rfl, ⟨Ft86, at86, ot86, qt86, nt86, eFt86, by omega, by omega, eat86, by omega, by omega, eot86, by omega, by omega, eqt86, by omega, by omega, ent86, by omega, by omega, Lt86, (by have h9 := kt86; rw [show na + 1 - 1 = na by omega, show no + 1 - 1 = no by omega] at h9; exact h9), stt86, (xFr.tr (xFr.t (xFr.t xFr.rf hg78 hs_a0 (by decide)) hg80 hs_a0 (by decide)) fst86), (xFr.tr (xFr.t (xFr.t xFr.rf hg78 hs_a0 (by decide)) hg80 hs_a0 (by decide)) ftt86)⟩⟩ (Nat.le_refl _) (Nat.le_refl _)

set_option maxHeartbeats 4000000 in
set_option maxRecDepth 100000 in
theorem m_readAll_1 (l : Launch) (D : va_G) (kA : Nat → ClassId) (b0 : Nat) (t0 : Nat → Nat) (S : xT) (g : xG) (a0 : Nat) (a1 : Nat) (x2 : Int) (na : Int) (no : Int) (nf : Int) (nq : Int) (wt : Nat) (wp : Nat) (ns : Int) (ws : Nat) (tk : Int → Int) (tl : Int → Int) (cn : Int) (L : List xS3) (b : Int) (s0 : Int → Int) (hs_a0 : S a0 = some (8, 0)) (hs_a1 : S a1 = some (11, 0)) (hx2 : 1 ≤ x2 ∧ x2 ≤ 1) (hna : 0 ≤ na ∧ na ≤ 300) (ena : g a0 2 = .int (iI na)) (hno : 0 ≤ no ∧ no ≤ 50) (eno : g a0 3 = .int (iI no)) (hnf : 0 ≤ nf ∧ nf ≤ 0) (enf : g a0 5 = .int (iI nf)) (hnq : 0 ≤ nq ∧ nq ≤ 300) (enq : g a0 6 = .int (iI nq)) (ewt : g a0 0 = .ref wt) (hs_wt : S wt = some (12900, 301)) (ewp : g a0 1 = .ref wp) (hs_wp : S wp = some (13000, 301)) (hns : 0 ≤ ns ∧ ns ≤ 100) (ens : g a1 2 = .int (iI ns)) (ews : g a1 7 = .ref ws) (hs_ws : S ws = some (14000, 100)) (hp0 : xTB (xv g wt) (xv g wp) tk tl cn) (hp1 : na ≤ cn) (hp2 : cn ≤ 300) (hp3 : xStq (xv g ws) s0 b ns L) (hp4 : 0 ≤ b) (hp5 : ns ≤ 2 * no) : xMt l yX7_readAll cX7_readAll 4 none 32 0 0 745 D kA b0 t0 [(8, 5), (8, 6), (8, 3), (8, 2), (14000, 0), (11, 2)] [.ref a0, .ref a1, .int (iI x2)] S g (fun (r : Option Value) (S1 : xT) (g1 : xG) => S = S1 ∧ r = none ∧ (∃ F a o q n : Int, g1 a0 5 = .int (iI F) ∧ -2147483648 ≤ F ∧ F ≤ 2147483647 ∧ g1 a0 2 = .int (iI a) ∧ 0 ≤ a ∧ a ≤ cn ∧ g1 a0 3 = .int (iI o) ∧ 0 ≤ o ∧ o ≤ 50 ∧ g1 a0 6 = .int (iI q) ∧ 0 ≤ q ∧ q ≤ 300 ∧ g1 a1 2 = .int (iI n) ∧ 0 ≤ n ∧ n ≤ 100 ∧ ∃ L1 : List xS3, xRC tk tl 1 1 na no L F a o q L1 ∧ (F = 0 → xStq (xv g1 ws) s0 b n L1) ∧ xFr 14000 S g g1 ws ∧ xFr 11 S g g1 a1)) := by
  refine xEnterV (by decide) (by simp [lg_sl, Value.category]) [(0, .ref a0), (1, .ref a1), (2, .int (iI x2))] rfl ?_
  intro K E hK hret _ _ _
  refine X_aloadn hK (i := 0) 0 kd29_0.1 rfl rfl ?_
  refine X_aloadn hK (i := 1) 1 kd29_0.2.1 rfl rfl ?_
  refine X_iloadn hK (i := 2) 2 kd29_0.2.2.1 rfl rfl ?_
  refine X_callV hK [.ref a1, .int (iI x2)] [] lk_X7_132 (m_readOne_1 _ _ _ _ _ S g a0 a1 x2 na no nf nq wt wp ns ws tk tl cn L b s0 hs_a0 hs_a1 (by omega) (by omega) ena (by omega) eno (by omega) enf (by omega) enq ewt hs_wt ewp hs_wp (by omega) ens ews hs_ws hp0 (by omega) (by omega) hp3 (by omega) (by omega)) hs_a0 ⟨by decide, rfl⟩ kd29_0.2.2.2.1 rfl rfl (by simp [Value.category]) (by decide) (by decide) (by decide) (by decide) (fun r1 S3 g2 pr1 qr1 hg2 => ?_)
  obtain ⟨rfl, rfl, k4⟩ := pr1
  refine X_st [] rfl ?_
  obtain ⟨Ft5, at5, ot5, qt5, nt5, eFt5, lFt5, uFt5, eat5, lat5, uat5, eot5, lot5, uot5, eqt5, lqt5, uqt5, ent5, lnt5, unt5, Lt5, kt5, stt5, fst5, ftt5⟩ := k4
  have cat5 : at5 ≤ 300 := (by omega)
  refine X_iconst hK kd29_0.2.2.2.2.1 ?_
  refine X_istoren hK (i := 3) [(3, .int (iI 0)), (0, .ref a0), (1, .ref a1), (2, .int (iI x2))] kd29_0.2.2.2.2.2.1 rfl (by decide) rfl ?_
  have P150 : ∀ (nP150 : Nat) (g122 : xG) (_ : xM [(14000, 0), (11, 2), (8, 5), (8, 6), (8, 3), (8, 2)] S g2 g122) (z121 : Int) (_ : 0 ≤ z121) (_ : z121 ≤ 50) (q123 : Int) (_ : 0 ≤ q123) (_ : q123 ≤ 300) (_ : g122 a0 2 = .int (iI q123)) (q124 : Int) (_ : 0 ≤ q124) (_ : q124 ≤ 50) (_ : g122 a0 3 = .int (iI q124)) (q125 : Int) (_ : (-2147483648) ≤ q125) (_ : q125 ≤ 2147483647) (_ : g122 a0 5 = .int (iI q125)) (q126 : Int) (_ : 0 ≤ q126) (_ : q126 ≤ 300) (_ : g122 a0 6 = .int (iI q126)) (q127 : Int) (_ : 0 ≤ q127) (_ : q127 ≤ 100) (_ : g122 a1 2 = .int (iI q127)) (_ : ∃ Li : List xS3, xIC tk tl 1 1 na no L q125 q123 q124 q126 Li ∧ (q125 = 0 → xStq (xv g122 ws) s0 b q127 Li ∧ q127 ≤ 2 * q124 - 1)) (_ : q125 = 0 → no + 1 + z121 ≤ q124) (_ : q123 ≤ cn) (_ : xFr 14000 S g g122 ws) (_ : xFr 11 S g g122 a1) (_ : 60 - z121 < (nP150 : Int)), X K E 8 [(3, .int (iI z121)), (0, .ref a0), (1, .ref a1), (2, .int (iI x2))] [] S g122 0 0 := by
    intro nP150
    induction nP150 with
    | zero => intro g122 hg122 z121 lz121 uz121 q123 lq123 uq123 eq123 q124 lq124 uq124 eq124 q125 lq125 uq125 eq125 q126 lq126 uq126 eq126 q127 lq127 uq127 eq127 v151 v152 v153 v154 v155 mP150; exact False.elim (by omega)
    | succ nP150 ihP150 =>
      intro g122 hg122 z121 lz121 uz121 q123 lq123 uq123 eq123 q124 lq124 uq124 eq124 q125 lq125 uq125 eq125 q126 lq126 uq126 eq126 q127 lq127 uq127 eq127 v151 v152 v153 v154 v155 mP150
      refine X_iloadn hK (i := 3) 0 kd29_0.2.2.2.2.2.2.1 rfl rfl ?_
      obtain ⟨Lij156, ij156, sj156⟩ := id v151
      have ivj156 : q125 = 0 → _ := fun h9 => (sj156 h9).1
      have nbj156 : q125 = 0 → q127 ≤ 2 * q124 - 1 := fun h9 => (sj156 h9).2
      refine X_bipush hK kd29_0.2.2.2.2.2.2.2.1 (by decide) ?_
      refine X_icmp_ge hK 60 (by omega) (by omega) kd29_0.2.2.2.2.2.2.2.2.1 (by decide) (fun c157 => ?_) (fun c157 => ?_)
      · exact hret _ _ _ _ _ _ kd29_2.2.2.2.2.2.2.2.2.2.1 ⟨rfl, rfl, ⟨q125, q123, q124, q126, q127, eq125, by omega, by omega, eq123, by omega, by omega, eq124, by omega, by omega, eq126, by omega, by omega, eq127, by omega, by omega, Lij156, (xIC.e ij156 (fun h9 => False.elim (by have h8 := v152 h9; omega))), (fun h9 => (sj156 h9).1), v154, v155⟩⟩ (Nat.le_refl _) (Nat.le_refl _)
      · refine X_aloadn hK (i := 0) 1 kd29_0.2.2.2.2.2.2.2.2.2.1 rfl rfl ?_
        refine X_getK hK fl_X7_29_8 hs_a0 eq125 kd29_0.2.2.2.2.2.2.2.2.2.2.1 ?_
        refine X_if_ne hK 60 (by omega) kd29_0.2.2.2.2.2.2.2.2.2.2.2 (by decide) (fun c158 => ?_) (fun c158 => ?_)
        · exact hret _ _ _ _ _ _ kd29_2.2.2.2.2.2.2.2.2.2.1 ⟨rfl, rfl, ⟨q125, q123, q124, q126, q127, eq125, by omega, by omega, eq123, by omega, by omega, eq124, by omega, by omega, eq126, by omega, by omega, eq127, by omega, by omega, Lij156, (xIC.e ij156 (fun h9 => False.elim (by have h8 := v152 h9; omega))), (fun h9 => (sj156 h9).1), v154, v155⟩⟩ (Nat.le_refl _) (Nat.le_refl _)
        · refine X_aloadn hK (i := 0) 1 kd29_1.1 rfl rfl ?_
          refine X_callV hK [] [] lk_X7_47 (c3_now _ _ _ _ _ S g122 a0 q123 wt wp tk tl cn hs_a0 (by omega) eq123 ((hg122 a0 8 0 0 hs_a0 (by decide)).trans ((hg2 a0 8 0 0 hs_a0 (by decide)).trans ewt)) hs_wt ((hg122 a0 8 0 1 hs_a0 (by decide)).trans ((hg2 a0 8 0 1 hs_a0 (by decide)).trans ewp)) hs_wp (by rw [(Eq.trans (xv_m hg122 hs_wt (by decide) (by decide)) (xv_m hg2 hs_wt (by decide) (by decide))), (Eq.trans (xv_m hg122 hs_wp (by decide) (by decide)) (xv_m hg2 hs_wp (by decide) (by decide)))]; exact hp0) (by omega) (by omega)) hs_a0 ⟨by decide, rfl⟩ kd29_1.2.1 rfl rfl (by simp [Value.category]) (by decide) (by decide) (by decide) (by decide) (fun r159 S161 g160 pr159 qr159 hg160 => ?_)
          obtain ⟨rfl, rfl, z162, rfl, lz162, uz162, k163⟩ := pr159
          refine X_st [.int (iI z162)] rfl ?_
          refine X_bipush hK kd29_1.2.2.1 (by decide) ?_
          refine X_icmp_ne hK 60 (by omega) (by omega) kd29_1.2.2.2.1 (by decide) (fun c164 => ?_) (fun c164 => ?_)
          · exact hret _ _ _ _ _ _ kd29_2.2.2.2.2.2.2.2.2.2.1 ⟨rfl, rfl, ⟨q125, q123, q124, q126, q127, eq125, by omega, by omega, eq123, by omega, by omega, eq124, by omega, by omega, eq126, by omega, by omega, eq127, by omega, by omega, Lij156, (xIC.e ij156 (fun h9 => Or.inl ⟨rfl, by rw [← k163]; omega⟩)), (fun h9 => (sj156 h9).1), v154, v155⟩⟩ (Nat.le_refl _) (Nat.le_refl _)
          · refine X_aloadn hK (i := 0) 1 kd29_1.2.2.2.2.1 rfl rfl ?_
            refine X_dup hK kd29_1.2.2.2.2.2.1 rfl ?_
            have hl165 := xTB.lt (A := xv g122 wt) (B := xv g122 wp) (tk := tk) (tl := tl) (c := cn) (a := q123) (by rw [(Eq.trans (xv_m hg122 hs_wt (by decide) (by decide)) (xv_m hg2 hs_wt (by decide) (by decide))), (Eq.trans (xv_m hg122 hs_wp (by decide) (by decide)) (xv_m hg2 hs_wp (by decide) (by decide)))]; exact hp0) (by omega) (by rw [← k163]; omega)
            refine X_getK hK fl_X7_18_8 hs_a0 eq123 kd29_1.2.2.2.2.2.2.1 ?_
            refine X_iconst hK kd29_1.2.2.2.2.2.2.2.1 ?_
            refine X_iadd hK kd29_1.2.2.2.2.2.2.2.2.1 ?_
            refine X_puti hK fl_X7_18_8 hs_a0 (by decide) sl_8_2 (by omega) (by omega) kd29_1.2.2.2.2.2.2.2.2.2.1 (fun g166 hg166 => ?_)
            refine X_aloadn hK (i := 0) 1 kd29_1.2.2.2.2.2.2.2.2.2.2.1 rfl rfl ?_
            refine X_aloadn hK (i := 1) 2 kd29_1.2.2.2.2.2.2.2.2.2.2.2 rfl rfl ?_
            refine X_iloadn hK (i := 2) 3 kd29_2.1 rfl rfl ?_
            refine X_callV hK [.ref a1, .int (iI x2)] [] lk_X7_132 (m_readOne_1 _ _ _ _ _ S g166 a0 a1 x2 (q123 + 1) q124 q125 q126 wt wp q127 ws tk tl cn Lij156 b s0 hs_a0 hs_a1 (by omega) (by omega) (xs_s hg166) (by omega) ((xs_k hg166 (by decide)).trans eq124) (by omega) ((xs_k hg166 (by decide)).trans eq125) (by omega) ((xs_k hg166 (by decide)).trans eq126) ((xs_k hg166 (by decide)).trans ((hg122 a0 8 0 0 hs_a0 (by decide)).trans ((hg2 a0 8 0 0 hs_a0 (by decide)).trans ewt))) hs_wt ((xs_k hg166 (by decide)).trans ((hg122 a0 8 0 1 hs_a0 (by decide)).trans ((hg2 a0 8 0 1 hs_a0 (by decide)).trans ewp))) hs_wp (by omega) ((xs_a hg166 (xne hs_a1 hs_a0 (by decide))).trans eq127) ((xs_k hg166 (by decide)).trans ((hg122 a1 11 0 7 hs_a1 (by decide)).trans ((hg2 a1 11 0 7 hs_a1 (by decide)).trans ews))) hs_ws (by rw [(Eq.trans (Eq.trans (xv_a hg166 (xne hs_wt hs_a0 (by decide))) (xv_m hg122 hs_wt (by decide) (by decide))) (xv_m hg2 hs_wt (by decide) (by decide))), (Eq.trans (Eq.trans (xv_a hg166 (xne hs_wp hs_a0 (by decide))) (xv_m hg122 hs_wp (by decide) (by decide))) (xv_m hg2 hs_wp (by decide) (by decide)))]; exact hp0) (by omega) (by omega) (by rw [(xv_a hg166 (xne hs_ws hs_a0 (by decide)))]; exact (ivj156 (by omega))) (by omega) (by omega)) hs_a0 ⟨by decide, rfl⟩ kd29_2.2.1 rfl rfl (by simp [Value.category]) (by decide) (by decide) (by decide) (by decide) (fun r167 S169 g168 pr167 qr167 hg168 => ?_)
            obtain ⟨rfl, rfl, k170⟩ := pr167
            refine X_st [] rfl ?_
            obtain ⟨Ft171, at171, ot171, qt171, nt171, eFt171, lFt171, uFt171, eat171, lat171, uat171, eot171, lot171, uot171, eqt171, lqt171, uqt171, ent171, lnt171, unt171, Lt171, kt171, stt171, fst171, ftt171⟩ := k170
            have cat171 : at171 ≤ 300 := (by omega)
            refine X_aloadn hK (i := 1) 2 kd29_2.2.2.1 rfl rfl ?_
            refine X_bipush hK kd29_2.2.2.2.1 (by decide) ?_
            refine X_iconst hK kd29_2.2.2.2.2.1 ?_
            refine X_iconst hK kd29_2.2.2.2.2.2.1 ?_
            refine X_callV hK [.int (iI 13), .int (iI 0), .int (iI 0)] [] lk_X7_129 (m_addStep _ _ _ _ _ S g168 a1 13 0 0 nt171 ws hs_a1 (by omega) (by omega) (by omega) (by omega) ent171 ((hg168 a1 11 0 7 hs_a1 (by decide)).trans ((xs_k hg166 (by decide)).trans ((hg122 a1 11 0 7 hs_a1 (by decide)).trans ((hg2 a1 11 0 7 hs_a1 (by decide)).trans ews)))) hs_ws) hs_a1 ⟨by decide, rfl⟩ kd29_2.2.2.2.2.2.2.1 rfl rfl (by simp [Value.category]) (by decide) (by decide) (by decide) (by decide) (fun r172 S174 g173 pr172 qr172 hg173 => ?_)
            obtain ⟨rfl, rfl, k175, k176, k177, k178⟩ := pr172
            refine X_st [] rfl ?_
            refine X_iinc hK (i := 3) (z := z121) (n := 1) 0 [(3, .int (iI (z121 + 1))), (0, .ref a0), (1, .ref a1), (2, .int (iI x2))] kd29_2.2.2.2.2.2.2.2.1 rfl (by decide) rfl ?_
            refine X_goto hK 8 kd29_2.2.2.2.2.2.2.2.2.1 (by decide) ?_
            exact ihP150  g173 (xM.tr (xM.tr (xM_up (xM.tr xM.rf xLe.rf hg122 (by decide)) hg166 hs_a0 (by decide) (by decide)) xLe.rf hg168 (by decide)) xLe.rf hg173 (by decide)) (z121 + 1) (by omega) (by omega) at171 (by omega) (by omega) ((hg173 a0 8 0 2 hs_a0 (by decide)).trans eat171) ot171 (by omega) (by omega) ((hg173 a0 8 0 3 hs_a0 (by decide)).trans eot171) Ft171 (by omega) (by omega) ((hg173 a0 8 0 5 hs_a0 (by decide)).trans eFt171) qt171 (by omega) (by omega) ((hg173 a0 8 0 6 hs_a0 (by decide)).trans eqt171) (if nt171 < 100 then nt171 + 1 else nt171) (by omega) (by omega) k175 ⟨Lt171 ++ [(13, 0, 0)], xIC.s (Or.inl ⟨rfl, rfl, rfl, (by rw [← k163]; omega)⟩) ij156 (by omega) kt171 (fun _ => rfl), fun h9 => by have h8 := xRC.b (by omega) kt171 h9; have h7 := (stt171 h9).1; have h6 := (sj156 (by omega)).1.1; have h5 := (sj156 (by omega)).2; exact ⟨(by have h9 := (xStq.add (x := (13, 0, 0)) (stt171 (by omega)) (by omega) (by have h4a := (k176.1 (by omega)).1; unfold xec9; (try dsimp only); omega) (k176.1 (by omega)).2); rw [if_pos (by omega)]; exact h9), by rw [if_pos (by omega)]; omega⟩⟩ (fun h9 => by have h8 := xRC.b (by omega) kt171 h9; omega) (by omega) (xFr.tr (xFr.tr (xFr.t v154 hg166 hs_a0 (by decide)) fst171) k177) (xFr.tr (xFr.tr (xFr.t v155 hg166 hs_a0 (by decide)) ftt171) k178) (by omega)
  exact P150 ((60 - 0 : Int).toNat + 1) g2 xM.rf 0 (by omega) (by omega) at5 (by omega) (by omega) eat5 ot5 (by omega) (by omega) eot5 Ft5 (by omega) (by omega) eFt5 qt5 (by omega) (by omega) eqt5 nt5 (by omega) (by omega) ent5 ⟨Lt5, xIC.z (Or.inl ⟨rfl, rfl⟩) kt5, fun h9 => ⟨stt5 h9, by have h8 := xRC.b (by omega) kt5 h9; have h7 := (stt5 h9).1; have h6 := hp3.1; omega⟩⟩ (fun h9 => by have h8 := xRC.b (by omega) kt5 h9; omega) (by omega) (xFr.tr xFr.rf fst5) (xFr.tr xFr.rf ftt5) (by omega)

set_option maxHeartbeats 4000000 in
set_option maxRecDepth 100000 in
theorem m_readCond_1 (l : Launch) (D : va_G) (kA : Nat → ClassId) (b0 : Nat) (t0 : Nat → Nat) (S : xT) (g : xG) (a0 : Nat) (a1 : Nat) (x2 : Int) (na : Int) (no : Int) (nf : Int) (nq : Int) (wt : Nat) (wp : Nat) (ns : Int) (ws : Nat) (tk : Int → Int) (tl : Int → Int) (cn : Int) (L : List xS3) (b : Int) (s0 : Int → Int) (hs_a0 : S a0 = some (8, 0)) (hs_a1 : S a1 = some (11, 0)) (hx2 : 1 ≤ x2 ∧ x2 ≤ 1) (hna : 0 ≤ na ∧ na ≤ 300) (ena : g a0 2 = .int (iI na)) (hno : 0 ≤ no ∧ no ≤ 50) (eno : g a0 3 = .int (iI no)) (hnf : 0 ≤ nf ∧ nf ≤ 0) (enf : g a0 5 = .int (iI nf)) (hnq : 0 ≤ nq ∧ nq ≤ 300) (enq : g a0 6 = .int (iI nq)) (ewt : g a0 0 = .ref wt) (hs_wt : S wt = some (12900, 301)) (ewp : g a0 1 = .ref wp) (hs_wp : S wp = some (13000, 301)) (hns : 0 ≤ ns ∧ ns ≤ 100) (ens : g a1 2 = .int (iI ns)) (ews : g a1 7 = .ref ws) (hs_ws : S ws = some (14000, 100)) (hp0 : xTB (xv g wt) (xv g wp) tk tl cn) (hp1 : na ≤ cn) (hp2 : cn ≤ 300) (hp3 : xStq (xv g ws) s0 b ns L) (hp4 : 0 ≤ b) (hp5 : ns ≤ 2 * no) : xMt l yX7_readCond cX7_readCond 4 none 33 0 0 768 D kA b0 t0 [(8, 5), (8, 6), (8, 3), (8, 2), (14000, 0), (11, 2)] [.ref a0, .ref a1, .int (iI x2)] S g (fun (r : Option Value) (S1 : xT) (g1 : xG) => S = S1 ∧ r = none ∧ (∃ F a o q n : Int, g1 a0 5 = .int (iI F) ∧ -2147483648 ≤ F ∧ F ≤ 2147483647 ∧ g1 a0 2 = .int (iI a) ∧ 0 ≤ a ∧ a ≤ cn ∧ g1 a0 3 = .int (iI o) ∧ 0 ≤ o ∧ o ≤ 50 ∧ g1 a0 6 = .int (iI q) ∧ 0 ≤ q ∧ q ≤ 300 ∧ g1 a1 2 = .int (iI n) ∧ 0 ≤ n ∧ n ≤ 100 ∧ ∃ L1 : List xS3, xRC tk tl 2 1 na no L F a o q L1 ∧ (F = 0 → xStq (xv g1 ws) s0 b n L1) ∧ xFr 14000 S g g1 ws ∧ xFr 11 S g g1 a1)) := by
  refine xEnterV (by decide) (by simp [lg_sl, Value.category]) [(0, .ref a0), (1, .ref a1), (2, .int (iI x2))] rfl ?_
  intro K E hK hret _ _ _
  refine X_aloadn hK (i := 0) 0 kd29_2.2.2.2.2.2.2.2.2.2.2.1 rfl rfl ?_
  refine X_aloadn hK (i := 1) 1 kd29_2.2.2.2.2.2.2.2.2.2.2.2 rfl rfl ?_
  refine X_iloadn hK (i := 2) 2 kd29_3.1 rfl rfl ?_
  refine X_callV hK [.ref a1, .int (iI x2)] [] lk_X7_126 (m_readAll_1 _ _ _ _ _ S g a0 a1 x2 na no nf nq wt wp ns ws tk tl cn L b s0 hs_a0 hs_a1 (by omega) (by omega) ena (by omega) eno (by omega) enf (by omega) enq ewt hs_wt ewp hs_wp (by omega) ens ews hs_ws hp0 (by omega) (by omega) hp3 (by omega) (by omega)) hs_a0 ⟨by decide, rfl⟩ kd29_3.2.1 rfl rfl (by simp [Value.category]) (by decide) (by decide) (by decide) (by decide) (fun r1 S3 g2 pr1 qr1 hg2 => ?_)
  obtain ⟨rfl, rfl, k4⟩ := pr1
  refine X_st [] rfl ?_
  obtain ⟨Ft5, at5, ot5, qt5, nt5, eFt5, lFt5, uFt5, eat5, lat5, uat5, eot5, lot5, uot5, eqt5, lqt5, uqt5, ent5, lnt5, unt5, Lt5, kt5, stt5, fst5, ftt5⟩ := k4
  have cat5 : at5 ≤ 300 := (by omega)
  refine X_iconst hK kd29_3.2.2.1 ?_
  refine X_istoren hK (i := 3) [(3, .int (iI 0)), (0, .ref a0), (1, .ref a1), (2, .int (iI x2))] kd29_3.2.2.2.1 rfl (by decide) rfl ?_
  have P150 : ∀ (nP150 : Nat) (g122 : xG) (_ : xM [(14000, 0), (11, 2), (8, 5), (8, 6), (8, 3), (8, 2)] S g2 g122) (z121 : Int) (_ : 0 ≤ z121) (_ : z121 ≤ 50) (q123 : Int) (_ : 0 ≤ q123) (_ : q123 ≤ 300) (_ : g122 a0 2 = .int (iI q123)) (q124 : Int) (_ : 0 ≤ q124) (_ : q124 ≤ 50) (_ : g122 a0 3 = .int (iI q124)) (q125 : Int) (_ : (-2147483648) ≤ q125) (_ : q125 ≤ 2147483647) (_ : g122 a0 5 = .int (iI q125)) (q126 : Int) (_ : 0 ≤ q126) (_ : q126 ≤ 300) (_ : g122 a0 6 = .int (iI q126)) (q127 : Int) (_ : 0 ≤ q127) (_ : q127 ≤ 100) (_ : g122 a1 2 = .int (iI q127)) (_ : ∃ Li : List xS3, xIC tk tl 2 1 na no L q125 q123 q124 q126 Li ∧ (q125 = 0 → xStq (xv g122 ws) s0 b q127 Li ∧ q127 ≤ 2 * q124 - 1)) (_ : q125 = 0 → no + 1 + z121 ≤ q124) (_ : q123 ≤ cn) (_ : xFr 14000 S g g122 ws) (_ : xFr 11 S g g122 a1) (_ : 60 - z121 < (nP150 : Int)), X K E 8 [(3, .int (iI z121)), (0, .ref a0), (1, .ref a1), (2, .int (iI x2))] [] S g122 0 0 := by
    intro nP150
    induction nP150 with
    | zero => intro g122 hg122 z121 lz121 uz121 q123 lq123 uq123 eq123 q124 lq124 uq124 eq124 q125 lq125 uq125 eq125 q126 lq126 uq126 eq126 q127 lq127 uq127 eq127 v151 v152 v153 v154 v155 mP150; exact False.elim (by omega)
    | succ nP150 ihP150 =>
      intro g122 hg122 z121 lz121 uz121 q123 lq123 uq123 eq123 q124 lq124 uq124 eq124 q125 lq125 uq125 eq125 q126 lq126 uq126 eq126 q127 lq127 uq127 eq127 v151 v152 v153 v154 v155 mP150
      refine X_iloadn hK (i := 3) 0 kd29_3.2.2.2.2.1 rfl rfl ?_
      obtain ⟨Lij156, ij156, sj156⟩ := id v151
      have ivj156 : q125 = 0 → _ := fun h9 => (sj156 h9).1
      have nbj156 : q125 = 0 → q127 ≤ 2 * q124 - 1 := fun h9 => (sj156 h9).2
      refine X_bipush hK kd29_3.2.2.2.2.2.1 (by decide) ?_
      refine X_icmp_ge hK 60 (by omega) (by omega) kd29_3.2.2.2.2.2.2.1 (by decide) (fun c157 => ?_) (fun c157 => ?_)
      · exact hret _ _ _ _ _ _ kd29_5.2.2.2.2.2.2.2.1 ⟨rfl, rfl, ⟨q125, q123, q124, q126, q127, eq125, by omega, by omega, eq123, by omega, by omega, eq124, by omega, by omega, eq126, by omega, by omega, eq127, by omega, by omega, Lij156, (xIC.e ij156 (fun h9 => False.elim (by have h8 := v152 h9; omega))), (fun h9 => (sj156 h9).1), v154, v155⟩⟩ (Nat.le_refl _) (Nat.le_refl _)
      · refine X_aloadn hK (i := 0) 1 kd29_3.2.2.2.2.2.2.2.1 rfl rfl ?_
        refine X_getK hK fl_X7_29_8 hs_a0 eq125 kd29_3.2.2.2.2.2.2.2.2.1 ?_
        refine X_if_ne hK 60 (by omega) kd29_3.2.2.2.2.2.2.2.2.2.1 (by decide) (fun c158 => ?_) (fun c158 => ?_)
        · exact hret _ _ _ _ _ _ kd29_5.2.2.2.2.2.2.2.1 ⟨rfl, rfl, ⟨q125, q123, q124, q126, q127, eq125, by omega, by omega, eq123, by omega, by omega, eq124, by omega, by omega, eq126, by omega, by omega, eq127, by omega, by omega, Lij156, (xIC.e ij156 (fun h9 => False.elim (by have h8 := v152 h9; omega))), (fun h9 => (sj156 h9).1), v154, v155⟩⟩ (Nat.le_refl _) (Nat.le_refl _)
        · refine X_aloadn hK (i := 0) 1 kd29_3.2.2.2.2.2.2.2.2.2.2.1 rfl rfl ?_
          refine X_callV hK [] [] lk_X7_47 (c3_now _ _ _ _ _ S g122 a0 q123 wt wp tk tl cn hs_a0 (by omega) eq123 ((hg122 a0 8 0 0 hs_a0 (by decide)).trans ((hg2 a0 8 0 0 hs_a0 (by decide)).trans ewt)) hs_wt ((hg122 a0 8 0 1 hs_a0 (by decide)).trans ((hg2 a0 8 0 1 hs_a0 (by decide)).trans ewp)) hs_wp (by rw [(Eq.trans (xv_m hg122 hs_wt (by decide) (by decide)) (xv_m hg2 hs_wt (by decide) (by decide))), (Eq.trans (xv_m hg122 hs_wp (by decide) (by decide)) (xv_m hg2 hs_wp (by decide) (by decide)))]; exact hp0) (by omega) (by omega)) hs_a0 ⟨by decide, rfl⟩ kd29_3.2.2.2.2.2.2.2.2.2.2.2 rfl rfl (by simp [Value.category]) (by decide) (by decide) (by decide) (by decide) (fun r159 S161 g160 pr159 qr159 hg160 => ?_)
          obtain ⟨rfl, rfl, z162, rfl, lz162, uz162, k163⟩ := pr159
          refine X_st [.int (iI z162)] rfl ?_
          refine X_bipush hK kd29_4.1 (by decide) ?_
          refine X_icmp_ne hK 60 (by omega) (by omega) kd29_4.2.1 (by decide) (fun c164 => ?_) (fun c164 => ?_)
          · exact hret _ _ _ _ _ _ kd29_5.2.2.2.2.2.2.2.1 ⟨rfl, rfl, ⟨q125, q123, q124, q126, q127, eq125, by omega, by omega, eq123, by omega, by omega, eq124, by omega, by omega, eq126, by omega, by omega, eq127, by omega, by omega, Lij156, (xIC.e ij156 (fun h9 => Or.inr ⟨rfl, by rw [← k163]; omega⟩)), (fun h9 => (sj156 h9).1), v154, v155⟩⟩ (Nat.le_refl _) (Nat.le_refl _)
          · refine X_aloadn hK (i := 0) 1 kd29_4.2.2.1 rfl rfl ?_
            refine X_dup hK kd29_4.2.2.2.1 rfl ?_
            have hl165 := xTB.lt (A := xv g122 wt) (B := xv g122 wp) (tk := tk) (tl := tl) (c := cn) (a := q123) (by rw [(Eq.trans (xv_m hg122 hs_wt (by decide) (by decide)) (xv_m hg2 hs_wt (by decide) (by decide))), (Eq.trans (xv_m hg122 hs_wp (by decide) (by decide)) (xv_m hg2 hs_wp (by decide) (by decide)))]; exact hp0) (by omega) (by rw [← k163]; omega)
            refine X_getK hK fl_X7_18_8 hs_a0 eq123 kd29_4.2.2.2.2.1 ?_
            refine X_iconst hK kd29_4.2.2.2.2.2.1 ?_
            refine X_iadd hK kd29_4.2.2.2.2.2.2.1 ?_
            refine X_puti hK fl_X7_18_8 hs_a0 (by decide) sl_8_2 (by omega) (by omega) kd29_4.2.2.2.2.2.2.2.1 (fun g166 hg166 => ?_)
            refine X_aloadn hK (i := 0) 1 kd29_4.2.2.2.2.2.2.2.2.1 rfl rfl ?_
            refine X_aloadn hK (i := 1) 2 kd29_4.2.2.2.2.2.2.2.2.2.1 rfl rfl ?_
            refine X_iloadn hK (i := 2) 3 kd29_4.2.2.2.2.2.2.2.2.2.2.1 rfl rfl ?_
            refine X_callV hK [.ref a1, .int (iI x2)] [] lk_X7_126 (m_readAll_1 _ _ _ _ _ S g166 a0 a1 x2 (q123 + 1) q124 q125 q126 wt wp q127 ws tk tl cn Lij156 b s0 hs_a0 hs_a1 (by omega) (by omega) (xs_s hg166) (by omega) ((xs_k hg166 (by decide)).trans eq124) (by omega) ((xs_k hg166 (by decide)).trans eq125) (by omega) ((xs_k hg166 (by decide)).trans eq126) ((xs_k hg166 (by decide)).trans ((hg122 a0 8 0 0 hs_a0 (by decide)).trans ((hg2 a0 8 0 0 hs_a0 (by decide)).trans ewt))) hs_wt ((xs_k hg166 (by decide)).trans ((hg122 a0 8 0 1 hs_a0 (by decide)).trans ((hg2 a0 8 0 1 hs_a0 (by decide)).trans ewp))) hs_wp (by omega) ((xs_a hg166 (xne hs_a1 hs_a0 (by decide))).trans eq127) ((xs_k hg166 (by decide)).trans ((hg122 a1 11 0 7 hs_a1 (by decide)).trans ((hg2 a1 11 0 7 hs_a1 (by decide)).trans ews))) hs_ws (by rw [(Eq.trans (Eq.trans (xv_a hg166 (xne hs_wt hs_a0 (by decide))) (xv_m hg122 hs_wt (by decide) (by decide))) (xv_m hg2 hs_wt (by decide) (by decide))), (Eq.trans (Eq.trans (xv_a hg166 (xne hs_wp hs_a0 (by decide))) (xv_m hg122 hs_wp (by decide) (by decide))) (xv_m hg2 hs_wp (by decide) (by decide)))]; exact hp0) (by omega) (by omega) (by rw [(xv_a hg166 (xne hs_ws hs_a0 (by decide)))]; exact (ivj156 (by omega))) (by omega) (by omega)) hs_a0 ⟨by decide, rfl⟩ kd29_4.2.2.2.2.2.2.2.2.2.2.2 rfl rfl (by simp [Value.category]) (by decide) (by decide) (by decide) (by decide) (fun r167 S169 g168 pr167 qr167 hg168 => ?_)
            obtain ⟨rfl, rfl, k170⟩ := pr167
            refine X_st [] rfl ?_
            obtain ⟨Ft171, at171, ot171, qt171, nt171, eFt171, lFt171, uFt171, eat171, lat171, uat171, eot171, lot171, uot171, eqt171, lqt171, uqt171, ent171, lnt171, unt171, Lt171, kt171, stt171, fst171, ftt171⟩ := k170
            have cat171 : at171 ≤ 300 := (by omega)
            refine X_aloadn hK (i := 1) 2 kd29_5.1 rfl rfl ?_
            refine X_bipush hK kd29_5.2.1 (by decide) ?_
            refine X_iconst hK kd29_5.2.2.1 ?_
            refine X_iconst hK kd29_5.2.2.2.1 ?_
            refine X_callV hK [.int (iI 14), .int (iI 0), .int (iI 0)] [] lk_X7_129 (m_addStep _ _ _ _ _ S g168 a1 14 0 0 nt171 ws hs_a1 (by omega) (by omega) (by omega) (by omega) ent171 ((hg168 a1 11 0 7 hs_a1 (by decide)).trans ((xs_k hg166 (by decide)).trans ((hg122 a1 11 0 7 hs_a1 (by decide)).trans ((hg2 a1 11 0 7 hs_a1 (by decide)).trans ews)))) hs_ws) hs_a1 ⟨by decide, rfl⟩ kd29_5.2.2.2.2.1 rfl rfl (by simp [Value.category]) (by decide) (by decide) (by decide) (by decide) (fun r172 S174 g173 pr172 qr172 hg173 => ?_)
            obtain ⟨rfl, rfl, k175, k176, k177, k178⟩ := pr172
            refine X_st [] rfl ?_
            refine X_iinc hK (i := 3) (z := z121) (n := 1) 0 [(3, .int (iI (z121 + 1))), (0, .ref a0), (1, .ref a1), (2, .int (iI x2))] kd29_5.2.2.2.2.2.1 rfl (by decide) rfl ?_
            refine X_goto hK 8 kd29_5.2.2.2.2.2.2.1 (by decide) ?_
            exact ihP150  g173 (xM.tr (xM.tr (xM_up (xM.tr xM.rf xLe.rf hg122 (by decide)) hg166 hs_a0 (by decide) (by decide)) xLe.rf hg168 (by decide)) xLe.rf hg173 (by decide)) (z121 + 1) (by omega) (by omega) at171 (by omega) (by omega) ((hg173 a0 8 0 2 hs_a0 (by decide)).trans eat171) ot171 (by omega) (by omega) ((hg173 a0 8 0 3 hs_a0 (by decide)).trans eot171) Ft171 (by omega) (by omega) ((hg173 a0 8 0 5 hs_a0 (by decide)).trans eFt171) qt171 (by omega) (by omega) ((hg173 a0 8 0 6 hs_a0 (by decide)).trans eqt171) (if nt171 < 100 then nt171 + 1 else nt171) (by omega) (by omega) k175 ⟨Lt171 ++ [(14, 0, 0)], xIC.s (Or.inr ⟨rfl, rfl, rfl, (by rw [← k163]; omega)⟩) ij156 (by omega) kt171 (fun _ => rfl), fun h9 => by have h8 := xRC.b (by omega) kt171 h9; have h7 := (stt171 h9).1; have h6 := (sj156 (by omega)).1.1; have h5 := (sj156 (by omega)).2; exact ⟨(by have h9 := (xStq.add (x := (14, 0, 0)) (stt171 (by omega)) (by omega) (by have h4a := (k176.1 (by omega)).1; unfold xec9; (try dsimp only); omega) (k176.1 (by omega)).2); rw [if_pos (by omega)]; exact h9), by rw [if_pos (by omega)]; omega⟩⟩ (fun h9 => by have h8 := xRC.b (by omega) kt171 h9; omega) (by omega) (xFr.tr (xFr.tr (xFr.t v154 hg166 hs_a0 (by decide)) fst171) k177) (xFr.tr (xFr.tr (xFr.t v155 hg166 hs_a0 (by decide)) ftt171) k178) (by omega)
  exact P150 ((60 - 0 : Int).toNat + 1) g2 xM.rf 0 (by omega) (by omega) at5 (by omega) (by omega) eat5 ot5 (by omega) (by omega) eot5 Ft5 (by omega) (by omega) eFt5 qt5 (by omega) (by omega) eqt5 nt5 (by omega) (by omega) ent5 ⟨Lt5, xIC.z (Or.inr ⟨rfl, rfl⟩) kt5, fun h9 => ⟨stt5 h9, by have h8 := xRC.b (by omega) kt5 h9; have h7 := (stt5 h9).1; have h6 := hp3.1; omega⟩⟩ (fun h9 => by have h8 := xRC.b (by omega) kt5 h9; omega) (by omega) (xFr.tr xFr.rf fst5) (xFr.tr xFr.rf ftt5) (by omega)
