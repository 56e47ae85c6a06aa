
set_option maxHeartbeats 4000000 in
set_option maxRecDepth 100000 in
theorem m_emit (l : Launch) (D : va_G) (kA : Nat → ClassId) (b0 : Nat) (t0 : Nat → Nat) (S : xT) (g : xG) (a0 : Nat) (x1 : Int) (x2 : Int) (x3 : Int) (np : Int) (wp : Nat) (wq : Nat) (wn : Nat) (hs_a0 : S a0 = some (13, 0)) (hx1 : 0 ≤ x1 ∧ x1 ≤ 15) (hx2 : (-2147483648) ≤ x2 ∧ x2 ≤ 2147483647) (hx3 : (-2147483648) ≤ x3 ∧ x3 ≤ 2147483647) (hnp : 0 ≤ np ∧ np ≤ 119) (enp : g a0 41 = .int (iI np)) (ewp : g a0 35 = .ref wp) (hs_wp : S wp = some (15900, 1320)) (ewq : g a0 36 = .ref wq) (hs_wq : S wq = some (16000, 1320)) (ewn : g a0 37 = .ref wn) (hs_wn : S wn = some (16100, 1320)) : xMt l yX12_emit cX12_emit 5 none 0 0 0 0 D kA b0 t0 [(15900, 0), (16000, 0), (16100, 0), (13, 41)] [.ref a0, .int (iI x1), .int (iI x2), .int (iI x3)] S g (fun (r : Option Value) (S1 : xT) (g1 : xG) => S = S1 ∧ r = none ∧ (g1 a0 41 = .int (iI (np + 1))) ∧ (xUp (xv g1 wp) (xv g wp) (1200 + np) x1) ∧ (xUp (xv g1 wq) (xv g wq) (1200 + np) x2) ∧ (xUp (xv g1 wn) (xv g wn) (1200 + np) x3)) := by
  refine xEnterV (by decide) (by simp [lg_sl, Value.category]) [(0, .ref a0), (1, .int (iI x1)), (2, .int (iI x2)), (3, .int (iI x3))] rfl ?_
  intro K E hK hret _ _ _
  refine X_sipush hK kd52_5.2.2.1 (by decide) ?_
  refine X_aloadn hK (i := 0) 0 kd52_5.2.2.2.1 rfl rfl ?_
  refine X_getK hK fl_X12_313_13 hs_a0 enp kd52_5.2.2.2.2.1 ?_
  refine X_iadd hK kd52_5.2.2.2.2.2.1 ?_
  refine X_istore hK (i := 4) [(4, .int (iI (1200 + np))), (0, .ref a0), (1, .int (iI x1)), (2, .int (iI x2)), (3, .int (iI x3))] kd52_5.2.2.2.2.2.2.1 (by decide) rfl ?_
  refine X_aloadn hK (i := 0) 1 kd52_5.2.2.2.2.2.2.2.1 rfl rfl ?_
  refine X_getK hK fl_X12_68_13 hs_a0 ewp kd52_5.2.2.2.2.2.2.2.2.1 ?_
  refine X_iload hK (i := 4) 0 kd52_5.2.2.2.2.2.2.2.2.2.1 rfl ?_
  refine X_iloadn hK (i := 1) 2 kd52_5.2.2.2.2.2.2.2.2.2.2.1 rfl rfl ?_
  refine X_iast hK hs_wp (by decide) (by decide) sl_15900 (by omega) (by omega) (by omega) (by omega) kd52_5.2.2.2.2.2.2.2.2.2.2.2 (fun g1 hg1 => ?_)
  refine X_aloadn hK (i := 0) 1 kd52_6.1 rfl rfl ?_
  refine X_getK hK fl_X12_71_13 hs_a0 ((xs_a hg1 (xne hs_a0 hs_wp (by decide))).trans ewq) kd52_6.2.1 ?_
  refine X_iload hK (i := 4) 0 kd52_6.2.2.1 rfl ?_
  refine X_iloadn hK (i := 2) 3 kd52_6.2.2.2.1 rfl rfl ?_
  refine X_iast hK hs_wq (by decide) (by decide) sl_16000 (by omega) (by omega) (by omega) (by omega) kd52_6.2.2.2.2.1 (fun g2 hg2 => ?_)
  refine X_aloadn hK (i := 0) 1 kd52_6.2.2.2.2.2.1 rfl rfl ?_
  refine X_getK hK fl_X12_74_13 hs_a0 ((xs_a hg2 (xne hs_a0 hs_wq (by decide))).trans ((xs_a hg1 (xne hs_a0 hs_wp (by decide))).trans ewn)) kd52_6.2.2.2.2.2.2.1 ?_
  refine X_iload hK (i := 4) 0 kd52_6.2.2.2.2.2.2.2.1 rfl ?_
  refine X_iloadn hK (i := 3) 4 kd52_6.2.2.2.2.2.2.2.2.1 rfl rfl ?_
  refine X_iast hK hs_wn (by decide) (by decide) sl_16100 (by omega) (by omega) (by omega) (by omega) kd52_6.2.2.2.2.2.2.2.2.2.1 (fun g3 hg3 => ?_)
  refine X_aloadn hK (i := 0) 1 kd52_6.2.2.2.2.2.2.2.2.2.2.1 rfl rfl ?_
  refine X_dup hK kd52_6.2.2.2.2.2.2.2.2.2.2.2 rfl ?_
  refine X_getK hK fl_X12_313_13 hs_a0 ((xs_a hg3 (xne hs_a0 hs_wn (by decide))).trans ((xs_a hg2 (xne hs_a0 hs_wq (by decide))).trans ((xs_a hg1 (xne hs_a0 hs_wp (by decide))).trans enp))) kd52_7.1 ?_
  refine X_iconst hK kd52_7.2.1 ?_
  refine X_iadd hK kd52_7.2.2.1 ?_
  refine X_puti hK fl_X12_313_13 hs_a0 (by decide) sl_13_41 (by omega) (by omega) kd52_7.2.2.2.1 (fun g4 hg4 => ?_)
  exact hret _ _ _ _ _ _ kd52_7.2.2.2.2.1 ⟨rfl, rfl, (xs_s hg4), ⟨(show xv g4 wp (1200 + np) = x1 from by rw [(xv_a hg4 (xne hs_wp hs_a0 (by decide))), (xv_a hg3 (xne hs_wp hs_wn (by decide))), (xv_a hg2 (xne hs_wp hs_wq (by decide))), xv_s hg1 (by omega)]), (fun i9 hi9 h09 => (show xv g4 wp i9 = xv g wp i9 from by rw [(xv_a hg4 (xne hs_wp hs_a0 (by decide))), (xv_a hg3 (xne hs_wp hs_wn (by decide))), (xv_a hg2 (xne hs_wp hs_wq (by decide))), (xv_k (i := i9) hg1 (by omega) (by omega) (by omega))]))⟩, ⟨(show xv g4 wq (1200 + np) = x2 from by rw [(xv_a hg4 (xne hs_wq hs_a0 (by decide))), (xv_a hg3 (xne hs_wq hs_wn (by decide))), xv_s hg2 (by omega)]), (fun i9 hi9 h09 => (show xv g4 wq i9 = xv g wq i9 from by rw [(xv_a hg4 (xne hs_wq hs_a0 (by decide))), (xv_a hg3 (xne hs_wq hs_wn (by decide))), (xv_k (i := i9) hg2 (by omega) (by omega) (by omega)), (xv_a hg1 (xne hs_wq hs_wp (by decide)))]))⟩, ⟨(show xv g4 wn (1200 + np) = x3 from by rw [(xv_a hg4 (xne hs_wn hs_a0 (by decide))), xv_s hg3 (by omega)]), (fun i9 hi9 h09 => (show xv g4 wn i9 = xv g wn i9 from by rw [(xv_a hg4 (xne hs_wn hs_a0 (by decide))), (xv_k (i := i9) hg3 (by omega) (by omega) (by omega)), (xv_a hg2 (xne hs_wn hs_wq (by decide))), (xv_a hg1 (xne hs_wn hs_wp (by decide)))]))⟩⟩ (Nat.le_refl _) (Nat.le_refl _)

set_option maxHeartbeats 4000000 in
set_option maxRecDepth 100000 in
theorem m_drop (l : Launch) (D : va_G) (kA : Nat → ClassId) (b0 : Nat) (t0 : Nat → Nat) (S : xT) (g : xG) (a0 : Nat) (x1 : Int) (x2 : Int) (np : Int) (nt : Int) (no : Int) (nw : Int) (wp : Nat) (wl : Nat) (wq : Nat) (wn : Nat) (F9 : Int) (hs_a0 : S a0 = some (13, 0)) (hx1 : 13 ≤ x1 ∧ x1 ≤ 13) (hx2 : 13 ≤ x2 ∧ x2 ≤ 14) (hnp : 0 ≤ np ∧ np ≤ 120) (enp : g a0 41 = .int (iI np)) (hnt : 0 ≤ nt ∧ nt ≤ 64) (ent : g a0 42 = .int (iI nt)) (hno : 0 ≤ no ∧ no ≤ 50) (eno : g a0 43 = .int (iI no)) (hnw : 0 ≤ nw ∧ nw ≤ 10) (enw : g a0 44 = .int (iI nw)) (ewp : g a0 35 = .ref wp) (hs_wp : S wp = some (15900, 1320)) (ewl : g a0 38 = .ref wl) (hs_wl : S wl = some (16200, 64)) (ewq : g a0 36 = .ref wq) (hs_wq : S wq = some (16000, 1320)) (ewn : g a0 37 = .ref wn) (hs_wn : S wn = some (16100, 1320)) (hp0 : xRd (xv g wp) (xv g wl) F9 np nt no nw 0) : xMt l yX12_drop cX12_drop 3 none 1 0 0 24 D kA b0 t0 [(13, 42), (15900, 0), (16000, 0), (16100, 0), (13, 41)] [.ref a0, .int (iI x1), .int (iI x2)] S g (fun (r : Option Value) (S1 : xT) (g1 : xG) => S = S1 ∧ r = none ∧ (∃ a b : Int, g1 a0 41 = .int (iI a) ∧ np ≤ a ∧ a ≤ 120 ∧ g1 a0 42 = .int (iI b) ∧ 0 ≤ b ∧ b ≤ nt ∧ xRd (xv g1 wp) (xv g wl) F9 a b no nw 0 ∧ (b = 0 ∨ xv g wl (b - 1) < 13 ∨ x2 < xv g wl (b - 1)) ∧ (∀ k, b ≤ k → k < nt → 13 ≤ xv g wl k ∧ xv g wl k ≤ x2) ∧ xLow (1200 + F9) (xv g1 wp) (xv g wp) ∧ a = np + (nt - b) ∧ xDe9 (xv g wp) (xv g wq) (xv g wn) (xv g1 wp) (xv g1 wq) (xv g1 wn) (xv g wl) np nt b)) := by
  refine xEnterV (by decide) (by simp [lg_sl, Value.category]) [(0, .ref a0), (1, .int (iI x1)), (2, .int (iI x2))] rfl ?_
  intro K E hK hret _ _ _
  have P95 : ∀ (nP95 : Nat) (g76 : xG) (_ : xM [(15900, 0), (16000, 0), (16100, 0), (13, 41), (13, 42)] S g g76) (q77 : Int) (_ : 0 ≤ q77) (_ : q77 ≤ 120) (_ : g76 a0 41 = .int (iI q77)) (q78 : Int) (_ : 0 ≤ q78) (_ : q78 ≤ 64) (_ : g76 a0 42 = .int (iI q78)) (_ : xRd (xv g76 wp) (xv g wl) F9 q77 q78 no nw 0) (_ : q78 ≤ nt) (_ : np ≤ q77) (_ : ∀ k, q78 ≤ k → k < nt → 13 ≤ xv g wl k ∧ xv g wl k ≤ x2) (_ : xLow (1200 + F9) (xv g76 wp) (xv g wp)) (_ : q77 = np + (nt - q78)) (_ : xDe9 (xv g wp) (xv g wq) (xv g wn) (xv g76 wp) (xv g76 wq) (xv g76 wn) (xv g wl) np nt q78) (_ : q78 < (nP95 : Int)), X K E 0 [(0, .ref a0), (1, .int (iI x1)), (2, .int (iI x2))] [] S g76 0 0 := by
    intro nP95
    induction nP95 with
    | zero => intro g76 hg76 q77 lq77 uq77 eq77 q78 lq78 uq78 eq78 v96 v97 v98 v99 v100 v101 v102 mP95; exact False.elim (by omega)
    | succ nP95 ihP95 =>
      intro g76 hg76 q77 lq77 uq77 eq77 q78 lq78 uq78 eq78 v96 v97 v98 v99 v100 v101 v102 mP95
      refine X_aloadn hK (i := 0) 0 kd52_0.1 rfl rfl ?_
      have hbh103 := xRd.bd v96 (by omega)
      refine X_getK hK fl_X12_316_13 hs_a0 eq78 kd52_0.2.1 ?_
      refine X_if_le hK 54 (by omega) kd52_0.2.2.1 (by decide) (fun c104 => ?_) (fun c104 => ?_)
      · exact hret _ _ _ _ _ _ kd52_2.2.2.2.2.2.2.1 ⟨rfl, rfl, ⟨q77, q78, eq77, by omega, by omega, eq78, by omega, by omega, v96, by omega, v99, v100, by omega, v102⟩⟩ (Nat.le_refl _) (Nat.le_refl _)
      · refine X_aloadn hK (i := 0) 0 kd52_0.2.2.2.1 rfl rfl ?_
        refine X_getK hK fl_X12_77_13 hs_a0 ((hg76 a0 13 0 38 hs_a0 (by decide)).trans ewl) kd52_0.2.2.2.2.1 ?_
        refine X_aloadn hK (i := 0) 0 kd52_0.2.2.2.2.2.1 rfl rfl ?_
        refine X_getK hK fl_X12_316_13 hs_a0 eq78 kd52_0.2.2.2.2.2.2.1 ?_
        refine X_iconst hK kd52_0.2.2.2.2.2.2.2.1 ?_
        refine X_isub hK kd52_0.2.2.2.2.2.2.2.2.1 ?_
        refine X_iald hK hs_wl (by decide) sl_16200 (by omega) (by omega) kd52_0.2.2.2.2.2.2.2.2.2.1 (fun z105 ez105 lz105 uz105 => ?_)
        have hzh106 : xv g wl (q78 - 1) = z105 := by have h9 := xv_e (j := (q78 - 1)) ez105 (by omega); rw [(xv_m hg76 hs_wl (by decide) (by decide))] at h9; exact h9
        refine X_iloadn hK (i := 1) 1 kd52_0.2.2.2.2.2.2.2.2.2.2.1 rfl rfl ?_
        refine X_iloadn hK (i := 2) 2 kd52_0.2.2.2.2.2.2.2.2.2.2.2 rfl rfl ?_
        refine X_callS hK [.int (iI z105), .int (iI x1), .int (iI x2)] [] lk_X12_211 (c_X12_isIn _ _ _ _ _ S g76 z105 x1 x2 (by omega) (by omega) (by omega)) kd52_1.1 rfl rfl (by simp [Value.category]) (by decide) (by decide) (by decide) (by decide) (fun r107 S109 g108 pr107 qr107 hg108 => ?_)
        obtain ⟨rfl, rfl, z110, rfl, lz110, uz110, k111⟩ := pr107
        refine X_st [.int (iI z110)] rfl ?_
        refine X_if_eq hK 54 (by omega) kd52_1.2.1 (by decide) (fun c112 => ?_) (fun c112 => ?_)
        · exact hret _ _ _ _ _ _ kd52_2.2.2.2.2.2.2.1 ⟨rfl, rfl, ⟨q77, q78, eq77, by omega, by omega, eq78, by omega, by omega, v96, by omega, v99, v100, by omega, v102⟩⟩ (Nat.le_refl _) (Nat.le_refl _)
        · refine X_aloadn hK (i := 0) 0 kd52_1.2.2.1 rfl rfl ?_
          refine X_dup hK kd52_1.2.2.2.1 rfl ?_
          refine X_getK hK fl_X12_316_13 hs_a0 eq78 kd52_1.2.2.2.2.1 ?_
          refine X_iconst hK kd52_1.2.2.2.2.2.1 ?_
          refine X_isub hK kd52_1.2.2.2.2.2.2.1 ?_
          refine X_puti hK fl_X12_316_13 hs_a0 (by decide) sl_13_42 (by omega) (by omega) kd52_1.2.2.2.2.2.2.2.1 (fun g113 hg113 => ?_)
          refine X_aloadn hK (i := 0) 0 kd52_1.2.2.2.2.2.2.2.2.1 rfl rfl ?_
          refine X_aloadn hK (i := 0) 0 kd52_1.2.2.2.2.2.2.2.2.2.1 rfl rfl ?_
          refine X_getK hK fl_X12_77_13 hs_a0 ((xs_k hg113 (by decide)).trans ((hg76 a0 13 0 38 hs_a0 (by decide)).trans ewl)) kd52_1.2.2.2.2.2.2.2.2.2.2.1 ?_
          refine X_aloadn hK (i := 0) 0 kd52_1.2.2.2.2.2.2.2.2.2.2.2 rfl rfl ?_
          refine X_getK hK fl_X12_316_13 hs_a0 (xs_s hg113) kd52_2.1 ?_
          refine X_ialdK hK hs_wl (by decide) (by omega) (by omega) ((xs_a hg113 (xne hs_wl hs_a0 (by decide))).trans ez105) kd52_2.2.1 ?_
          have hzh114 : xv g wl (q78 - 1) = z105 := by have h9 := xv_e (j := (q78 - 1)) ((xs_a hg113 (xne hs_wl hs_a0 (by decide))).trans ez105) (by omega); rw [(Eq.trans (xv_a hg113 (xne hs_wl hs_a0 (by decide))) (xv_m hg76 hs_wl (by decide) (by decide)))] at h9; exact h9
          refine X_iconst hK kd52_2.2.2.1 ?_
          refine X_iconst hK kd52_2.2.2.2.1 ?_
          refine X_callV hK [.int (iI z105), .int (iI 0), .int (iI 0)] [] lk_X12_319 (m_emit _ _ _ _ _ S g113 a0 z105 0 0 q77 wp wq wn hs_a0 (by omega) (by omega) (by omega) (by omega) ((xs_k hg113 (by decide)).trans eq77) ((xs_k hg113 (by decide)).trans ((hg76 a0 13 0 35 hs_a0 (by decide)).trans ewp)) hs_wp ((xs_k hg113 (by decide)).trans ((hg76 a0 13 0 36 hs_a0 (by decide)).trans ewq)) hs_wq ((xs_k hg113 (by decide)).trans ((hg76 a0 13 0 37 hs_a0 (by decide)).trans ewn)) hs_wn) hs_a0 ⟨by decide, rfl⟩ kd52_2.2.2.2.2.1 rfl rfl (by simp [Value.category]) (by decide) (by decide) (by decide) (by decide) (fun r115 S117 g116 pr115 qr115 hg116 => ?_)
          obtain ⟨rfl, rfl, k118, k119, k120, k121⟩ := pr115
          refine X_st [] rfl ?_
          refine X_goto hK 0 kd52_2.2.2.2.2.2.1 (by decide) ?_
          exact ihP95  g116 (xM.tr (xM_up (xM.tr xM.rf xLe.rf hg76 (by decide)) hg113 hs_a0 (by decide) (by decide)) xLe.rf hg116 (by decide)) (q77 + 1) (by omega) (by omega) k118 (q78 - 1) (by omega) (by omega) ((hg116 a0 13 0 42 hs_a0 (by decide)).trans (xs_s hg113)) (xRd.join v96 (by omega) (by omega) (by omega) (by have h9 := k119; rw [(xv_a hg113 (xne hs_wp hs_a0 (by decide)))] at h9; exact h9)) (by omega) (by omega) (fun k q1 q2 => by rcases (show k = (q78 - 1) ∨ (q78 - 1) < k by omega) with c9 | c9 <;> first | (rw [c9]; omega) | exact v99 k (by omega) q2) (xLow.up v100 (by have h9 := k119; rw [(xv_a hg113 (xne hs_wp hs_a0 (by decide)))] at h9; exact h9) (by omega)) (by omega) (xDe9.nx v102 (by omega) (by omega) (by have h9 := (by have h9 := k119; rw [(xv_a hg113 (xne hs_wp hs_a0 (by decide)))] at h9; exact h9); refine ⟨?_, fun i9 r1 r2 => h9.2 i9 r1 (by omega)⟩; rw [show np + (nt - q78) = q77 by omega, h9.1]; omega) (fun i9 r1 r2 => by have h8 := k120; rw [(xv_a hg113 (xne hs_wq hs_a0 (by decide)))] at h8; exact h8.2 i9 r1 (by omega)) (fun i9 r1 r2 => by have h8 := k121; rw [(xv_a hg113 (xne hs_wn hs_a0 (by decide)))] at h8; exact h8.2 i9 r1 (by omega))) (by omega)
  exact P95 ((nt : Int).toNat + 1) g xM.rf np (by omega) (by omega) enp nt (by omega) (by omega) ent hp0 (by omega) (by omega) (fun k q1 q2 => by omega) xLow.rf (by omega) xDe9.rf (by omega)

set_option maxHeartbeats 4000000 in
set_option maxRecDepth 100000 in
theorem m_dropNots (l : Launch) (D : va_G) (kA : Nat → ClassId) (b0 : Nat) (t0 : Nat → Nat) (S : xT) (g : xG) (a0 : Nat) (np : Int) (nt : Int) (no : Int) (nw : Int) (wp : Nat) (wl : Nat) (wq : Nat) (wn : Nat) (F9 : Int) (hs_a0 : S a0 = some (13, 0)) (hnp : 0 ≤ np ∧ np ≤ 120) (enp : g a0 41 = .int (iI np)) (hnt : 0 ≤ nt ∧ nt ≤ 64) (ent : g a0 42 = .int (iI nt)) (hno : 0 ≤ no ∧ no ≤ 50) (eno : g a0 43 = .int (iI no)) (hnw : 0 ≤ nw ∧ nw ≤ 10) (enw : g a0 44 = .int (iI nw)) (ewp : g a0 35 = .ref wp) (hs_wp : S wp = some (15900, 1320)) (ewl : g a0 38 = .ref wl) (hs_wl : S wl = some (16200, 64)) (ewq : g a0 36 = .ref wq) (hs_wq : S wq = some (16000, 1320)) (ewn : g a0 37 = .ref wn) (hs_wn : S wn = some (16100, 1320)) (hp0 : xRd (xv g wp) (xv g wl) F9 np nt no nw 0) : xMt l yX12_dropNots cX12_dropNots 1 none 1 0 0 24 D kA b0 t0 [(13, 42), (13, 44), (15900, 0), (16000, 0), (16100, 0), (13, 41)] [.ref a0] S g (fun (r : Option Value) (S1 : xT) (g1 : xG) => S = S1 ∧ r = none ∧ (∃ a b c : Int, g1 a0 41 = .int (iI a) ∧ np ≤ a ∧ a ≤ 120 ∧ g1 a0 42 = .int (iI b) ∧ 0 ≤ b ∧ b ≤ nt ∧ g1 a0 44 = .int (iI c) ∧ 0 ≤ c ∧ c ≤ 10 ∧ xRd (xv g1 wp) (xv g wl) F9 a b no c 0 ∧ xLow (1200 + F9) (xv g1 wp) (xv g wp) ∧ c = nw - (nt - b) ∧ (b = 0 ∨ xv g wl (b - 1) ≠ 12) ∧ (∀ k, b ≤ k → k < nt → xv g wl k = 12) ∧ a = np + (nt - b) ∧ xDe9 (xv g wp) (xv g wq) (xv g wn) (xv g1 wp) (xv g1 wq) (xv g1 wn) (xv g wl) np nt b)) := by
  refine xEnterV (by decide) (by simp [lg_sl, Value.category]) [(0, .ref a0)] rfl ?_
  intro K E hK hret _ _ _
  have P80 : ∀ (nP80 : Nat) (g64 : xG) (_ : xM [(15900, 0), (16000, 0), (16100, 0), (13, 41), (13, 44), (13, 42)] S g g64) (q65 : Int) (_ : 0 ≤ q65) (_ : q65 ≤ 120) (_ : g64 a0 41 = .int (iI q65)) (q66 : Int) (_ : 0 ≤ q66) (_ : q66 ≤ 64) (_ : g64 a0 42 = .int (iI q66)) (q67 : Int) (_ : 0 ≤ q67) (_ : q67 ≤ 10) (_ : g64 a0 44 = .int (iI q67)) (_ : xRd (xv g64 wp) (xv g wl) F9 q65 q66 no q67 0) (_ : q66 ≤ nt) (_ : np ≤ q65) (_ : xLow (1200 + F9) (xv g64 wp) (xv g wp)) (_ : q67 = nw - (nt - q66)) (_ : ∀ k, q66 ≤ k → k < nt → xv g wl k = 12) (_ : q65 = np + (nt - q66)) (_ : xDe9 (xv g wp) (xv g wq) (xv g wn) (xv g64 wp) (xv g64 wq) (xv g64 wn) (xv g wl) np nt q66) (_ : q66 < (nP80 : Int)), X K E 0 [(0, .ref a0)] [] S g64 0 0 := by
    intro nP80
    induction nP80 with
    | zero => intro g64 hg64 q65 lq65 uq65 eq65 q66 lq66 uq66 eq66 q67 lq67 uq67 eq67 v81 v82 v83 v84 v85 v86 v87 v88 mP80; exact False.elim (by omega)
    | succ nP80 ihP80 =>
      intro g64 hg64 q65 lq65 uq65 eq65 q66 lq66 uq66 eq66 q67 lq67 uq67 eq67 v81 v82 v83 v84 v85 v86 v87 v88 mP80
      refine X_aloadn hK (i := 0) 0 kd52_2.2.2.2.2.2.2.2.1 rfl rfl ?_
      have hbh89 := xRd.bd v81 (by omega)
      refine X_getK hK fl_X12_316_13 hs_a0 eq66 kd52_2.2.2.2.2.2.2.2.2.1 ?_
      refine X_if_le hK 54 (by omega) kd52_2.2.2.2.2.2.2.2.2.2.1 (by decide) (fun c90 => ?_) (fun c90 => ?_)
      · exact hret _ _ _ _ _ _ kd52_5.2.1 ⟨rfl, rfl, ⟨q65, q66, q67, eq65, by omega, by omega, eq66, by omega, by omega, eq67, by omega, by omega, v81, v84, by omega, by omega, v86, by omega, v88⟩⟩ (Nat.le_refl _) (Nat.le_refl _)
      · refine X_aloadn hK (i := 0) 0 kd52_2.2.2.2.2.2.2.2.2.2.2.1 rfl rfl ?_
        refine X_getK hK fl_X12_77_13 hs_a0 ((hg64 a0 13 0 38 hs_a0 (by decide)).trans ewl) kd52_2.2.2.2.2.2.2.2.2.2.2.2 ?_
        refine X_aloadn hK (i := 0) 0 kd52_3.1 rfl rfl ?_
        refine X_getK hK fl_X12_316_13 hs_a0 eq66 kd52_3.2.1 ?_
        refine X_iconst hK kd52_3.2.2.1 ?_
        refine X_isub hK kd52_3.2.2.2.1 ?_
        refine X_iald hK hs_wl (by decide) sl_16200 (by omega) (by omega) kd52_3.2.2.2.2.1 (fun z91 ez91 lz91 uz91 => ?_)
        have hzh92 : xv g wl (q66 - 1) = z91 := by have h9 := xv_e (j := (q66 - 1)) ez91 (by omega); rw [(xv_m hg64 hs_wl (by decide) (by decide))] at h9; exact h9
        refine X_bipush hK kd52_3.2.2.2.2.2.1 (by decide) ?_
        refine X_icmp_ne hK 54 (by omega) (by omega) kd52_3.2.2.2.2.2.2.1 (by decide) (fun c93 => ?_) (fun c93 => ?_)
        · exact hret _ _ _ _ _ _ kd52_5.2.1 ⟨rfl, rfl, ⟨q65, q66, q67, eq65, by omega, by omega, eq66, by omega, by omega, eq67, by omega, by omega, v81, v84, by omega, by omega, v86, by omega, v88⟩⟩ (Nat.le_refl _) (Nat.le_refl _)
        · refine X_aloadn hK (i := 0) 0 kd52_3.2.2.2.2.2.2.2.1 rfl rfl ?_
          refine X_dup hK kd52_3.2.2.2.2.2.2.2.2.1 rfl ?_
          have hwh94 := xRd.bd (xRd.paren v81 (by omega) (by omega)) (by omega)
          refine X_getK hK fl_X12_316_13 hs_a0 eq66 kd52_3.2.2.2.2.2.2.2.2.2.1 ?_
          refine X_iconst hK kd52_3.2.2.2.2.2.2.2.2.2.2.1 ?_
          refine X_isub hK kd52_3.2.2.2.2.2.2.2.2.2.2.2 ?_
          refine X_puti hK fl_X12_316_13 hs_a0 (by decide) sl_13_42 (by omega) (by omega) kd52_4.1 (fun g95 hg95 => ?_)
          refine X_aloadn hK (i := 0) 0 kd52_4.2.1 rfl rfl ?_
          refine X_dup hK kd52_4.2.2.1 rfl ?_
          refine X_getK hK fl_X12_339_13 hs_a0 ((xs_k hg95 (by decide)).trans eq67) kd52_4.2.2.2.1 ?_
          refine X_iconst hK kd52_4.2.2.2.2.1 ?_
          refine X_isub hK kd52_4.2.2.2.2.2.1 ?_
          refine X_puti hK fl_X12_339_13 hs_a0 (by decide) sl_13_44 (by omega) (by omega) kd52_4.2.2.2.2.2.2.1 (fun g96 hg96 => ?_)
          refine X_aloadn hK (i := 0) 0 kd52_4.2.2.2.2.2.2.2.1 rfl rfl ?_
          refine X_bipush hK kd52_4.2.2.2.2.2.2.2.2.1 (by decide) ?_
          refine X_iconst hK kd52_4.2.2.2.2.2.2.2.2.2.1 ?_
          refine X_iconst hK kd52_4.2.2.2.2.2.2.2.2.2.2.1 ?_
          refine X_callV hK [.int (iI 12), .int (iI 0), .int (iI 0)] [] lk_X12_319 (m_emit _ _ _ _ _ S g96 a0 12 0 0 q65 wp wq wn hs_a0 (by omega) (by omega) (by omega) (by omega) ((xs_k hg96 (by decide)).trans ((xs_k hg95 (by decide)).trans eq65)) ((xs_k hg96 (by decide)).trans ((xs_k hg95 (by decide)).trans ((hg64 a0 13 0 35 hs_a0 (by decide)).trans ewp))) hs_wp ((xs_k hg96 (by decide)).trans ((xs_k hg95 (by decide)).trans ((hg64 a0 13 0 36 hs_a0 (by decide)).trans ewq))) hs_wq ((xs_k hg96 (by decide)).trans ((xs_k hg95 (by decide)).trans ((hg64 a0 13 0 37 hs_a0 (by decide)).trans ewn))) hs_wn) hs_a0 ⟨by decide, rfl⟩ kd52_4.2.2.2.2.2.2.2.2.2.2.2 rfl rfl (by simp [Value.category]) (by decide) (by decide) (by decide) (by decide) (fun r97 S99 g98 pr97 qr97 hg98 => ?_)
          obtain ⟨rfl, rfl, k100, k101, k102, k103⟩ := pr97
          refine X_st [] rfl ?_
          refine X_goto hK 0 kd52_5.1 (by decide) ?_
          exact ihP80  g98 (xM.tr (xM_up (xM_up (xM.tr xM.rf xLe.rf hg64 (by decide)) hg95 hs_a0 (by decide) (by decide)) hg96 hs_a0 (by decide) (by decide)) xLe.rf hg98 (by decide)) (q65 + 1) (by omega) (by omega) k100 (q66 - 1) (by omega) (by omega) ((hg98 a0 13 0 42 hs_a0 (by decide)).trans ((xs_k hg96 (by decide)).trans (xs_s hg95))) (q67 - 1) (by omega) (by omega) ((hg98 a0 13 0 44 hs_a0 (by decide)).trans (xs_s hg96)) (xRd.not v81 (by omega) (by omega) (by have h9 := k101; rw [(Eq.trans (xv_a hg96 (xne hs_wp hs_a0 (by decide))) (xv_a hg95 (xne hs_wp hs_a0 (by decide))))] at h9; exact h9)) (by omega) (by omega) (xLow.up v84 (by have h9 := k101; rw [(Eq.trans (xv_a hg96 (xne hs_wp hs_a0 (by decide))) (xv_a hg95 (xne hs_wp hs_a0 (by decide))))] at h9; exact h9) (by omega)) (by omega) (fun k q1 q2 => by rcases (show k = (q66 - 1) ∨ (q66 - 1) < k by omega) with c9 | c9 <;> first | (rw [c9]; omega) | exact v86 k (by omega) q2) (by omega) (xDe9.nx v88 (by omega) (by omega) (by have h9 := (by have h9 := k101; rw [(Eq.trans (xv_a hg96 (xne hs_wp hs_a0 (by decide))) (xv_a hg95 (xne hs_wp hs_a0 (by decide))))] at h9; exact h9); refine ⟨?_, fun i9 r1 r2 => h9.2 i9 r1 (by omega)⟩; rw [show np + (nt - q66) = q65 by omega, h9.1]; omega) (fun i9 r1 r2 => by have h8 := k102; rw [(Eq.trans (xv_a hg96 (xne hs_wq hs_a0 (by decide))) (xv_a hg95 (xne hs_wq hs_a0 (by decide))))] at h8; exact h8.2 i9 r1 (by omega)) (fun i9 r1 r2 => by have h8 := k103; rw [(Eq.trans (xv_a hg96 (xne hs_wn hs_a0 (by decide))) (xv_a hg95 (xne hs_wn hs_a0 (by decide))))] at h8; exact h8.2 i9 r1 (by omega))) (by omega)
  exact P80 ((nt : Int).toNat + 1) g xM.rf np (by omega) (by omega) enp nt (by omega) (by omega) ent nw (by omega) (by omega) enw hp0 (by omega) (by omega) xLow.rf (by omega) (fun k q1 q2 => by omega) (by omega) xDe9.rf (by omega)
