
set_option maxHeartbeats 4000000 in
set_option maxRecDepth 100000 in
theorem c3_readMay (l : Launch) (D : va_G) (kA : Nat → ClassId) (b0 : Nat) (t0 : Nat → Nat) (S : xT) (g : xG) (a0 : Nat) (na : Int) (no : Int) (nf : Int) (nq : Int) (wt : Nat) (wp : Nat) (tk : Int → Int) (tl : Int → Int) (cn : Int) (hs_a0 : S a0 = some (8, 0)) (hna : 0 ≤ na ∧ na ≤ 300) (ena : g a0 2 = .int (iI na)) (hno : 0 ≤ no ∧ no ≤ 50) (eno : g a0 3 = .int (iI no)) (hnf : (-2147483648) ≤ nf ∧ nf ≤ 2147483647) (enf : g a0 5 = .int (iI nf)) (hnq : 0 ≤ nq ∧ nq ≤ 300) (enq : g a0 6 = .int (iI nq)) (ewt : g a0 0 = .ref wt) (hs_wt : S wt = some (12900, 301)) (ewp : g a0 1 = .ref wp) (hs_wp : S wp = some (13000, 301)) (hp0 : xTB (xv g wt) (xv g wp) tk tl cn) (hp1 : na ≤ cn) (hp2 : cn ≤ 300) : xMt l yX7_readMay cX7_readMay 1 (some .int) 1 0 0 20 D kA b0 t0 [(8, 2)] [.ref a0] S g (fun (r : Option Value) (S1 : xT) (g1 : xG) => S = S1 ∧ ∃ z : Int, r = some (.int (iI z)) ∧ 0 ≤ z ∧ z ≤ 1 ∧ (∃ F a o q : Int, g1 a0 5 = .int (iI F) ∧ -2147483648 ≤ F ∧ F ≤ 2147483647 ∧ g1 a0 2 = .int (iI a) ∧ 0 ≤ a ∧ a ≤ cn ∧ g1 a0 3 = .int (iI o) ∧ 0 ≤ o ∧ o ≤ 50 ∧ g1 a0 6 = .int (iI q) ∧ 0 ≤ q ∧ q ≤ 300 ∧ ((tk na = 7 ∧ a = na + 1 ∧ z = 0) ∨ (tk na ≠ 7 ∧ a = na ∧ z = 1)) ∧ F = nf ∧ o = no ∧ q = nq)) := by
  refine xEnterI (by decide) (by simp [lg_sl, Value.category]) [(0, .ref a0)] rfl ?_
  intro K E hK hret _ _ _
  refine X_aloadn hK (i := 0) 0 kd29_17.2.2.1 rfl rfl ?_
  refine X_callV hK [] [] lk_X7_47 (c3_now _ _ _ _ _ S g a0 na wt wp tk tl cn hs_a0 (by omega) ena ewt hs_wt ewp hs_wp hp0 (by omega) (by omega)) hs_a0 ⟨by decide, rfl⟩ kd29_17.2.2.2.1 rfl rfl (by simp [Value.category]) (by decide) (by decide) (by decide) (by decide) (fun r1 S3 g2 pr1 qr1 hg2 => ?_)
  obtain ⟨rfl, rfl, z4, rfl, lz4, uz4, k5⟩ := pr1
  refine X_st [.int (iI z4)] rfl ?_
  refine X_bipush hK kd29_17.2.2.2.2.1 (by decide) ?_
  refine X_icmp_ne hK 21 (by omega) (by omega) kd29_17.2.2.2.2.2.1 (by decide) (fun c6 => ?_) (fun c6 => ?_)
  · refine X_iconst hK kd29_18.2.2.1 ?_
    exact hret _ _ _ _ _ _ _ kd29_18.2.2.2.1 ⟨rfl, 1, rfl, (by omega), (by omega), ⟨nf, na, no, nq, enf, by omega, by omega, ena, by omega, by omega, eno, by omega, by omega, enq, by omega, by omega, ⟨(by rw [← k5]; omega), rfl, rfl, rfl⟩⟩⟩ (Nat.le_refl _) (Nat.le_refl _)
  · refine X_aloadn hK (i := 0) 0 kd29_17.2.2.2.2.2.2.1 rfl rfl ?_
    refine X_dup hK kd29_17.2.2.2.2.2.2.2.1 rfl ?_
    have hl7 := xTB.lt (a := na) (show xTB (xv g wt) (xv g wp) tk tl cn from hp0) (by omega) (by rw [← k5]; omega)
    refine X_getK hK fl_X7_18_8 hs_a0 ena kd29_17.2.2.2.2.2.2.2.2.1 ?_
    refine X_iconst hK kd29_17.2.2.2.2.2.2.2.2.2.1 ?_
    refine X_iadd hK kd29_17.2.2.2.2.2.2.2.2.2.2.1 ?_
    refine X_puti hK fl_X7_18_8 hs_a0 (by decide) sl_8_2 (by omega) (by omega) kd29_17.2.2.2.2.2.2.2.2.2.2.2 (fun g8 hg8 => ?_)
    refine X_iconst hK kd29_18.1 ?_
    exact hret _ _ _ _ _ _ _ kd29_18.2.1 ⟨rfl, 0, rfl, (by omega), (by omega), ⟨nf, (na + 1), no, nq, ((xs_k hg8 (by decide)).trans enf), by omega, by omega, (xs_s hg8), by omega, by omega, ((xs_k hg8 (by decide)).trans eno), by omega, by omega, ((xs_k hg8 (by decide)).trans enq), by omega, by omega, ⟨(by rw [← k5]; omega), rfl, rfl, rfl⟩⟩⟩ (Nat.le_refl _) (Nat.le_refl _)

set_option maxHeartbeats 4000000 in
set_option maxRecDepth 100000 in
theorem c3_readNumber (l : Launch) (D : va_G) (kA : Nat → ClassId) (b0 : Nat) (t0 : Nat → Nat) (S : xT) (g : xG) (a0 : Nat) (na : Int) (no : Int) (nf : Int) (nq : Int) (wt : Nat) (wp : Nat) (tk : Int → Int) (tl : Int → Int) (cn : Int) (hs_a0 : S a0 = some (8, 0)) (hna : 0 ≤ na ∧ na ≤ 300) (ena : g a0 2 = .int (iI na)) (hno : 0 ≤ no ∧ no ≤ 50) (eno : g a0 3 = .int (iI no)) (hnf : 0 ≤ nf ∧ nf ≤ 0) (enf : g a0 5 = .int (iI nf)) (hnq : 0 ≤ nq ∧ nq ≤ 300) (enq : g a0 6 = .int (iI nq)) (ewt : g a0 0 = .ref wt) (hs_wt : S wt = some (12900, 301)) (ewp : g a0 1 = .ref wp) (hs_wp : S wp = some (13000, 301)) (hp0 : xTB (xv g wt) (xv g wp) tk tl cn) (hp1 : na ≤ cn) (hp2 : cn ≤ 300) : xMt l yX7_readNumber cX7_readNumber 2 (some .int) 1 0 0 21 D kA b0 t0 [(8, 2), (8, 5), (8, 6)] [.ref a0] S g (fun (r : Option Value) (S1 : xT) (g1 : xG) => S = S1 ∧ ∃ z : Int, r = some (.int (iI z)) ∧ (-100) ≤ z ∧ z ≤ 9999 ∧ (∃ F a o q : Int, g1 a0 5 = .int (iI F) ∧ -2147483648 ≤ F ∧ F ≤ 2147483647 ∧ g1 a0 2 = .int (iI a) ∧ 0 ≤ a ∧ a ≤ cn ∧ g1 a0 3 = .int (iI o) ∧ 0 ≤ o ∧ o ≤ 50 ∧ g1 a0 6 = .int (iI q) ∧ 0 ≤ q ∧ q ≤ 300 ∧ z = tk na - 100 ∧ o = no ∧ ((z < 0 ∧ a = na ∧ F = 1 ∧ q = tl na) ∨ (1000 < z ∧ a = na ∧ F = 2 ∧ q = tl na) ∨ (0 ≤ z ∧ z ≤ 1000 ∧ a = na + 1 ∧ F = 0 ∧ q = nq)))) := by
  refine xEnterI (by decide) (by simp [lg_sl, Value.category]) [(0, .ref a0)] rfl ?_
  intro K E hK hret _ _ _
  refine X_aloadn hK (i := 0) 0 kd29_18.2.2.2.2.1 rfl rfl ?_
  refine X_callV hK [] [] lk_X7_47 (c3_now _ _ _ _ _ S g a0 na wt wp tk tl cn hs_a0 (by omega) ena ewt hs_wt ewp hs_wp hp0 (by omega) (by omega)) hs_a0 ⟨by decide, rfl⟩ kd29_18.2.2.2.2.2.1 rfl rfl (by simp [Value.category]) (by decide) (by decide) (by decide) (by decide) (fun r1 S3 g2 pr1 qr1 hg2 => ?_)
  obtain ⟨rfl, rfl, z4, rfl, lz4, uz4, k5⟩ := pr1
  refine X_st [.int (iI z4)] rfl ?_
  refine X_bipush hK kd29_18.2.2.2.2.2.2.1 (by decide) ?_
  refine X_isub hK kd29_18.2.2.2.2.2.2.2.1 ?_
  refine X_istoren hK (i := 1) [(1, .int (iI (z4 - 100))), (0, .ref a0)] kd29_18.2.2.2.2.2.2.2.2.1 rfl (by decide) rfl ?_
  refine X_iloadn hK (i := 1) 0 kd29_18.2.2.2.2.2.2.2.2.2.1 rfl rfl ?_
  refine X_if_ge hK 20 (by omega) kd29_18.2.2.2.2.2.2.2.2.2.2.1 (by decide) (fun c6 => ?_) (fun c6 => ?_)
  · refine X_iloadn hK (i := 1) 0 kd29_19.2.2.2.1 rfl rfl ?_
    refine X_sipush hK kd29_19.2.2.2.2.1 (by decide) ?_
    refine X_icmp_le hK 35 (by omega) (by omega) kd29_19.2.2.2.2.2.1 (by decide) (fun c7 => ?_) (fun c7 => ?_)
    · refine X_aloadn hK (i := 0) 1 kd29_19.2.2.2.2.2.2.2.2.2.2.1 rfl rfl ?_
      refine X_dup hK kd29_19.2.2.2.2.2.2.2.2.2.2.2 rfl ?_
      have hl8 := xTB.lt (a := na) (show xTB (xv g wt) (xv g wp) tk tl cn from hp0) (by omega) (by rw [← k5]; omega)
      refine X_getK hK fl_X7_18_8 hs_a0 ena kd29_20.1 ?_
      refine X_iconst hK kd29_20.2.1 ?_
      refine X_iadd hK kd29_20.2.2.1 ?_
      refine X_puti hK fl_X7_18_8 hs_a0 (by decide) sl_8_2 (by omega) (by omega) kd29_20.2.2.2.1 (fun g9 hg9 => ?_)
      refine X_iloadn hK (i := 1) 0 kd29_20.2.2.2.2.1 rfl rfl ?_
      exact hret _ _ _ _ _ _ _ kd29_20.2.2.2.2.2.1 ⟨rfl, (z4 - 100), rfl, (by omega), (by omega), ⟨nf, (na + 1), no, nq, ((xs_k hg9 (by decide)).trans enf), by omega, by omega, (xs_s hg9), by omega, by omega, ((xs_k hg9 (by decide)).trans eno), by omega, by omega, ((xs_k hg9 (by decide)).trans enq), by omega, by omega, ⟨by rw [← k5], rfl, Or.inr (Or.inr ⟨by omega, by omega, rfl, by omega, rfl⟩)⟩⟩⟩ (Nat.le_refl _) (Nat.le_refl _)
    · refine X_aloadn hK (i := 0) 1 kd29_19.2.2.2.2.2.2.1 rfl rfl ?_
      refine X_iconst hK kd29_19.2.2.2.2.2.2.2.1 ?_
      refine X_callV hK [.int (iI 2)] [] lk_X7_60 (c3_tell _ _ _ _ _ S g a0 2 na no nf nq wt wp tk tl cn hs_a0 (by omega) (by omega) ena (by omega) eno (by omega) enf (by omega) enq ewt hs_wt ewp hs_wp hp0 (by omega) (by omega)) hs_a0 ⟨by decide, rfl⟩ kd29_19.2.2.2.2.2.2.2.2.1 rfl rfl (by simp [Value.category]) (by decide) (by decide) (by decide) (by decide) (fun r10 S12 g11 pr10 qr10 hg11 => ?_)
      obtain ⟨rfl, rfl, k13⟩ := pr10
      refine X_st [] rfl ?_
      obtain ⟨Ft14, at14, ot14, qt14, eFt14, lFt14, uFt14, eat14, lat14, uat14, eot14, lot14, uot14, eqt14, lqt14, uqt14, kt14⟩ := k13
      have cat14 : at14 ≤ 300 := by have h9 := (show xTB (xv g11 wt) (xv g11 wp) tk tl cn from (by rw [(xv_m hg11 hs_wt (by decide) (by decide)), (xv_m hg11 hs_wp (by decide) (by decide))]; exact hp0)).2.2.2; omega
      refine X_goto hK 45 kd29_19.2.2.2.2.2.2.2.2.2.1 (by decide) ?_
      refine X_iloadn hK (i := 1) 0 kd29_20.2.2.2.2.1 rfl rfl ?_
      exact hret _ _ _ _ _ _ _ kd29_20.2.2.2.2.2.1 ⟨rfl, (z4 - 100), rfl, (by omega), (by omega), ⟨Ft14, at14, ot14, qt14, eFt14, by omega, by omega, eat14, by omega, by omega, eot14, by omega, by omega, eqt14, by omega, by omega, ⟨by rw [← k5], by omega, (by obtain ⟨h8, h7, h6⟩ := kt14; have h5 := h8.resolve_left (fun q9 => by omega); first | exact Or.inl ⟨by omega, by omega, by omega, h5.2.2⟩ | exact Or.inr (Or.inl ⟨by omega, by omega, by omega, h5.2.2⟩))⟩⟩⟩ (Nat.le_refl _) (Nat.le_refl _)
  · refine X_aloadn hK (i := 0) 1 kd29_18.2.2.2.2.2.2.2.2.2.2.2 rfl rfl ?_
    refine X_iconst hK kd29_19.1 ?_
    refine X_callV hK [.int (iI 1)] [] lk_X7_60 (c3_tell _ _ _ _ _ S g a0 1 na no nf nq wt wp tk tl cn hs_a0 (by omega) (by omega) ena (by omega) eno (by omega) enf (by omega) enq ewt hs_wt ewp hs_wp hp0 (by omega) (by omega)) hs_a0 ⟨by decide, rfl⟩ kd29_19.2.1 rfl rfl (by simp [Value.category]) (by decide) (by decide) (by decide) (by decide) (fun r15 S17 g16 pr15 qr15 hg16 => ?_)
    obtain ⟨rfl, rfl, k18⟩ := pr15
    refine X_st [] rfl ?_
    obtain ⟨Ft19, at19, ot19, qt19, eFt19, lFt19, uFt19, eat19, lat19, uat19, eot19, lot19, uot19, eqt19, lqt19, uqt19, kt19⟩ := k18
    have cat19 : at19 ≤ 300 := by have h9 := (show xTB (xv g16 wt) (xv g16 wp) tk tl cn from (by rw [(xv_m hg16 hs_wt (by decide) (by decide)), (xv_m hg16 hs_wp (by decide) (by decide))]; exact hp0)).2.2.2; omega
    refine X_goto hK 45 kd29_19.2.2.1 (by decide) ?_
    refine X_iloadn hK (i := 1) 0 kd29_20.2.2.2.2.1 rfl rfl ?_
    exact hret _ _ _ _ _ _ _ kd29_20.2.2.2.2.2.1 ⟨rfl, (z4 - 100), rfl, (by omega), (by omega), ⟨Ft19, at19, ot19, qt19, eFt19, by omega, by omega, eat19, by omega, by omega, eot19, by omega, by omega, eqt19, by omega, by omega, ⟨by rw [← k5], by omega, (by obtain ⟨h8, h7, h6⟩ := kt19; have h5 := h8.resolve_left (fun q9 => by omega); first | exact Or.inl ⟨by omega, by omega, by omega, h5.2.2⟩ | exact Or.inr (Or.inl ⟨by omega, by omega, by omega, h5.2.2⟩))⟩⟩⟩ (Nat.le_refl _) (Nat.le_refl _)
